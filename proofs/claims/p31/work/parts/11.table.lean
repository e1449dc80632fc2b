
/-- the cells of a Table: conditions, answers, costs, rows added, rows, their numbers, sets, actions -/
def wT (kA : Nat → ClassId) (q : Nat → Nat) (cc : Nat) (ac co : Nat → Nat) (ad rc : Nat) (nm st an : Nat → Nat) : va_W :=
  [(q 0, .inr (4, [.int (nI cc), .ref (q 1), .ref (q 2), .int (nI ad), .int (nI rc), .ref (q 3), .ref (q 4), .ref (q 5)])),
   (q 1, .inl (kA 0, 5, .inl (aN ac))), (q 2, .inl (kA 0, 5, .inl (aN co))), (q 3, .inl (kA 0, 20, .inl (aN nm))), (q 4, .inl (kA 0, 20, .inl (aN st))), (q 5, .inl (kA 0, 20, .inl (aN an)))]
theorem arrV_cong (cA : ClassId) {n : Nat} {f g : Nat → Value} (h : ∀ j, j < n → f j = g j) : arrV cA n f = arrV cA n g := by
  unfold arrV
  congr 1
  apply Array.ext
  · simp
  · intro i h1 h2
    simp only [Array.getElem_ofFn]
    exact h i (by simpa using h1)
theorem vp_cell_cong (cA : ClassId) {n : Nat} {f g : Nat → Int32} (h : ∀ j, j < n → f j = g j) : vp_cell cA (n, .inl f) = vp_cell cA (n, .inl g) := by
  rw [vp_cell_i, vp_cell_i]
  exact arrV_cong cA (fun j hj => by rw [h j hj])
theorem va_P_app {D : va_G} {cl : List vw_C} {w1 w2 : va_W} {H : Heap} : va_P D cl (w1 ++ w2) H ↔ va_P D cl w1 H ∧ va_P D cl w2 H :=
  ⟨fun h => ⟨h.mem (fun q hq => List.mem_append_left _ hq), h.mem (fun q hq => List.mem_append_right _ hq)⟩, fun h => h.1.app h.2⟩
theorem va_D_cong {A : Nat → Prop} {ws ws' : va_W} (h : va_D A ws) (e : ws.map (fun q => q.1) = ws'.map (fun q => q.1)) : va_D A ws' := by
  refine va_D_of ?_ ?_
  · have := va_D_nd h
    unfold va_nds at this ⊢
    rw [← e]; exact this
  · intro q hq
    have h2 : q.1 ∈ ws.map (fun q => q.1) := by rw [e]; exact List.mem_map.mpr ⟨q, hq, rfl⟩
    obtain ⟨q', h3, h4⟩ := List.mem_map.mp h2
    obtain ⟨k, hk⟩ := List.getElem?_of_mem h3
    rw [← h4]
    exact h.2 k q' hk
/-- an array's contents matter within its length alone -/
theorem va_P_arr {D : va_G} {cl : List vw_C} {a n : Nat} {cA : ClassId} {f g : Nat → Int32} {H : Heap} {w : va_W} (h : va_P D cl ((a, .inl (cA, n, .inl f)) :: w) H) (e : ∀ j, j < n → f j = g j) : va_P D cl ((a, .inl (cA, n, .inl g)) :: w) H := by
  intro k q hk
  cases k with
  | zero =>
    rw [List.getElem?_cons_zero] at hk
    cases hk
    have h0 := h 0 _ rfl
    have h1 : H[a]? = some (vp_cell cA (n, .inl f)) := h0
    show H[a]? = some (vp_cell cA (n, .inl g))
    rw [h1, vp_cell_cong cA e]
  | succ k => exact h (k + 1) q hk
theorem va_P_cons {D : va_G} {cl : List vw_C} {c : Nat × va_E} {w : va_W} {H : Heap} : va_P D cl (c :: w) H ↔ va_at D cl c H ∧ va_P D cl w H :=
  ⟨fun h => ⟨h 0 _ rfl, fun k q hk => h (k + 1) q hk⟩, fun h k q hk => by
    cases k with
    | zero => rw [List.getElem?_cons_zero] at hk; cases hk; exact h.1
    | succ k => exact h.2 k q hk⟩
theorem va_at_arr {D : va_G} {cl : List vw_C} {a n : Nat} {cA : ClassId} {f g : Nat → Int32} {H : Heap} (h : va_at D cl (a, .inl (cA, n, .inl f)) H) (e : ∀ j, j < n → f j = g j) : va_at D cl (a, .inl (cA, n, .inl g)) H := by
  have h1 : H[a]? = some (vp_cell cA (n, .inl f)) := h
  show H[a]? = some (vp_cell cA (n, .inl g))
  rw [h1, vp_cell_cong cA e]
theorem wT_P {D : va_G} {kA : Nat → ClassId} {q : Nat → Nat} {cc ad rc cc' ad' rc' : Nat} {ac co nm st an ac' co' nm' st' an' : Nat → Nat} {H : Heap} (h : va_P D vwCl (wT kA q cc ac co ad rc nm st an) H) (e1 : cc = cc') (e2 : ad = ad') (e3 : rc = rc') (h1 : ∀ k, k < 5 → ac k = ac' k) (h2 : ∀ k, k < 5 → co k = co' k) (h3 : ∀ k, k < 20 → nm k = nm' k) (h4 : ∀ k, k < 20 → st k = st' k) (h5 : ∀ k, k < 20 → an k = an' k) : va_P D vwCl (wT kA q cc' ac' co' ad' rc' nm' st' an') H := by
  subst e1; subst e2; subst e3
  unfold wT at h ⊢
  simp only [va_P_cons] at h ⊢
  obtain ⟨g0, g1, g2, g3, g4, g5, g6⟩ := h
  exact ⟨g0, va_at_arr g1 (fun j hj => congrArg nI (h1 j hj)), va_at_arr g2 (fun j hj => congrArg nI (h2 j hj)), va_at_arr g3 (fun j hj => congrArg nI (h3 j hj)), va_at_arr g4 (fun j hj => congrArg nI (h4 j hj)), va_at_arr g5 (fun j hj => congrArg nI (h5 j hj)), g6⟩
def fulN (a : Nat) : Nat := (1 <<< a) - 1
theorem one_shl (a : Nat) : 1 ≤ 1 <<< a := by rw [Nat.shiftLeft_eq, Nat.one_mul]; exact Nat.one_le_two_pow
theorem fulN_lt {a : Nat} (h : a ≤ 4) : fulN a < 16 := by
  have : ∀ a, a < 5 → fulN a < 16 := by decide
  exact this a (by omega)
def nibN (x k : Nat) : Nat := (x >>> (4 * k)) &&& 15
theorem nibN_lt (x k : Nat) : nibN x k < 16 := by
  have h : nibN x k ≤ 15 := Nat.and_le_right
  omega
theorem shr_le (x k : Nat) : x >>> k ≤ x := by rw [Nat.shiftRight_eq_div_pow]; exact Nat.div_le_self _ _
def isSetB (x : Int32) (f : Nat) : Bool := decide (0 < x) && decide (x ≤ nI f)
theorem isSetB_t {x : Int32} {f : Nat} (h1 : ¬ x ≤ 0) (h2 : ¬ nI f < x) : nI 1 = bI (isSetB x f) := by
  unfold isSetB; rw [decide_eq_true (i_not_le.mp h1), decide_eq_true (i_not_lt.mp h2)]; rfl
theorem isSetB_f1 {x : Int32} {f : Nat} (h1 : x ≤ 0) : nI 0 = bI (isSetB x f) := by
  unfold isSetB; rw [decide_eq_false (fun h => absurd h1 (i_not_le.mpr h))]; rfl
theorem isSetB_f2 {x : Int32} {f : Nat} (h2 : nI f < x) : nI 0 = bI (isSetB x f) := by
  unfold isSetB; rw [decide_eq_false (p := x ≤ nI f) (fun h => absurd h (i_not_le.mpr h2)), Bool.and_false]; rfl
/-- the first index below n of which f says true -/
def firstF (f : Nat → Bool) : Nat → Option Nat
  | 0 => none
  | n + 1 => match firstF f n with
    | some p => some p
    | none => if f n = true then some n else none
theorem firstF_none {f : Nat → Bool} : ∀ {n : Nat}, (∀ j, j < n → f j = false) → firstF f n = none
  | 0, _ => rfl
  | n + 1, h => by
    unfold firstF
    rw [firstF_none (fun j hj => h j (by omega))]
    exact if_neg (by rw [h n (by omega)]; decide)
theorem firstF_some {f : Nat → Bool} {p : Nat} (h : ∀ j, j < p → f j = false) (hp : f p = true) : ∀ {n : Nat}, p < n → firstF f n = some p
  | 0, hn => absurd hn (Nat.not_lt_zero _)
  | n + 1, hn => by
    unfold firstF
    by_cases e : p = n
    · subst e
      rw [firstF_none h]
      exact if_pos hp
    · rw [firstF_some h hp (by omega)]
theorem firstF_spec {f : Nat → Bool} {p : Nat} : ∀ {n : Nat}, firstF f n = some p → p < n ∧ f p = true ∧ ∀ j, j < p → f j = false
  | 0, h => by cases h
  | n + 1, h => by
    unfold firstF at h
    cases e : firstF f n with
    | some q =>
      rw [e] at h
      cases h
      obtain ⟨h1, h2⟩ := firstF_spec e
      exact ⟨by omega, h2⟩
    | none =>
      rw [e] at h
      by_cases h2 : f n = true
      · rw [if_pos h2] at h
        cases h
        refine ⟨by omega, h2, fun j hj => ?_⟩
        cases hf : f j with
        | false => rfl
        | true =>
          exfalso
          have h3 : ∀ m, j < m → firstF f m ≠ none := by
            intro m hm
            induction m with
            | zero => omega
            | succ m ih =>
              unfold firstF
              by_cases e2 : j = m
              · subst e2
                cases firstF f j with
                | some _ => exact fun h => by cases h
                | none => rw [if_pos hf]; exact fun h => by cases h
              · have := ih (by omega)
                cases h4 : firstF f m with
                | some _ => exact fun h => by cases h
                | none => exact absurd h4 this
          exact h3 _ hj e
      · rw [if_neg h2] at h
        cases h
theorem firstF_noneI {f : Nat → Bool} : ∀ {n : Nat}, firstF f n = none → ∀ j, j < n → f j = false
  | 0, _, j, hj => absurd hj (Nat.not_lt_zero _)
  | n + 1, h, j, hj => by
    unfold firstF at h
    cases e : firstF f n with
    | some q => rw [e] at h; cases h
    | none =>
      rw [e] at h
      by_cases h2 : f n = true
      · rw [if_pos h2] at h; cases h
      · by_cases e2 : j = n
        · subst e2; simpa using h2
        · exact firstF_noneI e j (by omega)
def placeF (nm : Nat → Nat) (row : Int32) (n : Nat) : Option Nat := firstF (fun j => decide (nI (nm j) = row)) n
theorem placeF_lt {nm : Nat → Nat} {row : Int32} {p n : Nat} (h : placeF nm row n = some p) : p < n := (firstF_spec h).1
/-- how many below n -/
def cntB (f : Nat → Bool) : Nat → Nat
  | 0 => 0
  | n + 1 => cntB f n + (if f n = true then 1 else 0)
theorem cntB_le (f : Nat → Bool) : ∀ n, cntB f n ≤ n
  | 0 => Nat.le_refl _
  | n + 1 => by
    unfold cntB
    have := cntB_le f n
    split <;> omega
/-- all below n -/
def allB (f : Nat → Bool) : Nat → Bool
  | 0 => true
  | n + 1 => allB f n && f n
theorem allB_t {f : Nat → Bool} : ∀ {n : Nat}, (∀ j, j < n → f j = true) → allB f n = true
  | 0, _ => rfl
  | n + 1, h => by unfold allB; rw [allB_t (fun j hj => h j (by omega)), h n (by omega)]; rfl
theorem allB_f {f : Nat → Bool} {p : Nat} (hp : f p = false) : ∀ {n : Nat}, p < n → allB f n = false
  | 0, hn => absurd hn (Nat.not_lt_zero _)
  | n + 1, hn => by
    unfold allB
    by_cases e : p = n
    · subst e; rw [hp, Bool.and_false]
    · rw [allB_f hp (by omega)]; rfl
theorem allB_i {f : Nat → Bool} : ∀ {n : Nat}, allB f n = true → ∀ j, j < n → f j = true
  | 0, _, j, hj => absurd hj (Nat.not_lt_zero _)
  | n + 1, h, j, hj => by
    unfold allB at h
    rw [Bool.and_eq_true] at h
    by_cases e : j = n
    · subst e; exact h.2
    · exact allB_i h.1 j (by omega)
/-- a product below n -/
def prodF (f : Nat → Nat) : Nat → Nat
  | 0 => 1
  | n + 1 => prodF f n * f n
/-- the bits of x below n, counted -/
def bitsN (x : Nat) : Nat → Nat
  | 0 => 0
  | n + 1 => bitsN x n + ((x >>> n) &&& 1)
theorem bitsN_le (x : Nat) : ∀ n, bitsN x n ≤ n
  | 0 => Nat.le_refl _
  | n + 1 => by
    unfold bitsN
    have h1 := bitsN_le x n
    have h2 : (x >>> n) &&& 1 ≤ 1 := Nat.and_le_right
    omega
/-- what is behind a place comes one place nearer -/
def shifF (f : Nat → Nat) (p n : Nat) : Nat → Nat := fun j => if p ≤ j ∧ j + 1 < n then f (j + 1) else f j
theorem shifF_0 (f : Nat → Nat) (p : Nat) : shifF f p (p + 1) = f := by
  funext j; unfold shifF; rw [if_neg (by omega)]
theorem shifF_up (f : Nat → Nat) {p i : Nat} (h : p < i) : va_up (shifF f p i) (i - 1) (shifF f p i i) = shifF f p (i + 1) := by
  funext j; unfold va_up shifF
  by_cases e : j = i - 1
  · rw [if_pos e, if_neg (by omega), if_pos (by omega)]
    congr 1; omega
  · rw [if_neg e]
    by_cases e2 : p ≤ j ∧ j + 1 < i
    · rw [if_pos e2, if_pos (by omega)]
    · rw [if_neg e2, if_neg (by omega)]
/-- a row changes places with the one ahead of it -/
def liftF (f : Nat → Nat) (p : Nat) : Nat → Nat := va_up (va_up f p (f (p - 1))) (p - 1) (f p)
/-- why the row at a place can't be merged with the next one, or 0 -/
def whyN (cc rc : Nat) (st an : Nat → Nat) (p : Nat) : Nat :=
  if p + 1 < rc then (if an p = an (p + 1) then (if cntB (fun k => decide (nibN (st p) k ≠ nibN (st (p + 1)) k)) cc < 2 then 0 else 3) else 2) else 1
/-- rows of sets, numbers and actions, when the one behind a place is merged into it -/
def mrgS (st : Nat → Nat) (p rc : Nat) : Nat → Nat := shifF (va_up st p (st p ||| st (p + 1))) (p + 1) rc

set_option maxHeartbeats 4000000 in
set_option maxRecDepth 100000 in
theorem c_X4_fullSet (lQ : Launch) (D : va_G) (kA : Nat → ClassId) (q : Nat → Nat) (cc : Nat) (ac : Nat → Nat) (co : Nat → Nat) (ad : Nat) (rc : Nat) (nm : Nat → Nat) (st : Nat → Nat) (an : Nat → Nat) (k : Nat) (hk : k < 5) (ha : ac k ≤ 4) : Met lQ yX4_fullSet wsX4_fullSet (rmN 0 0) (rd_Pc D vwCl [.ref (q 0), .int (nI k)] (wT kA q cc ac co ad rc nm st an) (tyK kA)) (vp_Si (fun r : Int32 => r = (nI (fulN (ac k))))) 0 0 (fun _ => False) := by
  refine Met.ofW (cc := cX4_fullSet) (maxL := 2) (ret := (some .int)) (by decide) rfl ?_
  intro pQ eQ s mQ args below meth cQ s₁ B hml hv
  obtain ⟨rfl, hP, hK⟩ := hv
  have hx := B.exec
  have hb := B.bytes
  have hr := B.returns
  have hts := atoms_spec (ws := wsX4_fullSet) B.pre
  have hown : s.vm.findClass RX4 = some mQ.cls := findClass_of_methodNamed B.named
  have hlocks : meth.locks = false := B.notSynchronized
  have hS0 : CallFix pQ mQ cQ cX4_fullSet 2 s ([.ref (q 0), .int (nI k)] : List Value).toArray wsX4_fullSet RX4 := ⟨hx, hb, hml, hown, hts⟩
  have f9 : (Cond.fieldLink RX4 9 "AskedRules$Table" "answerCount" "[I").before ([.ref (q 0), .int (nI k)] : List Value).toArray s = true := hts _ (by decide +kernel)
  have hinX4 : ∀ w ∈ wsX40, w ∈ wsX4_fullSet := by decide +kernel
  have hl := lv_entry ([.ref (q 0), .int (nI k)]) (n := 2) (Nat.le_of_ble_eq_true rfl)
  rw [lg_entry_eq]
  generalize (lg_sl ([.ref (q 0), .int (nI k)]) ++ List.replicate (2 - (lg_sl ([.ref (q 0), .int (nI k)])).length) Slot.unset).toArray = ls at hl ⊢
  have hl : lv_has ls 2 [(0, .ref (q 0)), (1, .int (nI k))] := hl
  have hP : va_P D vwCl (wT kA q cc ac co ad rc nm st an) s.heap := hP
  refine lv_iconst (v := (nI 1)) hx hb dX4_fullSet_0 (by decide) ?_
  refine lv_aload_n hx hb dX4_fullSet_1 rfl (lv_at hl 0 rfl) ?_
  refine n_get (ci := 4) (v := .ref (q 1)) (C := RX4) (T := TX4) (N := 8) hx hb hts hinX4 hown hK hP 0 rfl rfl 1 rfl ⟨rfl, rfl, rfl⟩ f9 rfl dX4_fullSet_2 ?_
  refine lv_iload_n hx hb dX4_fullSet_5 rfl (lv_at hl 1 rfl) ?_
  refine n_iald (i := k) (v := (nI (ac k))) hx hb hK hP 1 0 rfl rfl (by omega) (Nat.le_of_ble_eq_true rfl) rfl dX4_fullSet_6 ?_
  refine n_ishl (v := (nI (1 <<< (ac k)))) hx hb (nN_shl _ (by omega)) dX4_fullSet_7 ?_
  refine lv_iconst (v := (nI 1)) hx hb dX4_fullSet_8 (by decide) ?_
  refine n_isub (v := (nI ((1 <<< (ac k)) - 1))) hx hb (pk_sub (one_shl _)) dX4_fullSet_9 ?_
  exact n_reti hx hb hr hlocks (post := fun r : Int32 => r = (nI (fulN (ac k)))) (by first | rfl | assumption | (simp_all; done)) rfl dX4_fullSet_10

set_option maxHeartbeats 4000000 in
set_option maxRecDepth 100000 in
theorem c_X4_isSet (lQ : Launch) (D : va_G) (kA : Nat → ClassId) (q : Nat → Nat) (cc : Nat) (ac : Nat → Nat) (co : Nat → Nat) (ad : Nat) (rc : Nat) (nm : Nat → Nat) (st : Nat → Nat) (an : Nat → Nat) (k : Nat) (set : Int32) (hk : k < 5) (ha : ac k ≤ 4) : Met lQ yX4_isSet wsX4_isSet (rmN 1 21) (rd_Pc D vwCl [.ref (q 0), .int (nI k), .int set] (wT kA q cc ac co ad rc nm st an) (tyK kA)) (vp_Si (fun r : Int32 => r = (bI (isSetB set (fulN (ac k)))))) 0 0 (fun _ => False) := by
  refine Met.ofW (cc := cX4_isSet) (maxL := 3) (ret := (some .boolean)) (by decide) rfl ?_
  intro pQ eQ s mQ args below meth cQ s₁ B hml hv
  obtain ⟨rfl, hP, hK⟩ := hv
  have hx := B.exec
  have hb := B.bytes
  have hr := B.returns
  have hts := atoms_spec (ws := wsX4_isSet) B.pre
  have hown : s.vm.findClass RX4 = some mQ.cls := findClass_of_methodNamed B.named
  have hlocks : meth.locks = false := B.notSynchronized
  have hS0 : CallFix pQ mQ cQ cX4_isSet 3 s ([.ref (q 0), .int (nI k), .int set] : List Value).toArray wsX4_isSet RX4 := ⟨hx, hb, hml, hown, hts⟩
  skip
  have hl := lv_entry ([.ref (q 0), .int (nI k), .int set]) (n := 3) (Nat.le_of_ble_eq_true rfl)
  rw [lg_entry_eq]
  generalize (lg_sl ([.ref (q 0), .int (nI k), .int set]) ++ List.replicate (3 - (lg_sl ([.ref (q 0), .int (nI k), .int set])).length) Slot.unset).toArray = ls at hl ⊢
  have hl : lv_has ls 3 [(0, .ref (q 0)), (1, .int (nI k)), (2, .int set)] := hl
  have hP : va_P D vwCl (wT kA q cc ac co ad rc nm st an) s.heap := hP
  refine lv_iload_n hx hb dX4_isSet_0 rfl (lv_at hl 2 rfl) ?_
  refine lv_if_le (tgt := 17) hx hb dX4_isSet_1 (by decide) (fun c1 => ?_) (fun c1 => ?_)
  · refine lv_iconst (v := (nI 0)) hx hb dX4_isSet_17 (by decide) ?_
    exact n_retz hx hb hr hlocks (post := fun r : Int32 => r = (bI (isSetB set (fulN (ac k))))) rfl (by first | exact isSetB_f1 c1 | exact isSetB_f2 c10 | exact isSetB_t c1 c10) rfl dX4_isSet_18
  · refine lv_iload_n hx hb dX4_isSet_4 rfl (lv_at hl 2 rfl) ?_
    refine lv_aload_n hx hb dX4_isSet_5 rfl (lv_at hl 0 rfl) ?_
    refine lv_iload_n hx hb dX4_isSet_6 rfl (lv_at hl 1 rfl) ?_
    refine n_cV (b := q 0) (As := [.int (nI k)]) (rest := [.int set]) (wc := (wT kA q cc ac co ad rc nm st an)) hS0 (c_X4_fullSet lQ D kA q cc ac co ad rc nm st an k (by first | assumption | omega) (by first | assumption | omega)) (cwV 1 hts gX4_isSet_X4_fullSet rfl rfl rfl (by decide +kernel) ⟨Nat.le_of_ble_eq_true rfl, Nat.le_of_ble_eq_true rfl⟩) hP hK (q0 := 0) rfl rfl rfl rfl rfl hl.1 (Nat.le_of_ble_eq_true rfl) dX4_isSet_7 ⟨Nat.le_refl _, Nat.le_refl _⟩ (fun r7 h7 => ?_)
    subst h7
    refine lv_icmp_gt (tgt := 17) hx hb dX4_isSet_10 (by decide) (fun c10 => ?_) (fun c10 => ?_)
    · refine lv_iconst (v := (nI 0)) hx hb dX4_isSet_17 (by decide) ?_
      exact n_retz hx hb hr hlocks (post := fun r : Int32 => r = (bI (isSetB set (fulN (ac k))))) rfl (by first | exact isSetB_f1 c1 | exact isSetB_f2 c10 | exact isSetB_t c1 c10) rfl dX4_isSet_18
    · refine lv_iconst (v := (nI 1)) hx hb dX4_isSet_13 (by decide) ?_
      refine lv_goto (tgt := 18) hx hb dX4_isSet_14 (by decide) ?_
      exact n_retz hx hb hr hlocks (post := fun r : Int32 => r = (bI (isSetB set (fulN (ac k))))) rfl (by first | exact isSetB_f1 c1 | exact isSetB_f2 c10 | exact isSetB_t c1 c10) rfl dX4_isSet_18

set_option maxHeartbeats 4000000 in
set_option maxRecDepth 100000 in
theorem c_X4_placeOf (lQ : Launch) (D : va_G) (kA : Nat → ClassId) (q : Nat → Nat) (cc : Nat) (ac : Nat → Nat) (co : Nat → Nat) (ad : Nat) (rc : Nat) (nm : Nat → Nat) (st : Nat → Nat) (an : Nat → Nat) (row : Int32) (hrc : rc ≤ 20) : Met lQ yX4_placeOf wsX4_placeOf (rmN 0 0) (rd_Pc D vwCl [.ref (q 0), .int row] (wT kA q cc ac co ad rc nm st an) (tyK kA)) (vp_Si (fun r : Int32 => r = (oI (placeF nm row rc)))) 0 0 (fun _ => False) := by
  refine Met.ofW (cc := cX4_placeOf) (maxL := 3) (ret := (some .int)) (by decide) rfl ?_
  intro pQ eQ s mQ args below meth cQ s₁ B hml hv
  obtain ⟨rfl, hP, hK⟩ := hv
  have hx := B.exec
  have hb := B.bytes
  have hr := B.returns
  have hts := atoms_spec (ws := wsX4_placeOf) B.pre
  have hown : s.vm.findClass RX4 = some mQ.cls := findClass_of_methodNamed B.named
  have hlocks : meth.locks = false := B.notSynchronized
  have hS0 : CallFix pQ mQ cQ cX4_placeOf 3 s ([.ref (q 0), .int row] : List Value).toArray wsX4_placeOf RX4 := ⟨hx, hb, hml, hown, hts⟩
  have f34 : (Cond.fieldLink RX4 34 "AskedRules$Table" "rowCount" "I").before ([.ref (q 0), .int row] : List Value).toArray s = true := hts _ (by decide +kernel)
  have hinX4 : ∀ w ∈ wsX40, w ∈ wsX4_placeOf := by decide +kernel
  have f18 : (Cond.fieldLink RX4 18 "AskedRules$Table" "number" "[I").before ([.ref (q 0), .int row] : List Value).toArray s = true := hts _ (by decide +kernel)
  have hl := lv_entry ([.ref (q 0), .int row]) (n := 3) (Nat.le_of_ble_eq_true rfl)
  rw [lg_entry_eq]
  generalize (lg_sl ([.ref (q 0), .int row]) ++ List.replicate (3 - (lg_sl ([.ref (q 0), .int row])).length) Slot.unset).toArray = ls at hl ⊢
  have hl : lv_has ls 3 [(0, .ref (q 0)), (1, .int row)] := hl
  have hP : va_P D vwCl (wT kA q cc ac co ad rc nm st an) s.heap := hP
  refine lv_iconst (v := (nI 0)) hx hb dX4_placeOf_0 (by decide) ?_
  refine lv_istore_n (lv' := [(2, .int (nI 0)), (0, .ref (q 0)), (1, .int row)]) hx hb dX4_placeOf_1 rfl hl (by decide) rfl (fun ls hl => ?_)
  have L2 : ∀ (nQ : Nat) (i : Nat), rc - i < nQ → (i ≤ rc) → (∀ j, j < i → decide (nI (nm j) = row) = false) → ∀ (ls : Array Slot), lv_has ls 3 [(2, .int (nI i)), (0, .ref (q 0)), (1, .int row)] → W pQ lQ eQ (headSpec wsX4_placeOf (rmN 0 0)).room s mQ ([.ref (q 0), .int row] : List Value).toArray below meth cQ s.heap [] 0 0 (MQ below (vp_Si (fun r : Int32 => r = (oI (placeF nm row rc)))) ([.ref (q 0), .int row] : List Value).toArray s 0 0 (fun _ => False)) (F0 mQ 2 ls []) := by
    intro nQ
    induction nQ with
    | zero => intro i hn; exact absurd hn (Nat.not_lt_zero _)
    | succ nQ ih2 =>
      intro i hm2 hi hn ls hl
      refine lv_iload_n hx hb dX4_placeOf_2 rfl (lv_at hl 0 rfl) ?_
      refine lv_aload_n hx hb dX4_placeOf_3 rfl (lv_at hl 1 rfl) ?_
      refine n_get (ci := 4) (v := .int (nI rc)) (C := RX4) (T := TX4) (N := 8) hx hb hts hinX4 hown hK hP 0 rfl rfl 4 rfl ⟨rfl, rfl, rfl⟩ f34 rfl dX4_placeOf_4 ?_
      refine n_icmp_ge (a := i) (b := rc) (tgt := 28) hx hb (by omega) (by omega) dX4_placeOf_7 (by decide) (fun c7 => ?_) (fun c7 => ?_)
      · refine lv_iconst (v := (oI none)) hx hb dX4_placeOf_28 (by decide) ?_
        exact n_reti hx hb hr hlocks (post := fun r : Int32 => r = (oI (placeF nm row rc))) (by rw [show placeF nm row rc = none from firstF_none (fun j hj => hn j (by omega))]) rfl dX4_placeOf_29
      · refine lv_aload_n hx hb dX4_placeOf_10 rfl (lv_at hl 1 rfl) ?_
        refine n_get (ci := 4) (v := .ref (q 3)) (C := RX4) (T := TX4) (N := 8) hx hb hts hinX4 hown hK hP 0 rfl rfl 5 rfl ⟨rfl, rfl, rfl⟩ f18 rfl dX4_placeOf_11 ?_
        refine lv_iload_n hx hb dX4_placeOf_14 rfl (lv_at hl 0 rfl) ?_
        refine n_iald (i := i) (v := (nI (nm i))) hx hb hK hP 3 0 rfl rfl (by omega) (Nat.le_of_ble_eq_true rfl) rfl dX4_placeOf_15 ?_
        refine lv_iload_n hx hb dX4_placeOf_16 rfl (lv_at hl 2 rfl) ?_
        refine lv_icmp_ne (tgt := 22) hx hb dX4_placeOf_17 (by decide) (fun c17 => ?_) (fun c17 => ?_)
        · refine lv_iinc (v := (nI (i + 1))) (lv' := [(2, .int (nI (i + 1))), (0, .ref (q 0)), (1, .int row)]) hx hb dX4_placeOf_22 hl (k := 0) rfl (nI_inc _) (by decide) rfl (fun ls hl => ?_)
          refine lv_goto (tgt := 2) hx hb dX4_placeOf_25 (by decide) ?_
          exact ih2 (i + 1) (by omega) (by first | assumption | omega) (fun j hj => by by_cases e : j = i; (subst e; exact decide_eq_false c17); exact hn j (by omega)) _ (lv_sub hl [0, 1, 2] rfl)
        · refine lv_iload_n hx hb dX4_placeOf_20 rfl (lv_at hl 0 rfl) ?_
          exact n_reti hx hb hr hlocks (post := fun r : Int32 => r = (oI (placeF nm row rc))) (by rw [show placeF nm row rc = some i from firstF_some hn (decide_eq_true (by first | exact c17 | exact Decidable.not_not.mp c17)) (by omega)]; rfl) rfl dX4_placeOf_21
  exact L2 ((rc - 0) + 1) 0 (Nat.lt_succ_self _) (by first | assumption | omega) (fun j hj => absurd hj (Nat.not_lt_zero _)) _ (lv_sub hl [0, 1, 2] rfl)

set_option maxHeartbeats 4000000 in
set_option maxRecDepth 100000 in
theorem c_X4_setAt (lQ : Launch) (D : va_G) (kA : Nat → ClassId) (q : Nat → Nat) (cc : Nat) (ac : Nat → Nat) (co : Nat → Nat) (ad : Nat) (rc : Nat) (nm : Nat → Nat) (st : Nat → Nat) (an : Nat → Nat) (p : Nat) (k : Nat) (hp : p < 20) (hk : k < 5) (hs : st p < 1048576) : Met lQ yX4_setAt wsX4_setAt (rmN 0 0) (rd_Pc D vwCl [.ref (q 0), .int (nI p), .int (nI k)] (wT kA q cc ac co ad rc nm st an) (tyK kA)) (vp_Si (fun r : Int32 => r = (nI (nibN (st p) k)))) 0 0 (fun _ => False) := by
  refine Met.ofW (cc := cX4_setAt) (maxL := 3) (ret := (some .int)) (by decide) rfl ?_
  intro pQ eQ s mQ args below meth cQ s₁ B hml hv
  obtain ⟨rfl, hP, hK⟩ := hv
  have hx := B.exec
  have hb := B.bytes
  have hr := B.returns
  have hts := atoms_spec (ws := wsX4_setAt) B.pre
  have hown : s.vm.findClass RX4 = some mQ.cls := findClass_of_methodNamed B.named
  have hlocks : meth.locks = false := B.notSynchronized
  have hS0 : CallFix pQ mQ cQ cX4_setAt 3 s ([.ref (q 0), .int (nI p), .int (nI k)] : List Value).toArray wsX4_setAt RX4 := ⟨hx, hb, hml, hown, hts⟩
  have f21 : (Cond.fieldLink RX4 21 "AskedRules$Table" "sets" "[I").before ([.ref (q 0), .int (nI p), .int (nI k)] : List Value).toArray s = true := hts _ (by decide +kernel)
  have hinX4 : ∀ w ∈ wsX40, w ∈ wsX4_setAt := by decide +kernel
  have hl := lv_entry ([.ref (q 0), .int (nI p), .int (nI k)]) (n := 3) (Nat.le_of_ble_eq_true rfl)
  rw [lg_entry_eq]
  generalize (lg_sl ([.ref (q 0), .int (nI p), .int (nI k)]) ++ List.replicate (3 - (lg_sl ([.ref (q 0), .int (nI p), .int (nI k)])).length) Slot.unset).toArray = ls at hl ⊢
  have hl : lv_has ls 3 [(0, .ref (q 0)), (1, .int (nI p)), (2, .int (nI k))] := hl
  have hP : va_P D vwCl (wT kA q cc ac co ad rc nm st an) s.heap := hP
  refine lv_aload_n hx hb dX4_setAt_0 rfl (lv_at hl 0 rfl) ?_
  refine n_get (ci := 4) (v := .ref (q 4)) (C := RX4) (T := TX4) (N := 8) hx hb hts hinX4 hown hK hP 0 rfl rfl 6 rfl ⟨rfl, rfl, rfl⟩ f21 rfl dX4_setAt_1 ?_
  refine lv_iload_n hx hb dX4_setAt_4 rfl (lv_at hl 1 rfl) ?_
  refine n_iald (i := p) (v := (nI (st p))) hx hb hK hP 4 0 rfl rfl (by omega) (Nat.le_of_ble_eq_true rfl) rfl dX4_setAt_5 ?_
  refine lv_iconst (v := (nI 4)) hx hb dX4_setAt_6 (by decide) ?_
  refine lv_iload_n hx hb dX4_setAt_7 rfl (lv_at hl 2 rfl) ?_
  refine n_imul (v := (nI (4 * k))) hx hb (pk_mul _ _) dX4_setAt_8 ?_
  refine n_ishr (v := (nI ((st p) >>> (4 * k)))) hx hb (nN_shr (by omega) (by omega)) dX4_setAt_9 ?_
  refine lv_bipush (v := (nI 15)) hx hb dX4_setAt_10 (by decide) ?_
  refine n_iand (v := (nI (((st p) >>> (4 * k)) &&& 15))) hx hb (nN_and _ _) dX4_setAt_12 ?_
  exact n_reti hx hb hr hlocks (post := fun r : Int32 => r = (nI (nibN (st p) k))) rfl rfl dX4_setAt_13

set_option maxHeartbeats 4000000 in
set_option maxRecDepth 100000 in
theorem c_X4_copyRow (lQ : Launch) (D : va_G) (kA : Nat → ClassId) (q : Nat → Nat) (cc : Nat) (ac : Nat → Nat) (co : Nat → Nat) (ad : Nat) (rc : Nat) (nm : Nat → Nat) (st : Nat → Nat) (an : Nat → Nat) (f : Nat) (t : Nat) (sz : Nat) (hf : f < 20) (ht : t < 20) : Met lQ yX4_copyRow wsX4_copyRow (rmN 0 0) (wr_Pc D vwCl [.ref (q 0), .int (nI f), .int (nI t)] (wT kA q cc ac co ad rc nm st an) (tyK kA) sz) (va_Qv (S := Unit) (fun (u : Unit) => True) (wr_B D vwCl (wT kA q cc ac co ad rc nm st an) (tyK kA) sz (fun u => (wT kA q cc ac co ad rc (va_up nm t (nm f)) (va_up st t (st f)) (va_up an t (an f))))) (va_A (wT kA q cc ac co ad rc nm st an) sz)) 0 0 (va_A (wT kA q cc ac co ad rc nm st an) sz) := by
  refine Met.ofW (cc := cX4_copyRow) (maxL := 3) (ret := none) (by decide) rfl ?_
  intro pQ eQ s mQ args below meth cQ s₁ B hml hv
  obtain ⟨rfl, hsz, hP, hK, hD0⟩ := hv
  have hx := B.exec
  have hb := B.bytes
  have hr := B.returns
  have hts := atoms_spec (ws := wsX4_copyRow) B.pre
  have hown : s.vm.findClass RX4 = some mQ.cls := findClass_of_methodNamed B.named
  have hlocks : meth.locks = false := B.notSynchronized
  have hS0 : CallFix pQ mQ cQ cX4_copyRow 3 s ([.ref (q 0), .int (nI f), .int (nI t)] : List Value).toArray wsX4_copyRow RX4 := ⟨hx, hb, hml, hown, hts⟩
  subst hsz
  have hD := hD0.self (sz := s.heap.size)
  generalize hAe : va_A (wT kA q cc ac co ad rc nm st an) s.heap.size = A at hD ⊢
  have hA : ∀ q : Nat, s.heap.size ≤ q → A q := fun q h => by rw [← hAe]; exact Or.inr h
  have hS : va_S A s.heap s.heap [] := va_S.rf
  have f18 : (Cond.fieldLink RX4 18 "AskedRules$Table" "number" "[I").before ([.ref (q 0), .int (nI f), .int (nI t)] : List Value).toArray s = true := hts _ (by decide +kernel)
  have hinX4 : ∀ w ∈ wsX40, w ∈ wsX4_copyRow := by decide +kernel
  have f21 : (Cond.fieldLink RX4 21 "AskedRules$Table" "sets" "[I").before ([.ref (q 0), .int (nI f), .int (nI t)] : List Value).toArray s = true := hts _ (by decide +kernel)
  have f24 : (Cond.fieldLink RX4 24 "AskedRules$Table" "action" "[I").before ([.ref (q 0), .int (nI f), .int (nI t)] : List Value).toArray s = true := hts _ (by decide +kernel)
  have hl := lv_entry ([.ref (q 0), .int (nI f), .int (nI t)]) (n := 3) (Nat.le_of_ble_eq_true rfl)
  rw [lg_entry_eq]
  generalize (lg_sl ([.ref (q 0), .int (nI f), .int (nI t)]) ++ List.replicate (3 - (lg_sl ([.ref (q 0), .int (nI f), .int (nI t)])).length) Slot.unset).toArray = ls at hl ⊢
  have hl : lv_has ls 3 [(0, .ref (q 0)), (1, .int (nI f)), (2, .int (nI t))] := hl
  have hP : va_P D vwCl (wT kA q cc ac co ad rc nm st an) s.heap := hP
  have hD : va_D A (wT kA q cc ac co ad rc nm st an) := hD
  refine lv_aload_n hx hb dX4_copyRow_0 rfl (lv_at hl 0 rfl) ?_
  refine n_get (ci := 4) (v := .ref (q 3)) (C := RX4) (T := TX4) (N := 8) hx hb hts hinX4 hown hK hP 0 rfl rfl 5 rfl ⟨rfl, rfl, rfl⟩ f18 rfl dX4_copyRow_1 ?_
  refine lv_iload_n hx hb dX4_copyRow_4 rfl (lv_at hl 2 rfl) ?_
  refine lv_aload_n hx hb dX4_copyRow_5 rfl (lv_at hl 0 rfl) ?_
  refine n_get (ci := 4) (v := .ref (q 3)) (C := RX4) (T := TX4) (N := 8) hx hb hts hinX4 hown hK hP 0 rfl rfl 5 rfl ⟨rfl, rfl, rfl⟩ f18 rfl dX4_copyRow_6 ?_
  refine lv_iload_n hx hb dX4_copyRow_9 rfl (lv_at hl 1 rfl) ?_
  refine n_iald (i := f) (v := (nI (nm f))) hx hb hK hP 3 0 rfl rfl (by omega) (Nat.le_of_ble_eq_true rfl) rfl dX4_copyRow_10 ?_
  refine n_iast (i := t) (x := (nI (nm f))) (g := aN (va_up nm t (nm f))) (ws' := (wT kA q cc ac co ad rc (va_up nm t (nm f)) st an)) hx hb hK hP hD hS 3 0 rfl rfl (by omega) (Nat.le_of_ble_eq_true rfl) (aN_up _ _ _) rfl dX4_copyRow_11 (fun H locs hP hD hS => ?_)
  refine lv_aload_n hx hb dX4_copyRow_12 rfl (lv_at hl 0 rfl) ?_
  refine n_get (ci := 4) (v := .ref (q 4)) (C := RX4) (T := TX4) (N := 8) hx hb hts hinX4 hown hK hP 0 rfl rfl 6 rfl ⟨rfl, rfl, rfl⟩ f21 rfl dX4_copyRow_13 ?_
  refine lv_iload_n hx hb dX4_copyRow_16 rfl (lv_at hl 2 rfl) ?_
  refine lv_aload_n hx hb dX4_copyRow_17 rfl (lv_at hl 0 rfl) ?_
  refine n_get (ci := 4) (v := .ref (q 4)) (C := RX4) (T := TX4) (N := 8) hx hb hts hinX4 hown hK hP 0 rfl rfl 6 rfl ⟨rfl, rfl, rfl⟩ f21 rfl dX4_copyRow_18 ?_
  refine lv_iload_n hx hb dX4_copyRow_21 rfl (lv_at hl 1 rfl) ?_
  refine n_iald (i := f) (v := (nI (st f))) hx hb hK hP 4 0 rfl rfl (by omega) (Nat.le_of_ble_eq_true rfl) rfl dX4_copyRow_22 ?_
  refine n_iast (i := t) (x := (nI (st f))) (g := aN (va_up st t (st f))) (ws' := (wT kA q cc ac co ad rc (va_up nm t (nm f)) (va_up st t (st f)) an)) hx hb hK hP hD hS 4 0 rfl rfl (by omega) (Nat.le_of_ble_eq_true rfl) (aN_up _ _ _) rfl dX4_copyRow_23 (fun H locs hP hD hS => ?_)
  refine lv_aload_n hx hb dX4_copyRow_24 rfl (lv_at hl 0 rfl) ?_
  refine n_get (ci := 4) (v := .ref (q 5)) (C := RX4) (T := TX4) (N := 8) hx hb hts hinX4 hown hK hP 0 rfl rfl 7 rfl ⟨rfl, rfl, rfl⟩ f24 rfl dX4_copyRow_25 ?_
  refine lv_iload_n hx hb dX4_copyRow_28 rfl (lv_at hl 2 rfl) ?_
  refine lv_aload_n hx hb dX4_copyRow_29 rfl (lv_at hl 0 rfl) ?_
  refine n_get (ci := 4) (v := .ref (q 5)) (C := RX4) (T := TX4) (N := 8) hx hb hts hinX4 hown hK hP 0 rfl rfl 7 rfl ⟨rfl, rfl, rfl⟩ f24 rfl dX4_copyRow_30 ?_
  refine lv_iload_n hx hb dX4_copyRow_33 rfl (lv_at hl 1 rfl) ?_
  refine n_iald (i := f) (v := (nI (an f))) hx hb hK hP 5 0 rfl rfl (by omega) (Nat.le_of_ble_eq_true rfl) rfl dX4_copyRow_34 ?_
  refine n_iast (i := t) (x := (nI (an f))) (g := aN (va_up an t (an f))) (ws' := (wT kA q cc ac co ad rc (va_up nm t (nm f)) (va_up st t (st f)) (va_up an t (an f)))) hx hb hK hP hD hS 5 0 rfl rfl (by omega) (Nat.le_of_ble_eq_true rfl) (aN_up _ _ _) rfl dX4_copyRow_35 (fun H locs hP hD hS => ?_)
  exact n_wretv hx hb hr hlocks (post := fun (u : Unit) => True) (w1 := fun u => (wT kA q cc ac co ad rc (va_up nm t (nm f)) (va_up st t (st f)) (va_up an t (an f)))) () trivial hP hD hK hS hAe dX4_copyRow_36

set_option maxHeartbeats 4000000 in
set_option maxRecDepth 100000 in
theorem c_X4_removeAt (lQ : Launch) (D : va_G) (kA : Nat → ClassId) (q : Nat → Nat) (cc : Nat) (ac : Nat → Nat) (co : Nat → Nat) (ad : Nat) (rc : Nat) (nm : Nat → Nat) (st : Nat → Nat) (an : Nat → Nat) (p : Nat) (sz : Nat) (hp : p < rc) (hrc : rc ≤ 20) : Met lQ yX4_removeAt wsX4_removeAt (rmN 1 22) (wr_Pc D vwCl [.ref (q 0), .int (nI p)] (wT kA q cc ac co ad rc nm st an) (tyK kA) sz) (va_Qv (S := Unit) (fun (u : Unit) => True) (wr_B D vwCl (wT kA q cc ac co ad rc nm st an) (tyK kA) sz (fun u => (wT kA q cc ac co ad (rc - 1) (shifF nm p rc) (shifF st p rc) (shifF an p rc)))) (va_A (wT kA q cc ac co ad rc nm st an) sz)) 0 0 (va_A (wT kA q cc ac co ad rc nm st an) sz) := by
  refine Met.ofW (cc := cX4_removeAt) (maxL := 3) (ret := none) (by decide) rfl ?_
  intro pQ eQ s mQ args below meth cQ s₁ B hml hv
  obtain ⟨rfl, hsz, hP, hK, hD0⟩ := hv
  have hx := B.exec
  have hb := B.bytes
  have hr := B.returns
  have hts := atoms_spec (ws := wsX4_removeAt) B.pre
  have hown : s.vm.findClass RX4 = some mQ.cls := findClass_of_methodNamed B.named
  have hlocks : meth.locks = false := B.notSynchronized
  have hS0 : CallFix pQ mQ cQ cX4_removeAt 3 s ([.ref (q 0), .int (nI p)] : List Value).toArray wsX4_removeAt RX4 := ⟨hx, hb, hml, hown, hts⟩
  subst hsz
  have hD := hD0.self (sz := s.heap.size)
  generalize hAe : va_A (wT kA q cc ac co ad rc nm st an) s.heap.size = A at hD ⊢
  have hA : ∀ q : Nat, s.heap.size ≤ q → A q := fun q h => by rw [← hAe]; exact Or.inr h
  have hS : va_S A s.heap s.heap [] := va_S.rf
  have f34 : (Cond.fieldLink RX4 34 "AskedRules$Table" "rowCount" "I").before ([.ref (q 0), .int (nI p)] : List Value).toArray s = true := hts _ (by decide +kernel)
  have hinX4 : ∀ w ∈ wsX40, w ∈ wsX4_removeAt := by decide +kernel
  have hl := lv_entry ([.ref (q 0), .int (nI p)]) (n := 3) (Nat.le_of_ble_eq_true rfl)
  rw [lg_entry_eq]
  generalize (lg_sl ([.ref (q 0), .int (nI p)]) ++ List.replicate (3 - (lg_sl ([.ref (q 0), .int (nI p)])).length) Slot.unset).toArray = ls at hl ⊢
  have hl : lv_has ls 3 [(0, .ref (q 0)), (1, .int (nI p))] := hl
  have hP : va_P D vwCl (wT kA q cc ac co ad rc nm st an) s.heap := hP
  have hD : va_D A (wT kA q cc ac co ad rc nm st an) := hD
  refine lv_iload_n hx hb dX4_removeAt_0 rfl (lv_at hl 1 rfl) ?_
  refine lv_iconst (v := (nI 1)) hx hb dX4_removeAt_1 (by decide) ?_
  refine n_iadd (v := (nI (p + 1))) hx hb (nI_add _ _) dX4_removeAt_2 ?_
  refine lv_istore_n (lv' := [(2, .int (nI (p + 1))), (0, .ref (q 0)), (1, .int (nI p))]) hx hb dX4_removeAt_3 rfl hl (by decide) rfl (fun ls hl => ?_)
  have L4 : ∀ (nQ : Nat) (i : Nat) (nm1 : Nat → Nat) (st1 : Nat → Nat) (an1 : Nat → Nat), rc - i < nQ → (p < i) → (i ≤ rc) → (nm1 = shifF nm p i) → (st1 = shifF st p i) → (an1 = shifF an p i) → ∀ (H : Heap) (locs : List Loc), va_P D vwCl (wT kA q cc ac co ad rc nm1 st1 an1) H → va_D A (wT kA q cc ac co ad rc nm1 st1 an1) → va_S A s.heap H locs → ∀ (ls : Array Slot), lv_has ls 3 [(2, .int (nI i)), (0, .ref (q 0)), (1, .int (nI p))] → W pQ lQ eQ (headSpec wsX4_removeAt (rmN 1 22)).room s mQ ([.ref (q 0), .int (nI p)] : List Value).toArray below meth cQ H locs 0 0 (MQ below (va_Qv (S := Unit) (fun (u : Unit) => True) (wr_B D vwCl (wT kA q cc ac co ad rc nm st an) (tyK kA) s.heap.size (fun u => (wT kA q cc ac co ad (rc - 1) (shifF nm p rc) (shifF st p rc) (shifF an p rc)))) A) ([.ref (q 0), .int (nI p)] : List Value).toArray s 0 0 A) (F0 mQ 4 ls []) := by
    intro nQ
    induction nQ with
    | zero => intro i nm1 st1 an1 hn; exact absurd hn (Nat.not_lt_zero _)
    | succ nQ ih4 =>
      intro i nm1 st1 an1 hm4 hi1 hi2 h1 h2 h3 H locs hP hD hS ls hl
      refine lv_iload_n hx hb dX4_removeAt_4 rfl (lv_at hl 0 rfl) ?_
      refine lv_aload_n hx hb dX4_removeAt_5 rfl (lv_at hl 1 rfl) ?_
      refine n_get (ci := 4) (v := .int (nI rc)) (C := RX4) (T := TX4) (N := 8) hx hb hts hinX4 hown hK hP 0 rfl rfl 4 rfl ⟨rfl, rfl, rfl⟩ f34 rfl dX4_removeAt_6 ?_
      refine n_icmp_ge (a := i) (b := rc) (tgt := 26) hx hb (by omega) (by omega) dX4_removeAt_9 (by decide) (fun c9 => ?_) (fun c9 => ?_)
      · refine lv_aload_n hx hb dX4_removeAt_26 rfl (lv_at hl 1 rfl) ?_
        refine lv_dup hx hb dX4_removeAt_27 rfl ?_
        refine n_get (ci := 4) (v := .int (nI rc)) (C := RX4) (T := TX4) (N := 8) hx hb hts hinX4 hown hK hP 0 rfl rfl 4 rfl ⟨rfl, rfl, rfl⟩ f34 rfl dX4_removeAt_28 ?_
        refine lv_iconst (v := (nI 1)) hx hb dX4_removeAt_31 (by decide) ?_
        refine n_isub (v := (nI (rc - 1))) hx hb (pk_sub (by omega)) dX4_removeAt_32 ?_
        refine n_put (ci := 4) (v := .int (nI (rc - 1))) (C := RX4) (T := TX4) (N := 8) (ws' := (wT kA q cc ac co ad (rc - 1) nm1 st1 an1)) hx hb hts hinX4 tyX4 tyX4_ok nmX4 hown hK hP hD hS 0 rfl rfl 4 rfl ⟨rfl, rfl, rfl, rfl⟩ f34 rfl rfl rfl rfl dX4_removeAt_33 (fun H locs hP hD hS => ?_)
        have e9 : rc = i := by omega
        subst e9
        subst h1
        subst h2
        subst h3
        have hP : va_P D vwCl (wT kA q cc ac co ad (rc - 1) (shifF nm p rc) (shifF st p rc) (shifF an p rc)) H := hP
        have hD : va_D A (wT kA q cc ac co ad (rc - 1) (shifF nm p rc) (shifF st p rc) (shifF an p rc)) := hD
        exact n_wretv hx hb hr hlocks (post := fun (u : Unit) => True) (w1 := fun u => (wT kA q cc ac co ad (rc - 1) (shifF nm p rc) (shifF st p rc) (shifF an p rc))) () trivial hP hD hK hS hAe dX4_removeAt_36
      · refine lv_aload_n hx hb dX4_removeAt_12 rfl (lv_at hl 1 rfl) ?_
        refine lv_iload_n hx hb dX4_removeAt_13 rfl (lv_at hl 0 rfl) ?_
        refine lv_iload_n hx hb dX4_removeAt_14 rfl (lv_at hl 0 rfl) ?_
        refine lv_iconst (v := (nI 1)) hx hb dX4_removeAt_15 (by decide) ?_
        refine n_isub (v := (nI (i - 1))) hx hb (pk_sub (by omega)) dX4_removeAt_16 ?_
        refine n_wVv (b := q 0) (As := [.int (nI i), .int (nI (i - 1))]) (rest := []) (wr := []) (ws' := fun u => (wT kA q cc ac co ad rc (va_up nm1 (i - 1) (nm1 i)) (va_up st1 (i - 1) (st1 i)) (va_up an1 (i - 1) (an1 i)))) hS0 (c_X4_copyRow lQ D kA q cc ac co ad rc nm1 st1 an1 i (i - 1) H.size (by first | assumption | omega) (by first | assumption | omega)) (cwV 2 hts gX4_removeAt_X4_copyRow rfl rfl rfl (by decide +kernel) ⟨Nat.le_of_ble_eq_true rfl, Nat.le_of_ble_eq_true rfl⟩) hP hD hS hA hK hK (by simpa only [List.append_assoc, List.append_nil] using (List.Perm.of_eq (List.append_nil _).symm)) (fun u => List.Perm.symm (by simpa only [List.append_assoc, List.append_nil] using (List.Perm.of_eq (List.append_nil _).symm))) (q0 := 0) rfl rfl rfl rfl rfl hl.1 (Nat.le_of_ble_eq_true rfl) dX4_removeAt_17 ⟨Nat.le_refl _, Nat.le_refl _⟩ (fun u17 H locs h17 hP hD hS => ?_)
        have hP : va_P D vwCl (wT kA q cc ac co ad rc (va_up nm1 (i - 1) (nm1 i)) (va_up st1 (i - 1) (st1 i)) (va_up an1 (i - 1) (an1 i))) H := hP
        have hD : va_D A (wT kA q cc ac co ad rc (va_up nm1 (i - 1) (nm1 i)) (va_up st1 (i - 1) (st1 i)) (va_up an1 (i - 1) (an1 i))) := hD
        refine lv_iinc (v := (nI (i + 1))) (lv' := [(2, .int (nI (i + 1))), (0, .ref (q 0)), (1, .int (nI p))]) hx hb dX4_removeAt_20 hl (k := 0) rfl (nI_inc _) (by decide) rfl (fun ls hl => ?_)
        refine lv_goto (tgt := 4) hx hb dX4_removeAt_23 (by decide) ?_
        exact ih4 (i + 1) (va_up nm1 (i - 1) (nm1 i)) (va_up st1 (i - 1) (st1 i)) (va_up an1 (i - 1) (an1 i)) (by omega) (by first | assumption | omega) (by first | assumption | omega) (by rw [h1, shifF_up _ hi1]) (by rw [h2, shifF_up _ hi1]) (by rw [h3, shifF_up _ hi1]) _ _ hP hD hS _ (lv_sub hl [0, 1, 2] rfl)
  exact L4 ((rc - (p + 1)) + 1) (p + 1) nm st an (Nat.lt_succ_self _) (by first | assumption | omega) (by first | assumption | omega) (shifF_0 _ _).symm (shifF_0 _ _).symm (shifF_0 _ _).symm _ _ hP hD hS _ (lv_sub hl [0, 1, 2] rfl)

theorem whyN_le (cc rc : Nat) (st an : Nat → Nat) (p : Nat) : whyN cc rc st an p ≤ 3 := by
  unfold whyN; split
  · split
    · split <;> omega
    · omega
  · omega
theorem whyN_0 {cc rc : Nat} {st an : Nat → Nat} {p : Nat} (h : whyN cc rc st an p = 0) : p + 1 < rc ∧ an p = an (p + 1) := by
  unfold whyN at h
  by_cases h1 : p + 1 < rc
  · rw [if_pos h1] at h
    by_cases h2 : an p = an (p + 1)
    · exact ⟨h1, h2⟩
    · rw [if_neg h2] at h; cases h
  · rw [if_neg h1] at h; cases h

set_option maxHeartbeats 4000000 in
set_option maxRecDepth 100000 in
theorem c_X4_liftAt (lQ : Launch) (D : va_G) (kA : Nat → ClassId) (q : Nat → Nat) (cc : Nat) (ac : Nat → Nat) (co : Nat → Nat) (ad : Nat) (rc : Nat) (nm : Nat → Nat) (st : Nat → Nat) (an : Nat → Nat) (p : Nat) (sz : Nat) (hp : 1 ≤ p) (hp2 : p < 20) : Met lQ yX4_liftAt wsX4_liftAt (rmN 1 22) (wr_Pc D vwCl [.ref (q 0), .int (nI p)] (wT kA q cc ac co ad rc nm st an) (tyK kA) sz) (va_Qv (S := Unit) (fun (u : Unit) => True) (wr_B D vwCl (wT kA q cc ac co ad rc nm st an) (tyK kA) sz (fun u => (wT kA q cc ac co ad rc (liftF nm p) (liftF st p) (liftF an p)))) (va_A (wT kA q cc ac co ad rc nm st an) sz)) 0 0 (va_A (wT kA q cc ac co ad rc nm st an) sz) := by
  refine Met.ofW (cc := cX4_liftAt) (maxL := 5) (ret := none) (by decide) rfl ?_
  intro pQ eQ s mQ args below meth cQ s₁ B hml hv
  obtain ⟨rfl, hsz, hP, hK, hD0⟩ := hv
  have hx := B.exec
  have hb := B.bytes
  have hr := B.returns
  have hts := atoms_spec (ws := wsX4_liftAt) B.pre
  have hown : s.vm.findClass RX4 = some mQ.cls := findClass_of_methodNamed B.named
  have hlocks : meth.locks = false := B.notSynchronized
  have hS0 : CallFix pQ mQ cQ cX4_liftAt 5 s ([.ref (q 0), .int (nI p)] : List Value).toArray wsX4_liftAt RX4 := ⟨hx, hb, hml, hown, hts⟩
  subst hsz
  have hD := hD0.self (sz := s.heap.size)
  generalize hAe : va_A (wT kA q cc ac co ad rc nm st an) s.heap.size = A at hD ⊢
  have hA : ∀ q : Nat, s.heap.size ≤ q → A q := fun q h => by rw [← hAe]; exact Or.inr h
  have hS : va_S A s.heap s.heap [] := va_S.rf
  have f18 : (Cond.fieldLink RX4 18 "AskedRules$Table" "number" "[I").before ([.ref (q 0), .int (nI p)] : List Value).toArray s = true := hts _ (by decide +kernel)
  have hinX4 : ∀ w ∈ wsX40, w ∈ wsX4_liftAt := by decide +kernel
  have f21 : (Cond.fieldLink RX4 21 "AskedRules$Table" "sets" "[I").before ([.ref (q 0), .int (nI p)] : List Value).toArray s = true := hts _ (by decide +kernel)
  have f24 : (Cond.fieldLink RX4 24 "AskedRules$Table" "action" "[I").before ([.ref (q 0), .int (nI p)] : List Value).toArray s = true := hts _ (by decide +kernel)
  have hl := lv_entry ([.ref (q 0), .int (nI p)]) (n := 5) (Nat.le_of_ble_eq_true rfl)
  rw [lg_entry_eq]
  generalize (lg_sl ([.ref (q 0), .int (nI p)]) ++ List.replicate (5 - (lg_sl ([.ref (q 0), .int (nI p)])).length) Slot.unset).toArray = ls at hl ⊢
  have hl : lv_has ls 5 [(0, .ref (q 0)), (1, .int (nI p))] := hl
  have hP : va_P D vwCl (wT kA q cc ac co ad rc nm st an) s.heap := hP
  have hD : va_D A (wT kA q cc ac co ad rc nm st an) := hD
  refine lv_aload_n hx hb dX4_liftAt_0 rfl (lv_at hl 0 rfl) ?_
  refine n_get (ci := 4) (v := .ref (q 3)) (C := RX4) (T := TX4) (N := 8) hx hb hts hinX4 hown hK hP 0 rfl rfl 5 rfl ⟨rfl, rfl, rfl⟩ f18 rfl dX4_liftAt_1 ?_
  refine lv_iload_n hx hb dX4_liftAt_4 rfl (lv_at hl 1 rfl) ?_
  refine n_iald (i := p) (v := (nI (nm p))) hx hb hK hP 3 0 rfl rfl (by omega) (Nat.le_of_ble_eq_true rfl) rfl dX4_liftAt_5 ?_
  refine lv_istore_n (lv' := [(2, .int (nI (nm p))), (0, .ref (q 0)), (1, .int (nI p))]) hx hb dX4_liftAt_6 rfl hl (by decide) rfl (fun ls hl => ?_)
  refine lv_aload_n hx hb dX4_liftAt_7 rfl (lv_at hl 1 rfl) ?_
  refine n_get (ci := 4) (v := .ref (q 4)) (C := RX4) (T := TX4) (N := 8) hx hb hts hinX4 hown hK hP 0 rfl rfl 6 rfl ⟨rfl, rfl, rfl⟩ f21 rfl dX4_liftAt_8 ?_
  refine lv_iload_n hx hb dX4_liftAt_11 rfl (lv_at hl 2 rfl) ?_
  refine n_iald (i := p) (v := (nI (st p))) hx hb hK hP 4 0 rfl rfl (by omega) (Nat.le_of_ble_eq_true rfl) rfl dX4_liftAt_12 ?_
  refine lv_istore_n (lv' := [(3, .int (nI (st p))), (2, .int (nI (nm p))), (0, .ref (q 0)), (1, .int (nI p))]) hx hb dX4_liftAt_13 rfl hl (by decide) rfl (fun ls hl => ?_)
  refine lv_aload_n hx hb dX4_liftAt_14 rfl (lv_at hl 2 rfl) ?_
  refine n_get (ci := 4) (v := .ref (q 5)) (C := RX4) (T := TX4) (N := 8) hx hb hts hinX4 hown hK hP 0 rfl rfl 7 rfl ⟨rfl, rfl, rfl⟩ f24 rfl dX4_liftAt_15 ?_
  refine lv_iload_n hx hb dX4_liftAt_18 rfl (lv_at hl 3 rfl) ?_
  refine n_iald (i := p) (v := (nI (an p))) hx hb hK hP 5 0 rfl rfl (by omega) (Nat.le_of_ble_eq_true rfl) rfl dX4_liftAt_19 ?_
  refine lv_istore (lv' := [(4, .int (nI (an p))), (3, .int (nI (st p))), (2, .int (nI (nm p))), (0, .ref (q 0)), (1, .int (nI p))]) hx hb dX4_liftAt_20 hl (by decide) rfl (fun ls hl => ?_)
  refine lv_aload_n hx hb dX4_liftAt_22 rfl (lv_at hl 3 rfl) ?_
  refine lv_iload_n hx hb dX4_liftAt_23 rfl (lv_at hl 4 rfl) ?_
  refine lv_iconst (v := (nI 1)) hx hb dX4_liftAt_24 (by decide) ?_
  refine n_isub (v := (nI (p - 1))) hx hb (pk_sub (by omega)) dX4_liftAt_25 ?_
  refine lv_iload_n hx hb dX4_liftAt_26 rfl (lv_at hl 4 rfl) ?_
  refine n_wVv (b := q 0) (As := [.int (nI (p - 1)), .int (nI p)]) (rest := []) (wr := []) (ws' := fun u => (wT kA q cc ac co ad rc (va_up nm p (nm (p - 1))) (va_up st p (st (p - 1))) (va_up an p (an (p - 1))))) hS0 (c_X4_copyRow lQ D kA q cc ac co ad rc nm st an (p - 1) p s.heap.size (by first | assumption | omega) (by first | assumption | omega)) (cwV 2 hts gX4_liftAt_X4_copyRow rfl rfl rfl (by decide +kernel) ⟨Nat.le_of_ble_eq_true rfl, Nat.le_of_ble_eq_true rfl⟩) hP hD hS hA hK hK (by simpa only [List.append_assoc, List.append_nil] using (List.Perm.of_eq (List.append_nil _).symm)) (fun u => List.Perm.symm (by simpa only [List.append_assoc, List.append_nil] using (List.Perm.of_eq (List.append_nil _).symm))) (q0 := 0) rfl rfl rfl rfl rfl hl.1 (Nat.le_of_ble_eq_true rfl) dX4_liftAt_27 ⟨Nat.le_refl _, Nat.le_refl _⟩ (fun u27 H locs h27 hP hD hS => ?_)
  have hP : va_P D vwCl (wT kA q cc ac co ad rc (va_up nm p (nm (p - 1))) (va_up st p (st (p - 1))) (va_up an p (an (p - 1)))) H := hP
  have hD : va_D A (wT kA q cc ac co ad rc (va_up nm p (nm (p - 1))) (va_up st p (st (p - 1))) (va_up an p (an (p - 1)))) := hD
  refine lv_aload_n hx hb dX4_liftAt_30 rfl (lv_at hl 3 rfl) ?_
  refine n_get (ci := 4) (v := .ref (q 3)) (C := RX4) (T := TX4) (N := 8) hx hb hts hinX4 hown hK hP 0 rfl rfl 5 rfl ⟨rfl, rfl, rfl⟩ f18 rfl dX4_liftAt_31 ?_
  refine lv_iload_n hx hb dX4_liftAt_34 rfl (lv_at hl 4 rfl) ?_
  refine lv_iconst (v := (nI 1)) hx hb dX4_liftAt_35 (by decide) ?_
  refine n_isub (v := (nI (p - 1))) hx hb (pk_sub (by omega)) dX4_liftAt_36 ?_
  refine lv_iload_n hx hb dX4_liftAt_37 rfl (lv_at hl 2 rfl) ?_
  refine n_iast (i := p - 1) (x := (nI (nm p))) (g := aN (va_up (va_up nm p (nm (p - 1))) (p - 1) (nm p))) (ws' := (wT kA q cc ac co ad rc (va_up (va_up nm p (nm (p - 1))) (p - 1) (nm p)) (va_up st p (st (p - 1))) (va_up an p (an (p - 1))))) hx hb hK hP hD hS 3 0 rfl rfl (by omega) (Nat.le_of_ble_eq_true rfl) (aN_up _ _ _) rfl dX4_liftAt_38 (fun H locs hP hD hS => ?_)
  refine lv_aload_n hx hb dX4_liftAt_39 rfl (lv_at hl 3 rfl) ?_
  refine n_get (ci := 4) (v := .ref (q 4)) (C := RX4) (T := TX4) (N := 8) hx hb hts hinX4 hown hK hP 0 rfl rfl 6 rfl ⟨rfl, rfl, rfl⟩ f21 rfl dX4_liftAt_40 ?_
  refine lv_iload_n hx hb dX4_liftAt_43 rfl (lv_at hl 4 rfl) ?_
  refine lv_iconst (v := (nI 1)) hx hb dX4_liftAt_44 (by decide) ?_
  refine n_isub (v := (nI (p - 1))) hx hb (pk_sub (by omega)) dX4_liftAt_45 ?_
  refine lv_iload_n hx hb dX4_liftAt_46 rfl (lv_at hl 1 rfl) ?_
  refine n_iast (i := p - 1) (x := (nI (st p))) (g := aN (va_up (va_up st p (st (p - 1))) (p - 1) (st p))) (ws' := (wT kA q cc ac co ad rc (va_up (va_up nm p (nm (p - 1))) (p - 1) (nm p)) (va_up (va_up st p (st (p - 1))) (p - 1) (st p)) (va_up an p (an (p - 1))))) hx hb hK hP hD hS 4 0 rfl rfl (by omega) (Nat.le_of_ble_eq_true rfl) (aN_up _ _ _) rfl dX4_liftAt_47 (fun H locs hP hD hS => ?_)
  refine lv_aload_n hx hb dX4_liftAt_48 rfl (lv_at hl 3 rfl) ?_
  refine n_get (ci := 4) (v := .ref (q 5)) (C := RX4) (T := TX4) (N := 8) hx hb hts hinX4 hown hK hP 0 rfl rfl 7 rfl ⟨rfl, rfl, rfl⟩ f24 rfl dX4_liftAt_49 ?_
  refine lv_iload_n hx hb dX4_liftAt_52 rfl (lv_at hl 4 rfl) ?_
  refine lv_iconst (v := (nI 1)) hx hb dX4_liftAt_53 (by decide) ?_
  refine n_isub (v := (nI (p - 1))) hx hb (pk_sub (by omega)) dX4_liftAt_54 ?_
  refine lv_iload hx hb dX4_liftAt_55 (lv_at hl 0 rfl) ?_
  refine n_iast (i := p - 1) (x := (nI (an p))) (g := aN (va_up (va_up an p (an (p - 1))) (p - 1) (an p))) (ws' := (wT kA q cc ac co ad rc (va_up (va_up nm p (nm (p - 1))) (p - 1) (nm p)) (va_up (va_up st p (st (p - 1))) (p - 1) (st p)) (va_up (va_up an p (an (p - 1))) (p - 1) (an p)))) hx hb hK hP hD hS 5 0 rfl rfl (by omega) (Nat.le_of_ble_eq_true rfl) (aN_up _ _ _) rfl dX4_liftAt_57 (fun H locs hP hD hS => ?_)
  have hP : va_P D vwCl (wT kA q cc ac co ad rc (liftF nm p) (liftF st p) (liftF an p)) H := hP
  have hD : va_D A (wT kA q cc ac co ad rc (liftF nm p) (liftF st p) (liftF an p)) := hD
  exact n_wretv hx hb hr hlocks (post := fun (u : Unit) => True) (w1 := fun u => (wT kA q cc ac co ad rc (liftF nm p) (liftF st p) (liftF an p))) () trivial hP hD hK hS hAe dX4_liftAt_58
