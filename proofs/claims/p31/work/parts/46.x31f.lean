/-! ===== what the statement gives of the start ===== -/
theorem st_k {s : State} {args : Array Value} {ty : FieldType} (harr : (Cond.arrayClass ty).before args s = true) (hra : ∀ c : ClassId, s.vm.findClass ("[" ++ ty.toString) = some c → va_RA s c ty) : ∃ cA : ClassId, ArrOfT s cA ty ∧ va_RA s cA ty := by
  obtain ⟨cA, kA, comp, h1, h2, h3⟩ := Cond.arrayClass_spec harr
  exact ⟨cA, fun n z => ⟨fun k h => (by cases h), kA, h2, comp, h3⟩, hra cA h1⟩
theorem st_o {s : State} {args : Array Value} {C : String} (h : (Cond.arrayOver (.object C)).before args s = true) : ∃ cA : ClassId, ArrOfT s cA (.object C) ∧ va_RA s cA (.object C) := by
  obtain ⟨comp, c, k, h1, h2, h3, h4, h5⟩ := Cond.arrayOver_spec h
  exact ⟨c, fun n z => ⟨fun k h => (by cases h), k, h3, comp, h4⟩, k, comp, h3, h4, h1, h5⟩
def kaL (c0 c1 c2 c3 : ClassId) : Nat → ClassId
  | 0 => c0
  | 1 => c1
  | 2 => c2
  | _ => c3
def nrw : List Cond := flatC (Jvm.Cond.and given_1 narrow_1)
def smC : Term := .static "AskedRules$Plans" "POWER" "[I"
set_option maxRecDepth 100000 in
theorem st_pw : Cond.arrayOf smC .int ∈ nrw ∧ Cond.eq (.length smC) (.int (Int32.ofNat 6)) ∈ nrw ∧ (∀ j, j < 6 → Cond.eq (.elem smC (.int (Int32.ofNat j))) (.int (nI (5 ^ j))) ∈ nrw) ∧ Cond.isRef (.static Bundle.tN "UNASSIGNED_STACK" Bundle.steD) ∈ nrw ∧ Cond.isRef (.static Bundle.tN "SUPPRESSED_SENTINEL" Bundle.listD) ∈ nrw := by decide +kernel
set_option maxRecDepth 100000 in
theorem st_xn : ∀ q ∈ xwN, Cond.not (.castable q.1 q.2) ∈ nrw := by decide +kernel
set_option maxRecDepth 100000 in
theorem st_sx : ∀ q ∈ strX, Cond.exactly (.string "AskedRules" q.1) "java/lang/String" ∈ nrw ∧ Cond.stringRef "AskedRules" q.1 q.2 ∈ lw_tbl := by decide +kernel
set_option maxRecDepth 100000 in
theorem st_t1 : Cond.arrayClass .int ∈ lw_tbl ∧ Cond.arrayClass .byte ∈ lw_tbl ∧ Cond.arrayClass .boolean ∈ lw_tbl ∧ Cond.arrayOver (.object "AskedRules$Table") ∈ lw_tbl := by decide +kernel
set_option maxRecDepth 100000 in
theorem st_t2 : Cond.methodLinkNest RX1 17 yX4_init "AskedRules" ∈ lw_tbl ∧ Cond.methodLinkNest RX5 9 yX4_init "AskedRules" ∈ lw_tbl := by decide +kernel
set_option maxRecDepth 100000 in
theorem st_t3 : (∀ E ∈ xwE, Cond.castable E E ∈ lw_tbl) ∧ Cond.declares (Bundle.initS "java/lang/RuntimeException") ∈ lw_tbl ∧ Cond.declares (Bundle.initS "java/lang/Exception") ∈ lw_tbl ∧ Cond.declares (Bundle.initS Bundle.tN) ∈ lw_tbl := by decide +kernel
set_option maxRecDepth 100000 in
theorem st_t4 : Cond.laysStatic "AskedRules$Plans" "POWER" "[I" ∈ lw_tbl ∧ Cond.initialized "AskedRules$Plans" ∈ lw_tbl ∧ Cond.laysStatic Bundle.tN "UNASSIGNED_STACK" Bundle.steD ∈ lw_tbl ∧ Cond.initialized Bundle.tN ∈ lw_tbl ∧ Cond.laysStatic Bundle.tN "SUPPRESSED_SENTINEL" Bundle.listD ∈ lw_tbl := by decide +kernel
set_option maxRecDepth 100000 in
theorem st_t5 : Cond.instantiable RX0 13 ∈ lw_tbl ∧ Cond.instantiable RX1 2 ∈ lw_tbl ∧ Cond.instantiable RX2 5 ∈ lw_tbl ∧ Cond.instantiable RX3 8 ∈ lw_tbl ∧ Cond.instantiable RX4 8 ∈ lw_tbl ∧ Cond.instantiable RX5 7 ∈ lw_tbl := by decide +kernel
def cnL (c0 c1 c2 c3 c4 c5 : ClassId) : Nat → ClassId
  | 0 => c0
  | 1 => c1
  | 2 => c2
  | 3 => c3
  | 4 => c4
  | _ => c5
def isL (c0 c1 c2 c3 c4 c5 : Nat → Nat) : Nat → Nat → Nat
  | 0 => c0
  | 1 => c1
  | 2 => c2
  | 3 => c3
  | 4 => c4
  | _ => c5
set_option maxRecDepth 100000 in
theorem st_facts {s : State} {b : Nat} {A : Nat → Prop} (hts : ∀ w ∈ lw_tbl, w.before #[Value.ref b] s = true) (hgv : (Jvm.Cond.and given_1 narrow_1).before #[Value.ref b] s = true) (hA : ∀ a : Nat, a < s.heap.size → ¬ A a) : ∃ (D : va_G) (kA : Nat → ClassId), va_K D vwCl (tyK kA) s ∧ evS (fun _ => 0) (fun _ => 0) A s s.heap ∧ xwS s ∧ nwS s := by
  have hn : ∀ w ∈ nrw, w.before #[Value.ref b] s = true := flat_of_before _ hgv
  obtain ⟨k0, hk0⟩ := st_k (hts _ (st_t1.1)) (fun c h => h)
  obtain ⟨k1, hk1⟩ := st_k (hts _ (st_t1.2.1)) (fun c h => h)
  obtain ⟨k2, hk2⟩ := st_k (hts _ (st_t1.2.2.1)) (fun c h => h)
  obtain ⟨k3, hk3⟩ := st_o (hts _ (st_t1.2.2.2))
  obtain ⟨c0, i0, hc0⟩ := u_known (C := RX0) (T := TX0) (N := 13) (n := 13) hts inX0 (hts _ (st_t5.1))
  obtain ⟨c1, i1, hc1⟩ := u_known (C := RX1) (T := TX1) (N := 2) (n := 2) hts inX1 (hts _ (st_t5.2.1))
  obtain ⟨c2, i2, hc2⟩ := u_known (C := RX2) (T := TX2) (N := 5) (n := 5) hts inX2 (hts _ (st_t5.2.2.1))
  obtain ⟨c3, i3, hc3⟩ := u_known (C := RX3) (T := TX3) (N := 8) (n := 8) hts inX3 (hts _ (st_t5.2.2.2.1))
  obtain ⟨c4, i4, hc4⟩ := u_known (C := RX4) (T := TX4) (N := 8) (n := 8) hts inX4 (hts _ (st_t5.2.2.2.2.1))
  obtain ⟨c5, i5, hc5⟩ := u_known (C := RX5) (T := TX5) (N := 7) (n := 7) hts inX5 (hts _ (st_t5.2.2.2.2.2))
  obtain ⟨a1, a2, a3, a6, a7⟩ := st_pw
  obtain ⟨l1, l2, l3, l4, l5⟩ := st_t4
  obtain ⟨t, ht, hT⟩ := va_Tof (tm := smC) (ty := .int) (N := 6) (f := fun j => .int (nI (5 ^ j))) (A := A) (by decide) (hn _ a1) (va_eqt (hn _ a2)) (fun j hj => va_eqt (hn _ (a3 j hj))) hA
  refine ⟨(cnL c0 c1 c2 c3 c4 c5, isL i0 i1 i2 i3 i4 i5), kaL k0 k1 k2 k3, ⟨?_, ?_⟩, ⟨⟨t, va_Zof (hts _ l1) (hts _ l2) ht hA, hT⟩, ⟨vx_Zqof (hts _ l3) (hts _ l4) (hn _ a6) hA, vx_Zqof (hts _ l5) (hts _ l4) (hn _ a7) hA⟩, ?_, fun _ => ⟨rfl, rfl⟩⟩, ⟨fun E hE => va_Nw.of rfl (hts _ (st_t3.1 E hE)), ⟨va_Nw.of rfl (hts _ st_t3.2.1), va_Nw.of rfl (hts _ st_t3.2.2.1), va_Nw.of rfl (hts _ st_t3.2.2.2)⟩, fun q hq => va_Nc.of (hn _ (st_xn q hq))⟩, ⟨va_Nw.of rfl (hts _ st_t2.1), va_Nw.of rfl (hts _ st_t2.2), va_AO.of (hts _ (st_t1.2.2.2))⟩⟩
  · intro k q hq
    match k, hq with
    | 0, hq => cases hq; exact hc0
    | 1, hq => cases hq; exact hc1
    | 2, hq => cases hq; exact hc2
    | 3, hq => cases hq; exact hc3
    | 4, hq => cases hq; exact hc4
    | 5, hq => cases hq; exact hc5
    | k + 6, hq => simp [vwCl] at hq
  · intro k q hq
    match k, hq with
    | 0, hq => cases hq; exact hk0
    | 1, hq => cases hq; exact hk1
    | 2, hq => cases hq; exact hk2
    | 3, hq => cases hq; exact hk3
    | k + 4, hq => simp [tyK] at hq
  · intro q hq
    obtain ⟨e1, e2⟩ := st_sx q hq
    obtain ⟨a, -, -, -, r1, -⟩ := Cond.exactly_spec (args := #[Value.ref b]) (first := s) (o := none) (s := s) (idx := []) (hn _ e1)
    exact ⟨a, vk_R.of (hts _ e2) r1⟩
def zT : TCt := (0, (fun _ => 0), (fun _ => 0), 0, 0, (fun _ => 0), (fun _ => 0), (fun _ => 0))
theorem ok_z : okT zT := ⟨⟨by decide, fun k h => absurd h (Nat.not_lt_zero _), fun k h => absurd h (Nat.not_lt_zero _), by decide, fun k h => absurd h (Nat.not_lt_zero _), fun k h => absurd h (Nat.not_lt_zero _)⟩, fun i j h => absurd h (Nat.not_lt_zero _), fun j h => absurd h (Nat.not_lt_zero _), by decide, fun j h => absurd h (Nat.not_lt_zero _)⟩
def zZ : ZC := (0, (fun _ => 0), (fun _ => 0), (fun _ => some 0), (fun _ => some 0), (fun _ => 0), (fun _ => 0), (fun _ => false), (fun _ => 0), 0, 0, 0, (fun _ => 0), (fun _ => 0), (fun _ => 0), true, true)
def zX : SC9 := ((fun _ => 0), 0, 0, (some 0), 0, 0, (some 0))
theorem zo_z : zOK zT zZ := scrOK_t (fun _ _ => show (0 : Nat) < 12 by decide) (fun _ _ => show (0 : Nat) ≤ 100 by decide)
set_option maxHeartbeats 4000000 in
set_option maxRecDepth 100000 in
theorem law_start {pQ : Program} {eQ : Env} {s : State} {mQ : MethodId} {below : List Frame} {meth : Method} {cQ : Code} (lQ : Launch) (hflags : lQ.flags = flags0) {b L : Nat} {zs : Nat → Int32} (hL : L ≤ 260) (C0 : lw_At pQ s mQ meth cQ b L zs) : W pQ lQ eQ room_1 s mQ #[Value.ref b] below meth cQ s.heap [] 0 0 (lw_Z below #[Value.ref b] s) (entryFrame mQ ([Value.ref b] : List Value).toArray 17) := by
  obtain ⟨hx, hb, hr, hml, hown, htsT, hX, hbl, hlocks, hgv⟩ := id C0
  have hnt : lQ.stackTraces = false := by unfold Launch.stackTraces; rw [hflags]; decide
  obtain ⟨A, hAe⟩ : ∃ A : Nat → Prop, A = fun q => s.heap.size ≤ q := ⟨_, rfl⟩
  have hA : ∀ q : Nat, s.heap.size ≤ q → A q := fun q h => by rw [hAe]; exact h
  have hAI : ∀ q : Nat, A q → s.heap.size ≤ q := fun q h => by rw [hAe] at h; exact h
  have hbA : ¬ A b := fun h => absurd (hAI b h) (Nat.not_le.mpr hbl)
  obtain ⟨D, kA, hK, hE, hXW, hN⟩ := st_facts (A := A) htsT hgv (fun a h1 h2 => absurd (hAI a h2) (Nat.not_le.mpr h1))
  obtain ⟨adK, hadK⟩ : ∃ f : Nat → Nat, f = fun _ => 0 := ⟨_, rfl⟩
  obtain ⟨adV, hadV⟩ : ∃ f : Nat → Nat, f = fun _ => 0 := ⟨_, rfl⟩
  have hE : evS adK adV A s s.heap := by rw [hadK, hadV]; exact hE
  have hown : s.vm.findClass RL = some mQ.cls := hown
  have hts : ∀ w ∈ wsL_law, w.before #[Value.ref b] s = true := fun w h => htsT w (wsL_law_in w h)
  have hS0 : CallFix pQ mQ cQ cL_law 17 s #[Value.ref b] wsL_law RL := ⟨hx, hb, hml, hown, hts⟩
  have hS : va_S A s.heap s.heap [] := va_S.rf
  have hP : va_P D vwCl [] s.heap := fun k q h => by simp at h
  have hD : va_D A [] := ⟨fun i j p q h => by simp at h, fun k q h => by simp at h⟩
  have cl9 : (Cond.classLink RL 9 RX5).before #[Value.ref b] s = true := hts _ (by decide +kernel)
  have inst5 : (Cond.instantiable RX5 7).before #[Value.ref b] s = true := hts _ (by decide +kernel)
  have init5 : (Cond.initialized RX5).before #[Value.ref b] s = true := hts _ (by decide +kernel)
  have hinX5 : ∀ w ∈ wsX50, w ∈ wsL_law := by decide +kernel
  have imX5 : (Cond.instanceMethod yX5_init).before #[Value.ref b] s = true := hts _ (by decide +kernel)
  have ml79 : (Cond.methodLink RL 79 yX5_init).before #[Value.ref b] s = true := hts _ (by decide +kernel)
  have k16 : (Cond.constant RL 16 (-2000001)).before #[Value.ref b] s = true := hts _ kL16
  have hl := lv_entry ([.ref b]) (n := 17) (Nat.le_of_ble_eq_true rfl)
  rw [lg_entry_eq]
  generalize (lg_sl ([.ref b]) ++ List.replicate (17 - (lg_sl ([.ref b])).length) Slot.unset).toArray = ls at hl ⊢
  have hl : lv_has ls 17 [(0, .ref b)] := hl
  refine va_new (ci := 5) (C := RX5) (T := TX5) (N := 7) hx hb hts hinX5 tyX5 tyX5_ok hown cl9 inst5 init5 hK hP hD hS hA rfl defX5 (Nat.le_of_ble_eq_true rfl) (Nat.le_of_ble_eq_true rfl) dL_law_0 (fun t0_1 H hP hD hS => ?_)
  have hP : va_P D vwCl (wN5 kA t0_1) H := hP
  have hD : va_D A (wN5 kA t0_1) := hD
  refine lv_dup hx hb dL_law_3 rfl ?_
  refine n_wIvN hN (b := t0_1) (As := []) (rest := [.ref t0_1]) (wr := []) (ws' := fun u => ((wM kA t0_1 u.1 u.2.1 u.2.2.1 u.2.2.2.1 u.2.2.2.2.1 true true) ++ ((wT kA u.1 0 (fun _ => 0) (fun _ => 0) 0 0 (fun _ => 0) (fun _ => 0) (fun _ => 0)) ++ ((wC kA u.2.1 u.1 0 (fun _ => 0) (fun _ => 0) (fun _ => some 0) (fun _ => some 0) (fun _ => 0) (fun _ => 0) (fun _ => false) (fun _ => 0) 0 0 0) ++ ((wP kA u.2.2.1 u.1 u.2.1 (fun _ => 0) (fun _ => 0) (fun _ => 0)) ++ ((wH kA u.2.2.2.1 0 u.2.2.2.2.2) ++ (wS kA u.2.2.2.2.1 u.1 (fun _ => 0) 0 0 (some 0) 0 0 (some 0)))))))) hS0 (c_X5_init lQ D kA t0_1 H.size) ⟨callB_of 0 hts gL_law_X5_init rfl rfl rfl init5 ml79 (by decide +kernel) ⟨Nat.le_of_ble_eq_true rfl, Nat.le_of_ble_eq_true rfl⟩, rfl, imX5⟩ hP hD hS hA hK hK (List.Perm.of_eq (List.append_nil _).symm) (fun u => List.Perm.of_eq (List.append_nil _)) rfl rfl hl.1 (Nat.le_of_ble_eq_true rfl) dL_law_4 ⟨Nat.le_of_ble_eq_true rfl, Nat.le_of_ble_eq_true rfl⟩ (fun u4 H locs h4 hP hD hS => ?_)
  obtain ⟨tq_4, cq_4, pq_4, hq_4, sq_4, sv9_4⟩ := u4
  have hP : va_P D vwCl (wA kA t0_1 tq_4 cq_4 pq_4 hq_4 sq_4 zT 0 sv9_4 zZ zX) H := hP
  have hD : va_D A (wA kA t0_1 tq_4 cq_4 pq_4 hq_4 sq_4 zT 0 sv9_4 zZ zX) := hD
  refine lv_astore_n (lv' := [(1, .ref t0_1), (0, .ref b)]) hx hb dL_law_7 rfl hl (by decide) rfl (fun ls hl => ?_)
  refine lv_aload_n hx hb dL_law_8 rfl (lv_at hl 0 rfl) ?_
  refine n_wSiX (As := [.ref t0_1]) (rest := []) (wr := []) (ws' := fun u => (wA kA t0_1 tq_4 cq_4 pq_4 hq_4 sq_4 zT 0 sv9_4 u zX)) hS0 (w_un1 lQ D kA adK adV t0_1 tq_4 cq_4 pq_4 hq_4 sq_4 zT 0 sv9_4 zZ zX H.size hnt ok_z zo_z (by decide) rfl) (vx_cwSW 1 hts gL_law_L_undoes rfl rfl rfl (by decide +kernel) ⟨Nat.le_of_ble_eq_true rfl, Nat.le_of_ble_eq_true rfl⟩) hP hD hS hE hXW hA hK hK (by simpa only [List.append_assoc, List.append_nil] using (List.Perm.of_eq (List.append_nil _).symm)) (fun u => List.Perm.symm (by simpa only [List.append_assoc, List.append_nil] using (List.Perm.of_eq (List.append_nil _).symm))) rfl rfl hl.1 (Nat.le_of_ble_eq_true rfl) dL_law_9 ⟨Nat.le_of_ble_eq_true rfl, Nat.le_of_ble_eq_true rfl⟩ (fun r9 u9 H locs h9 hP hD hS => ?_)
  obtain ⟨z1_9, rfl⟩ : ∃ z, z = u9 := ⟨_, rfl⟩
  obtain ⟨rfl, h9_1⟩ := h9
  have hP : va_P D vwCl (wA kA t0_1 tq_4 cq_4 pq_4 hq_4 sq_4 zT 0 sv9_4 z1_9 zX) H := hP
  have hD : va_D A (wA kA t0_1 tq_4 cq_4 pq_4 hq_4 sq_4 zT 0 sv9_4 z1_9 zX) := hD
  refine lv_ldc (v := (-2000001)) hx hb hown k16 dL_law_12 ?_
  refine lv_icmp_ne (tgt := 39) hx hb dL_law_14 (by decide) (fun c14 => ?_) (fun c14 => ?_)
  · exact absurd rfl c14
  · refine lv_aload_n hx hb dL_law_17 rfl (lv_at hl 0 rfl) ?_
    refine lv_iconst (v := (nI 1)) hx hb dL_law_18 (by decide) ?_
    refine n_wViE (b := t0_1) (As := [.int (nI 1)]) (rest := []) (wr := []) (ws' := fun u => (wA kA t0_1 tq_4 cq_4 pq_4 hq_4 sq_4 zT 0 sv9_4 u zX)) hS0 (q_wh1 lQ D kA adK adV t0_1 tq_4 cq_4 pq_4 hq_4 sq_4 zT 0 sv9_4 z1_9 zX H.size ok_z (by first | assumption | omega)) (cwV 1 hts gL_law_X5_whole rfl rfl rfl (by decide +kernel) ⟨Nat.le_of_ble_eq_true rfl, Nat.le_of_ble_eq_true rfl⟩) hP hD hS hE hA hK hK (by simpa only [List.append_assoc, List.append_nil] using (List.Perm.of_eq (List.append_nil _).symm)) (fun u => List.Perm.symm (by simpa only [List.append_assoc, List.append_nil] using (List.Perm.of_eq (List.append_nil _).symm))) (q0 := 0) rfl rfl rfl rfl rfl hl.1 (Nat.le_of_ble_eq_true rfl) dL_law_19 ⟨Nat.le_of_ble_eq_true rfl, Nat.le_of_ble_eq_true rfl⟩ (fun r19 u19 H locs h19 hP hD hS => ?_)
    obtain ⟨z1_19, rfl⟩ : ∃ z, z = u19 := ⟨_, rfl⟩
    obtain ⟨rfl, h19_1⟩ := h19
    have hP : va_P D vwCl (wA kA t0_1 tq_4 cq_4 pq_4 hq_4 sq_4 zT 0 sv9_4 z1_19 zX) H := hP
    have hD : va_D A (wA kA t0_1 tq_4 cq_4 pq_4 hq_4 sq_4 zT 0 sv9_4 z1_19 zX) := hD
    refine lv_iconst (v := (nI 1)) hx hb dL_law_22 (by decide) ?_
    refine n_icmp_ne (a := nCs zT) (b := 1) (tgt := 39) hx hb (by decide) (by decide) dL_law_23 (by decide) (fun c23 => ?_) (fun c23 => ?_)
    · exact absurd rfl c23
    · refine lv_aload_n hx hb dL_law_26 rfl (lv_at hl 0 rfl) ?_
      refine lv_iconst (v := (nI 3)) hx hb dL_law_27 (by decide) ?_
      refine n_wViE (b := t0_1) (As := [.int (nI 3)]) (rest := []) (wr := []) (ws' := fun u => (wA kA t0_1 tq_4 cq_4 pq_4 hq_4 sq_4 zT 0 sv9_4 u zX)) hS0 (q_wh3 lQ D kA adK adV t0_1 tq_4 cq_4 pq_4 hq_4 sq_4 zT 0 sv9_4 z1_19 zX H.size ok_z (by first | assumption | omega)) (cwV 1 hts gL_law_X5_whole rfl rfl rfl (by decide +kernel) ⟨Nat.le_of_ble_eq_true rfl, Nat.le_of_ble_eq_true rfl⟩) hP hD hS hE hA hK hK (by simpa only [List.append_assoc, List.append_nil] using (List.Perm.of_eq (List.append_nil _).symm)) (fun u => List.Perm.symm (by simpa only [List.append_assoc, List.append_nil] using (List.Perm.of_eq (List.append_nil _).symm))) (q0 := 0) rfl rfl rfl rfl rfl hl.1 (Nat.le_of_ble_eq_true rfl) dL_law_28 ⟨Nat.le_of_ble_eq_true rfl, Nat.le_of_ble_eq_true rfl⟩ (fun r28 u28 H locs h28 hP hD hS => ?_)
      obtain ⟨z1_28, rfl⟩ : ∃ z, z = u28 := ⟨_, rfl⟩
      obtain ⟨rfl, h28_1⟩ := h28
      have hP : va_P D vwCl (wA kA t0_1 tq_4 cq_4 pq_4 hq_4 sq_4 zT 0 sv9_4 z1_28 zX) H := hP
      have hD : va_D A (wA kA t0_1 tq_4 cq_4 pq_4 hq_4 sq_4 zT 0 sv9_4 z1_28 zX) := hD
      refine lv_iconst (v := (nI 1)) hx hb dL_law_31 (by decide) ?_
      refine n_icmp_ne (a := hoT zT (nCs zT)) (b := 1) (tgt := 39) hx hb (by decide) (by decide) dL_law_32 (by decide) (fun c32 => ?_) (fun c32 => ?_)
      · exact absurd (show hoT zT (nCs zT) = 1 by decide) c32
      · refine lv_iconst (v := (nI 1)) hx hb dL_law_35 (by decide) ?_
        refine lv_goto (tgt := 40) hx hb dL_law_36 (by decide) ?_
        refine lv_istore_n (lv' := [(2, .int (nI 1)), (1, .ref t0_1), (0, .ref b)]) hx hb dL_law_40 rfl hl (by decide) rfl (fun ls hl => ?_)
        refine lv_iconst (v := (nI 1)) hx hb dL_law_41 (by decide) ?_
        refine lv_aload_n hx hb dL_law_42 rfl (lv_at hl 2 rfl) ?_
        refine lv_iconst (v := (nI 0)) hx hb dL_law_43 (by decide) ?_
        refine n_cX (As := [.ref b, .int (nI 0)]) (rest := [.int (nI 1)]) hS0 (c_L_cell lQ b L zs hL 0 (by omega)) (va_cwS 2 hts gL_law_L_cell rfl rfl rfl (by decide +kernel) ⟨Nat.le_of_ble_eq_true rfl, Nat.le_of_ble_eq_true rfl⟩) hX hbl hbA hS rfl rfl hl.1 (Nat.le_of_ble_eq_true rfl) dL_law_44 ⟨Nat.le_of_ble_eq_true rfl, Nat.le_of_ble_eq_true rfl⟩ (fun r44 h44 => ?_)
        obtain ⟨y44, rfl, hy44⟩ := h44
        refine lv_iconst (v := (nI 3)) hx hb dL_law_47 (by decide) ?_
        refine n_irem (v := (nI (y44 % 3))) hx hb (nI_ne0 (by omega) (by omega)) (pk_rem (by omega) (by omega) (by omega)) dL_law_48 ?_
        refine n_iadd (v := (nI (1 + (y44 % 3)))) hx hb (nI_add _ _) dL_law_49 ?_
        refine lv_istore_n (lv' := [(3, .int (nI (1 + (y44 % 3)))), (2, .int (nI 1)), (1, .ref t0_1), (0, .ref b)]) hx hb dL_law_50 rfl hl (by decide) rfl (fun ls hl => ?_)
        refine lv_iconst (v := (nI 0)) hx hb dL_law_51 (by decide) ?_
        refine lv_istore (lv' := [(4, .int (nI 0)), (3, .int (nI (1 + (y44 % 3)))), (2, .int (nI 1)), (1, .ref t0_1), (0, .ref b)]) hx hb dL_law_52 hl (by decide) rfl (fun ls hl => ?_)
        have hP : va_P D vwCl (wA kA t0_1 tq_4 cq_4 pq_4 hq_4 sq_4 zT 0 sv9_4 z1_28 zX) H := hP
        have hD : va_D A (wA kA t0_1 tq_4 cq_4 pq_4 hq_4 sq_4 zT 0 sv9_4 z1_28 zX) := hD
        refine W.widen (k := (49 + 0)) (n := (13009 + 6 * 0)) (by omega) (by omega) ?_
        exact law_first hnt hx hb hown hts hS0 hX hbl hbA hA hK hE hXW hL hr hlocks hAI (n3 := 1 + (y44 % 3)) (by omega) (by omega) (1 + (y44 % 3)) 0 (by omega) zT 0 sv9_4 z1_28 ok_z (by assumption) (by decide) rfl rfl rfl _ _ hP hD hS _ (lv_sub hl [0, 1, 2, 3, 4] rfl)
theorem whole_start {p : Program} {e : Env} {s : State} {m : MethodId} {below : List Frame} {meth : Method} {c : Code} (l : Launch) (hflags : l.flags = flags0) {b L : Nat} {xs : Nat → Int32} (hL : L ≤ 260) (C0 : lw_At p s m meth c b L xs) : W p l e room_1 s m #[Value.ref b] below meth c s.heap [] 0 0 (lw_Z below #[Value.ref b] s) (entryFrame m ([Value.ref b] : List Value).toArray 17) := law_start l hflags hL C0
set_option maxHeartbeats 4000000 in
theorem lw_walk (l : Launch) (hflags : l.flags = flags0) (b : Addr) (xs : List Int32) : MetFree l x (headSpec (Jvm.Cond.code x code maxLocals ret :: tables_1) room_1) (lw_P b xs) (fun _ _ _ _ _ => True) lw_Q := by
  refine MetFree.of_bodyS (code := code) (maxLocals := maxLocals) (ret := ret) (by decide) ?_ ?_
  · intro args s m h hn
    obtain ⟨meth, c, h1, h2, h3, h4, h5, h6, -, -⟩ := Cond.code_spec hn (atoms_spec (ws := Jvm.Cond.code x code maxLocals ret :: tables_1) h _ List.mem_cons_self)
    exact ⟨meth, c, h1, h2, h3, h4, h5, h6⟩
  · intro p e s m args below meth c s₁ B hml0 hP _
    obtain ⟨rfl, hx, hbd, hgv⟩ := hP
    obtain ⟨scr, harrAt, hlist, hof, hsmall⟩ := hx
    obtain ⟨hcb, hkn, -, -⟩ := State.arrayAt?_spec harrAt
    have hown : s.vm.findClass R_law = some m.cls := findClass_of_methodNamed B.named
    have hts0 : ∀ c ∈ (Jvm.Cond.code x code maxLocals ret :: tables_1), c.before #[Value.ref b] s = true := atoms_spec (ws := Jvm.Cond.code x code maxLocals ret :: tables_1) B.pre
    have hts : ∀ w ∈ lw_tbl, w.before #[Value.ref b] s = true := k2_hts_sels lw_privs (fun w hw => hts0 w (List.mem_cons_of_mem _ hw)) lw_privs_ok
    have hml : c.maxLocals = 17 := B.maxLocals_eq (hts0 _ List.mem_cons_self)
    have X₀ : Stand p l e room_1 s m #[Value.ref b] below meth c s₁ [] 0 0 := Stand.of_body B
    have hh0 : s₁.heap = s.heap := by rw [B.state]; rfl
    have hsz : scr.slots.size = xs.length := by rw [← Array.length_toList, hlist, List.length_map]
    have hval : ∀ j : Nat, j < xs.length → scr.slots[j]? = some (.int (xs.getD j 0)) := fun j hj => by
      rw [← Array.getElem?_toList, hlist]
      simp [hj]
    have hbl : b < s.heap.size := (Array.getElem?_eq_some_iff.mp hcb).1
    have hX : va_X b xs.length (fun j => xs.getD j 0) s s.heap := ⟨scr, hcb, hof, hkn, hsz, hval⟩
    have K : W p l e room_1 s m #[Value.ref b] below meth c s₁.heap [] 0 0 (lw_Z below #[Value.ref b] s) (entryFrame m ([Value.ref b] : List Value).toArray 17) := by
      rw [hh0]
      exact whole_start l hflags hbd ⟨B.exec, B.bytes, B.returns, hml, hown, hts, hX, hbl, B.notSynchronized, hgv⟩
    obtain ⟨t, a1, o, b1, b2, b3⟩ := K s₁ rfl X₀
    exact ⟨t, o, a1, b1, b2, b3⟩
theorem lw_pre_spec {args : Array Value} {s : State} (h : (Jvm.Cond.and given_1 narrow_1).before args s = true) (hr : rest_1_c.before args s = true) : ∃ (b : Addr) (xs : List Int32), lw_P b xs args s := by
  have hs := flat_of_before _ h
  have hq := flat_of_before _ hr
  have hc : (Cond.count 1).before args s = true := hs _ (by decide +kernel)
  have harr : (Cond.arrayOf (.arg 0) .int).before args s = true := hs _ (by decide +kernel)
  have hle : (Cond.le (.length (.arg 0)) (.int 260)).before args s = true := hs _ (by decide +kernel)
  have hlen : (Cond.isInt (.length (.arg 0))).before args s = true := hq _ (by decide +kernel)
  have hall : (Cond.all (.arg 0) (.isInt (.elem (.arg 0) (.index 0)))).before args s = true := hq _ (by decide +kernel)
  obtain ⟨b, xs, hb, hx⟩ := State.ints_of_pre rfl harr hlen hall
  have hsm : xs.length < 2 ^ 31 := hx.choose_spec.2.2.2
  have hev : (Term.length (.arg 0)).eval args s none [] s = some (.int xs.length.toInt32) := hx.length_eval hb
  have hv := Cond.le_ints hev (show (Term.int 260).eval args s none [] s = some (.int 260) from rfl)
  have hd : xs.length.toInt32 ≤ 260 := by
    simpa [Cond.before, Cond.holds, hv] using hle
  have hN : xs.length ≤ 260 := (Int32.ofNat_le_ofNat hsm (by decide)).mp (show Int32.ofNat xs.length ≤ Int32.ofNat 260 from hd)
  exact ⟨b, xs, Cond.one_arg hc (show args[0]? = some (.ref b) from hb), hx, hN, h⟩
theorem lw_comes (l : Launch) (hflags : l.flags = flags0) : Comes l x (Jvm.Cond.code x code maxLocals ret :: tables_1) room_1 (fun tb e args s => Calls_1 tb e args s ∧ rest_1 tb e args s ∧ Pre_1 tb e args s)
    (fun _ _ args s o t => lw_Q args s o t) := by
  intro p e ha hc hk s m args below hf hfit hheap happ hpre
  obtain ⟨b, xs, hP⟩ := lw_pre_spec hpre.2.2 hpre.2.1
  obtain ⟨k, o, h1, h2, h3, hQ⟩ := lw_walk l hflags b xs p e ha hc hk s m args below hf ((Spec.applies_iff_loose hf).mp happ).1 hP trivial
  exact ⟨k, o, h1, h2, h3, hQ⟩
theorem lw_frame {s t : State} {o : Outcome} {args : Array Value} (h : Framed s o t [] 600130 7301080) :
    Framed s o t (fieldLocs frame_1_writes args s ++ arrayLocs frame_1_arrays args s ++ staticLocs frame_1_statics s) 600130 7301080 := h
theorem lw_limb (L : Cond) (hL : ∀ (args : Array Value) (s t : State), L.after args s (.returned (some (.int 1))) t = true) :
    ArmFor flags0 classFile x code maxLocals ret World_1 tables_1 room_1 Calls_1 rest_1 Pre_1
      (fun tb e a s o t => postC L tb e a s o t ∧ Framed s o t (fieldLocs frame_1_writes a s ++ arrayLocs frame_1_arrays a s ++ staticLocs frame_1_statics s) 600130 7301080) := by
  intro l hflags _ _ p e ha hc hk s m args below hf hfit hheap happ hpre
  obtain ⟨k, o, h1, h2, h3, rfl, hF⟩ := lw_comes l hflags p e ha hc hk s m args below hf hfit hheap happ hpre
  exact ⟨k, _, h1, h2, h3, hL args s _, lw_frame hF⟩
theorem i_vc : Claimed_1_1 ∧ Claimed_1_2 := ⟨lw_limb limb_1_1 (fun args s t => by simp [limb_1_1, Cond.after, Cond.holds, Cond.value]), lw_limb limb_1_2 (fun args s t => Cond.after_iff.mpr (by
  first | (rw [show limb_1_2 = Cond.eq .result (.int 1) from rfl, Cond.eq_ints (x := 1) (y := 1) rfl rfl]; simp; done) | (simp [limb_1_2, Cond.value, Term.eval]; done)))⟩

