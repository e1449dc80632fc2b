/-! ===== what the statement gives of the start ===== -/
theorem st_k {s : State} {args : Array Value} {ty : FieldType} (harr : (Cond.arrayClass ty).before args s = true) (hra : ∀ c : ClassId, s.vm.findClass ("[" ++ ty.toString) = some c → va_RA s c ty) : ∃ cA : ClassId, ArrOfT s cA ty ∧ va_RA s cA ty := by
  obtain ⟨cA, kA, comp, h1, h2, h3⟩ := Cond.arrayClass_spec harr
  exact ⟨cA, fun n z => ⟨fun k h => (by cases h), kA, h2, comp, h3⟩, hra cA h1⟩
theorem st_o {s : State} {args : Array Value} {C : String} (h : (Cond.arrayOver (.object C)).before args s = true) : ∃ cA : ClassId, ArrOfT s cA (.object C) ∧ va_RA s cA (.object C) := by
  obtain ⟨comp, c, k, h1, h2, h3, h4, h5⟩ := Cond.arrayOver_spec h
  exact ⟨c, fun n z => ⟨fun k h => (by cases h), k, h3, comp, h4⟩, k, comp, h3, h4, h1, h5⟩
def kaL (c0 c1 c2 c3 c4 : ClassId) : Nat → ClassId
  | 0 => c0
  | 1 => c1
  | 2 => c2
  | 3 => c3
  | _ => c4
def nrw : List Cond := flatC (Jvm.Cond.and given_1 narrow_1)
def smC : Term := .static "AskedRules$Plans" "POWER" "[I"
def ktW (i : Nat) : Term := .string "AskedRules$Script" ([66, 72, 74, 76].getD i 0)
set_option maxRecDepth 100000 in
theorem st_pw : Cond.arrayOf smC .int ∈ nrw ∧ Cond.eq (.length smC) (.int (Int32.ofNat 6)) ∈ nrw ∧ (∀ j, j < 6 → Cond.eq (.elem smC (.int (Int32.ofNat j))) (.int (nI (5 ^ j))) ∈ nrw) ∧ Cond.eq (.static "java/lang/String" "COMPACT_STRINGS" "Z") (.int 1) ∈ nrw ∧ Cond.isRef (.static "jdk/internal/util/Preconditions" "SIOOBE_FORMATTER" "Ljava/util/function/BiFunction;") ∈ nrw ∧ Cond.isRef (.static Bundle.tN "UNASSIGNED_STACK" Bundle.steD) ∈ nrw ∧ Cond.isRef (.static Bundle.tN "SUPPRESSED_SENTINEL" Bundle.listD) ∈ nrw := by decide +kernel
set_option maxRecDepth 100000 in
theorem st_xn : ∀ q ∈ xwN, Cond.not (.castable q.1 q.2) ∈ nrw := by decide +kernel
set_option maxRecDepth 100000 in
theorem st_sx : ∀ q ∈ strX, Cond.exactly (.string "AskedRules" q.1) "java/lang/String" ∈ nrw ∧ Cond.stringRef "AskedRules" q.1 q.2 ∈ lw_tbl := by decide +kernel
set_option maxRecDepth 100000 in
theorem st_w1 : ∀ i, i < 4 → Cond.exactly (ktW i) "java/lang/String" ∈ nrw ∧ Cond.eq (.field (ktW i) "java/lang/String" "coder" "B") (.int 0) ∈ nrw ∧ Cond.arrayOf (.field (ktW i) "java/lang/String" "value" "[B") .byte ∈ nrw ∧ Cond.eq (.length (.field (ktW i) "java/lang/String" "value" "[B")) (.int (Int32.ofNat (lenW.getD i 0))) ∈ nrw := by decide +kernel
set_option maxRecDepth 100000 in
theorem st_w2 : ∀ i, i < 4 → ∀ j, j < lenW.getD i 0 → Cond.eq (.elem (.field (ktW i) "java/lang/String" "value" "[B") (.int (Int32.ofNat j))) (.int ((bytW.getD i []).getD j 0)) ∈ nrw := by decide +kernel
set_option maxRecDepth 100000 in
theorem st_w3 : ∀ i, i < 4 → ∀ j, j < 4 → i ≠ j → Cond.not (Cond.eq (ktW i) (ktW j)) ∈ nrw ∨ Cond.not (Cond.eq (ktW j) (ktW i)) ∈ nrw := by decide +kernel
set_option maxRecDepth 100000 in
theorem st_w4 : Cond.stringRef "AskedRules$Script" 66 "if" ∈ lw_tbl ∧ Cond.stringRef "AskedRules$Script" 72 "drop" ∈ lw_tbl ∧ Cond.stringRef "AskedRules$Script" 74 "up" ∈ lw_tbl ∧ Cond.stringRef "AskedRules$Script" 76 "merge" ∈ lw_tbl := by decide +kernel
set_option maxRecDepth 100000 in
theorem st_t1 : Cond.arrayClass .int ∈ lw_tbl ∧ Cond.arrayClass .byte ∈ lw_tbl ∧ Cond.arrayClass .boolean ∈ lw_tbl ∧ Cond.arrayClass .long ∈ lw_tbl ∧ Cond.arrayOver (.object "AskedRules$Table") ∈ lw_tbl := by decide +kernel
set_option maxRecDepth 100000 in
theorem st_t2 : Cond.methodLinkNest RX1 17 yX4_init "AskedRules" ∈ lw_tbl ∧ Cond.methodLinkNest RX5 9 yX4_init "AskedRules" ∈ lw_tbl := by decide +kernel
set_option maxRecDepth 100000 in
theorem st_t3 : (∀ E ∈ xwE, Cond.castable E E ∈ lw_tbl) ∧ Cond.declares (Bundle.initS "java/lang/RuntimeException") ∈ lw_tbl ∧ Cond.declares (Bundle.initS "java/lang/Exception") ∈ lw_tbl ∧ Cond.declares (Bundle.initS Bundle.tN) ∈ lw_tbl := by decide +kernel
set_option maxRecDepth 100000 in
theorem st_t4 : Cond.laysStatic "AskedRules$Plans" "POWER" "[I" ∈ lw_tbl ∧ Cond.initialized "AskedRules$Plans" ∈ lw_tbl ∧ Cond.laysStatic Bundle.tN "UNASSIGNED_STACK" Bundle.steD ∈ lw_tbl ∧ Cond.initialized Bundle.tN ∈ lw_tbl ∧ Cond.laysStatic Bundle.tN "SUPPRESSED_SENTINEL" Bundle.listD ∈ lw_tbl ∧ Cond.laysStatic "java/lang/String" "COMPACT_STRINGS" "Z" ∈ lw_tbl ∧ Cond.initialized "java/lang/String" ∈ lw_tbl ∧ Cond.laysStatic "jdk/internal/util/Preconditions" "SIOOBE_FORMATTER" "Ljava/util/function/BiFunction;" ∈ lw_tbl ∧ Cond.initialized "jdk/internal/util/Preconditions" ∈ lw_tbl := by decide +kernel
set_option maxRecDepth 100000 in
theorem st_t5 : Cond.instantiable RX0 13 ∈ lw_tbl ∧ Cond.instantiable RX1 2 ∈ lw_tbl ∧ Cond.instantiable RX2 5 ∈ lw_tbl ∧ Cond.instantiable RX3 8 ∈ lw_tbl ∧ Cond.instantiable RX4 8 ∈ lw_tbl ∧ Cond.instantiable RX5 7 ∈ lw_tbl ∧ Cond.instantiable RX6 18 ∈ lw_tbl := by decide +kernel
def cnL (c0 c1 c2 c3 c4 c5 c6 : ClassId) : Nat → ClassId
  | 0 => c0
  | 1 => c1
  | 2 => c2
  | 3 => c3
  | 4 => c4
  | 5 => c5
  | _ => c6
def isL (c0 c1 c2 c3 c4 c5 c6 : Nat → Nat) : Nat → Nat → Nat
  | 0 => c0
  | 1 => c1
  | 2 => c2
  | 3 => c3
  | 4 => c4
  | 5 => c5
  | _ => c6
set_option maxRecDepth 100000 in
theorem st_facts {s : State} {b : Nat} {A : Nat → Prop} (hts : ∀ w ∈ lw_tbl, w.before #[Value.ref b] s = true) (hgv : (Jvm.Cond.and given_1 narrow_1).before #[Value.ref b] s = true) (hA : ∀ a : Nat, a < s.heap.size → ¬ A a) : ∃ (D : va_G) (kA : Nat → ClassId) (adK adV : Nat → Nat), va_K D vwCl (tyK kA) s ∧ evS adK adV A s s.heap ∧ xwS s ∧ nwS s := by
  have hn : ∀ w ∈ nrw, w.before #[Value.ref b] s = true := flat_of_before _ hgv
  obtain ⟨k0, hk0⟩ := st_k (hts _ (st_t1.1)) (fun c h => h)
  obtain ⟨k1, hk1⟩ := st_k (hts _ (st_t1.2.1)) (fun c h => h)
  obtain ⟨k2, hk2⟩ := st_k (hts _ (st_t1.2.2.1)) (fun c h => h)
  obtain ⟨k4, hk4⟩ := st_k (hts _ (st_t1.2.2.2.1)) (fun c h => h)
  obtain ⟨k3, hk3⟩ := st_o (hts _ (st_t1.2.2.2.2))
  obtain ⟨c0, i0, hc0⟩ := u_known (C := RX0) (T := TX0) (N := 13) (n := 13) hts inX0 (hts _ (st_t5.1))
  obtain ⟨c1, i1, hc1⟩ := u_known (C := RX1) (T := TX1) (N := 2) (n := 2) hts inX1 (hts _ (st_t5.2.1))
  obtain ⟨c2, i2, hc2⟩ := u_known (C := RX2) (T := TX2) (N := 5) (n := 5) hts inX2 (hts _ (st_t5.2.2.1))
  obtain ⟨c3, i3, hc3⟩ := u_known (C := RX3) (T := TX3) (N := 8) (n := 8) hts inX3 (hts _ (st_t5.2.2.2.1))
  obtain ⟨c4, i4, hc4⟩ := u_known (C := RX4) (T := TX4) (N := 8) (n := 8) hts inX4 (hts _ (st_t5.2.2.2.2.1))
  obtain ⟨c5, i5, hc5⟩ := u_known (C := RX5) (T := TX5) (N := 7) (n := 7) hts inX5 (hts _ (st_t5.2.2.2.2.2.1))
  obtain ⟨c6, i6, hc6⟩ := u_known (C := RX6) (T := TX6) (N := 18) (n := 18) hts inX6 (hts _ (st_t5.2.2.2.2.2.2))
  obtain ⟨a1, a2, a3, a4, a5, a6, a7⟩ := st_pw
  obtain ⟨l1, l2, l3, l4, l5, l6, l7, l8, l9⟩ := st_t4
  obtain ⟨t, ht, hT⟩ := va_Tof (tm := smC) (ty := .int) (N := 6) (f := fun j => .int (nI (5 ^ j))) (A := A) (by decide) (hn _ a1) (va_eqt (hn _ a2)) (fun j hj => va_eqt (hn _ (a3 j hj))) hA
  obtain ⟨adK, adV, hv, he⟩ := vk_Sof (N := 4) (tm := ktW) (len := lenW) (byt := bytW) (A := A) (by decide) (fun i hi => hn _ (st_w1 i hi).1) (fun i hi => hn _ (st_w1 i hi).2.1) (fun i hi => hn _ (st_w1 i hi).2.2.1) (fun i hi => hn _ (st_w1 i hi).2.2.2) (fun i hi j hj => hn _ (st_w2 i hi j hj)) (fun i j hi hj hij => (st_w3 i hi j hj hij).elim (fun h => Or.inl (hn _ h)) (fun h => Or.inr (hn _ h))) hA
  refine ⟨(cnL c0 c1 c2 c3 c4 c5 c6, isL i0 i1 i2 i3 i4 i5 i6), kaL k0 k1 k2 k3 k4, adK, adV, ⟨?_, ?_⟩, ⟨⟨t, va_Zof (hts _ l1) (hts _ l2) ht hA, hT⟩, ⟨vx_Zqof (hts _ l3) (hts _ l4) (hn _ a6) hA, vx_Zqof (hts _ l5) (hts _ l4) (hn _ a7) hA⟩, ?_, ⟨hv, vk_R.of (hts _ st_w4.1) (he 0 (by decide)), vk_R.of (hts _ st_w4.2.1) (he 1 (by decide)), vk_R.of (hts _ st_w4.2.2.1) (he 2 (by decide)), vk_R.of (hts _ st_w4.2.2.2) (he 3 (by decide))⟩, va_Zof (hts _ l6) (hts _ l7) (va_eqt (hn _ a4)) hA, va_Zqof (hts _ l8) (hts _ l9) (hn _ a5) hA⟩, ⟨fun E hE => va_Nw.of rfl (hts _ (st_t3.1 E hE)), ⟨va_Nw.of rfl (hts _ st_t3.2.1), va_Nw.of rfl (hts _ st_t3.2.2.1), va_Nw.of rfl (hts _ st_t3.2.2.2)⟩, fun q hq => va_Nc.of (hn _ (st_xn q hq))⟩, ⟨va_Nw.of rfl (hts _ st_t2.1), va_Nw.of rfl (hts _ st_t2.2), va_AO.of (hts _ (st_t1.2.2.2.2))⟩⟩
  · intro k q hq
    match k, hq with
    | 0, hq => cases hq; exact hc0
    | 1, hq => cases hq; exact hc1
    | 2, hq => cases hq; exact hc2
    | 3, hq => cases hq; exact hc3
    | 4, hq => cases hq; exact hc4
    | 5, hq => cases hq; exact hc5
    | 6, hq => cases hq; exact hc6
    | k + 7, hq => simp [vwCl] at hq
  · intro k q hq
    match k, hq with
    | 0, hq => cases hq; exact hk0
    | 1, hq => cases hq; exact hk1
    | 2, hq => cases hq; exact hk2
    | 3, hq => cases hq; exact hk3
    | 4, hq => cases hq; exact hk4
    | k + 5, hq => simp [tyK] at hq
  · intro q hq
    obtain ⟨e1, e2⟩ := st_sx q hq
    obtain ⟨a, -, -, -, r1, -⟩ := Cond.exactly_spec (args := #[Value.ref b]) (first := s) (o := none) (s := s) (idx := []) (hn _ e1)
    exact ⟨a, vk_R.of (hts _ e2) r1⟩

section NLE
variable {p : Program} {l : Launch} {e : Env} {R : Room} {s : State} {m : MethodId} {args : Array Value} {below : List Frame} {meth : Method} {c : Code} {H : Heap} {locs : List Loc} {cells slots : Nat} {Q : State → Prop}
variable {cc : ByteArray} {pc : Nat} {ls : Array Slot} {rest : List Value} {D : va_G} {cl : List vw_C} {ws : va_W} {tys : List (ClassId × FieldType)} {a : Nat} {A : Nat → Prop} {H0 : Heap}
variable {y : MethodName} {bytes : ByteArray} {maxL nL mc ms n index : Nat} {ret : Option FieldType} {wsy : List Cond} {rm : Room} {Ts : List Cond} {own C : String} {b : Nat} {As st : List Value} {wc : va_W} {tysc : List (ClassId × FieldType)}
variable {adK adV : Nat → Nat}

theorem na_L1 (cA : ClassId) : vp_cell cA (1, .inr (.inl (fun _ => (0 : Int64)))) = arrV cA 1 (fun _ => defaultValue .long) := by
  rw [vp_cell_l]; exact arrV_cong cA (fun j _ => rfl)
theorem n_newL {cc : ByteArray} (hx : p.tables.exec = Jvm.exec) (hb : c.code = cc) (harr : (Cond.arrayClass .long).before args s = true) (hK : va_K D cl tys s) (hP : va_P D cl ws H) (hD : va_D A ws) (hS : va_S A H0 H locs) (hA : ∀ q, H0.size ≤ q → A q) (t0 : Nat) {cK : ClassId} (ht : tys[t0]? = some (cK, .long)) (hcells : cells + 1 ≤ R.cells) (hslots : slots + 1 ≤ R.slots) (hdg : decode cc pc = .ok (.newarray .long, 2))
    (kk : ∀ (q : Nat) (H1 : Heap), va_P D cl (ws ++ [(q, .inl (cK, 1, .inr (.inl (fun _ => 0))))]) H1 → va_D A (ws ++ [(q, .inl (cK, 1, .inr (.inl (fun _ => 0))))]) → va_S A H0 H1 locs →
      W p l e R s m args below meth c H1 locs (cells + 1) (slots + 1) Q (F0 m (pc + 2) ls (.ref q :: rest))) : W p l e R s m args below meth c H locs cells slots Q (F0 m pc ls (.int (nI 1) :: rest)) := by
  refine va_newa (atype := .long) (ty := .long) (N' := 1) (a0 := (1, .inr (.inl (fun _ => 0)))) hx hb harr rfl hK hP hD hS hA (fun cA => na_L1 cA) (by decide) (by decide) (by decide) hcells hslots hdg (fun q cA H1 hK1 hP1 hD1 hS1 => ?_)
  have h1 : s.vm.findClass ("[" ++ FieldType.long.toString) = some cA := (hK1.2 tys.length (cA, .long) (by rw [List.getElem?_append_right (Nat.le_refl _), Nat.sub_self]; rfl)).2
  have h2 : s.vm.findClass ("[" ++ FieldType.long.toString) = some cK := (hK.2 t0 _ ht).2
  have e : cA = cK := Option.some.inj (h1.symm.trans h2)
  subst e
  exact kk q H1 hP1 hD1 hS1
end NLE
theorem tab_z : tabF 0 (fun _ => 0) (fun _ => 0) 0 0 (fun _ => 0) (fun _ => 0) (fun _ => 0) = fun _ => 0 := by
  funext i; unfold tabF; (repeat' split) <;> rfl
def zT : TCt := (0, (fun _ => 0), (fun _ => 0), 0, 0, (fun _ => 0), (fun _ => 0), (fun _ => 0))
theorem sav_z : savT (fun _ => zT) = fun _ => 0 := by
  funext i
  show tabF 0 (fun _ => 0) (fun _ => 0) 0 0 (fun _ => 0) (fun _ => 0) (fun _ => 0) (i % 73) = 0
  rw [tab_z]
theorem ti_z : tIn 0 (fun _ => 0) (fun _ => 0) 0 (fun _ => 0) (fun _ => 0) := ⟨by decide, fun k h => absurd h (Nat.not_lt_zero _), fun k h => absurd h (Nat.not_lt_zero _), by decide, fun k h => absurd h (Nat.not_lt_zero _), fun k h => absurd h (Nat.not_lt_zero _)⟩

set_option maxHeartbeats 4000000 in
set_option maxRecDepth 100000 in
theorem law_start {pQ : Program} {eQ : Env} {s : State} {mQ : MethodId} {below : List Frame} {meth : Method} {cQ : Code} (lQ : Launch) (hflags : lQ.flags = flags0) {b L : Nat} {zs : Nat → Int32} (hL : L ≤ 2048) (C0 : lw_At pQ s mQ meth cQ b L zs) : W pQ lQ eQ room_1 s mQ #[Value.ref b] below meth cQ s.heap [] 0 0 (lw_Z below #[Value.ref b] s) (entryFrame mQ ([Value.ref b] : List Value).toArray 7) := by
  obtain ⟨hx, hb, hr, hml, hown, htsT, hX, hbl, hlocks, hgv⟩ := id C0
  have hnt : lQ.stackTraces = false := by unfold Launch.stackTraces; rw [hflags]; decide
  obtain ⟨A, hAe⟩ : ∃ A : Nat → Prop, A = fun q => s.heap.size ≤ q := ⟨_, rfl⟩
  have hA : ∀ q : Nat, s.heap.size ≤ q → A q := fun q h => by rw [hAe]; exact h
  have hAI : ∀ q : Nat, A q → s.heap.size ≤ q := fun q h => by rw [hAe] at h; exact h
  have hbA : ¬ A b := fun h => absurd (hAI b h) (Nat.not_le.mpr hbl)
  obtain ⟨D, kA, adK, adV, hK, hE, hXW, hN⟩ := st_facts (A := A) htsT hgv (fun a h1 h2 => absurd (hAI a h2) (Nat.not_le.mpr h1))
  have hts : ∀ w ∈ wsL_law, w.before #[Value.ref b] s = true := fun w h => htsT w (wsL_law_in w h)
  have hS0 : CallFix pQ mQ cQ cL_law 7 s #[Value.ref b] wsL_law RL := ⟨hx, hb, hml, hown, hts⟩
  have hS : va_S A s.heap s.heap [] := va_S.rf
  have hP : va_P D vwCl [] s.heap := fun k q h => by simp at h
  have hD : va_D A [] := ⟨fun i j p q h => by simp at h, fun k q h => by simp at h⟩
  have cl8 : (Cond.classLink RL 8 RX5).before #[Value.ref b] s = true := hts _ (by decide +kernel)
  have inst5 : (Cond.instantiable RX5 7).before #[Value.ref b] s = true := hts _ (by decide +kernel)
  have init5 : (Cond.initialized RX5).before #[Value.ref b] s = true := hts _ (by decide +kernel)
  have hinX5 : ∀ w ∈ wsX50, w ∈ wsL_law := by decide +kernel
  have imX5 : (Cond.instanceMethod yX5_init).before #[Value.ref b] s = true := hts _ (by decide +kernel)
  have ml88 : (Cond.methodLink RL 88 yX5_init).before #[Value.ref b] s = true := hts _ (by decide +kernel)
  have cl89 : (Cond.classLink RL 89 RX6).before #[Value.ref b] s = true := hts _ (by decide +kernel)
  have inst6 : (Cond.instantiable RX6 18).before #[Value.ref b] s = true := hts _ (by decide +kernel)
  have init6 : (Cond.initialized RX6).before #[Value.ref b] s = true := hts _ (by decide +kernel)
  have hinX6 : ∀ w ∈ wsX60, w ∈ wsL_law := by decide +kernel
  have imX6 : (Cond.instanceMethod yX6_init).before #[Value.ref b] s = true := hts _ (by decide +kernel)
  have ml91 : (Cond.methodLink RL 91 yX6_init).before #[Value.ref b] s = true := hts _ (by decide +kernel)
  have arlong : (Cond.arrayClass .long).before #[Value.ref b] s = true := htsT _ st_t1.2.2.2.1
  have hl := lv_entry ([.ref b]) (n := 7) (Nat.le_of_ble_eq_true rfl)
  rw [lg_entry_eq]
  generalize (lg_sl ([.ref b]) ++ List.replicate (7 - (lg_sl ([.ref b])).length) Slot.unset).toArray = ls at hl ⊢
  have hl : lv_has ls 7 [(0, .ref b)] := hl
  refine va_new (ci := 5) (C := RX5) (T := TX5) (N := 7) hx hb hts hinX5 tyX5 tyX5_ok hown cl8 inst5 init5 hK hP hD hS hA rfl defX5 (Nat.le_of_ble_eq_true rfl) (Nat.le_of_ble_eq_true rfl) dL_law_0 (fun t0_1 H hP hD hS => ?_)
  have hP : va_P D vwCl (wN5 kA t0_1) H := hP
  have hD : va_D A (wN5 kA t0_1) := hD
  refine lv_dup hx hb dL_law_3 rfl ?_
  refine n_wIvN hN (b := t0_1) (As := []) (rest := [.ref t0_1]) (wr := []) (ws' := fun u => ((wM kA t0_1 u.1 u.2.1 u.2.2.1 u.2.2.2.1 u.2.2.2.2.1 true true) ++ ((wT kA u.1 0 (fun _ => 0) (fun _ => 0) 0 0 (fun _ => 0) (fun _ => 0) (fun _ => 0)) ++ ((wC kA u.2.1 u.1 0 (fun _ => 0) (fun _ => 0) (fun _ => some 0) (fun _ => some 0) (fun _ => 0) (fun _ => 0) (fun _ => false) (fun _ => 0) 0 0 0) ++ ((wP kA u.2.2.1 u.1 u.2.1 (fun _ => 0) (fun _ => 0) (fun _ => 0)) ++ ((wH kA u.2.2.2.1 0 u.2.2.2.2.2) ++ (wS kA u.2.2.2.2.1 u.1 (fun _ => 0) 0 0 (some 0) 0 0 (some 0)))))))) hS0 (c_X5_init lQ D kA t0_1 H.size) ⟨callB_of 0 hts gL_law_X5_init rfl rfl rfl init5 ml88 (by decide +kernel) ⟨Nat.le_of_ble_eq_true rfl, Nat.le_of_ble_eq_true rfl⟩, rfl, imX5⟩ hP hD hS hA hK hK (List.Perm.of_eq (List.append_nil _).symm) (fun u => List.Perm.of_eq (List.append_nil _)) rfl rfl hl.1 (Nat.le_of_ble_eq_true rfl) dL_law_4 ⟨Nat.le_of_ble_eq_true rfl, Nat.le_of_ble_eq_true rfl⟩ (fun u4 H locs h4 hP hD hS => ?_)
  obtain ⟨tq_4, cq_4, pq_4, hq_4, sq_4, sv9_4⟩ := u4
  have hP : va_P D vwCl ((wM kA t0_1 tq_4 cq_4 pq_4 hq_4 sq_4 true true) ++ ((wT kA tq_4 0 (fun _ => 0) (fun _ => 0) 0 0 (fun _ => 0) (fun _ => 0) (fun _ => 0)) ++ ((wC kA cq_4 tq_4 0 (fun _ => 0) (fun _ => 0) (fun _ => some 0) (fun _ => some 0) (fun _ => 0) (fun _ => 0) (fun _ => false) (fun _ => 0) 0 0 0) ++ ((wP kA pq_4 tq_4 cq_4 (fun _ => 0) (fun _ => 0) (fun _ => 0)) ++ ((wH kA hq_4 0 sv9_4) ++ (wS kA sq_4 tq_4 (fun _ => 0) 0 0 (some 0) 0 0 (some 0))))))) H := hP
  have hD : va_D A ((wM kA t0_1 tq_4 cq_4 pq_4 hq_4 sq_4 true true) ++ ((wT kA tq_4 0 (fun _ => 0) (fun _ => 0) 0 0 (fun _ => 0) (fun _ => 0) (fun _ => 0)) ++ ((wC kA cq_4 tq_4 0 (fun _ => 0) (fun _ => 0) (fun _ => some 0) (fun _ => some 0) (fun _ => 0) (fun _ => 0) (fun _ => false) (fun _ => 0) 0 0 0) ++ ((wP kA pq_4 tq_4 cq_4 (fun _ => 0) (fun _ => 0) (fun _ => 0)) ++ ((wH kA hq_4 0 sv9_4) ++ (wS kA sq_4 tq_4 (fun _ => 0) 0 0 (some 0) 0 0 (some 0))))))) := hD
  refine lv_astore_n (lv' := [(1, .ref t0_1), (0, .ref b)]) hx hb dL_law_7 rfl hl (by decide) rfl (fun ls hl => ?_)
  refine va_new (ci := 6) (C := RX6) (T := TX6) (N := 18) hx hb hts hinX6 tyX6 tyX6_ok hown cl89 inst6 init6 hK hP hD hS hA rfl defX6 (Nat.le_of_ble_eq_true rfl) (Nat.le_of_ble_eq_true rfl) dL_law_8 (fun t8_2 H hP hD hS => ?_)
  have hP : va_P D vwCl ((wM kA t0_1 tq_4 cq_4 pq_4 hq_4 sq_4 true true) ++ ((wT kA tq_4 0 (fun _ => 0) (fun _ => 0) 0 0 (fun _ => 0) (fun _ => 0) (fun _ => 0)) ++ ((wC kA cq_4 tq_4 0 (fun _ => 0) (fun _ => 0) (fun _ => some 0) (fun _ => some 0) (fun _ => 0) (fun _ => 0) (fun _ => false) (fun _ => 0) 0 0 0) ++ ((wP kA pq_4 tq_4 cq_4 (fun _ => 0) (fun _ => 0) (fun _ => 0)) ++ ((wH kA hq_4 0 sv9_4) ++ ((wS kA sq_4 tq_4 (fun _ => 0) 0 0 (some 0) 0 0 (some 0)) ++ (wN6 kA t8_2))))))) H := hP
  have hD : va_D A ((wM kA t0_1 tq_4 cq_4 pq_4 hq_4 sq_4 true true) ++ ((wT kA tq_4 0 (fun _ => 0) (fun _ => 0) 0 0 (fun _ => 0) (fun _ => 0) (fun _ => 0)) ++ ((wC kA cq_4 tq_4 0 (fun _ => 0) (fun _ => 0) (fun _ => some 0) (fun _ => some 0) (fun _ => 0) (fun _ => 0) (fun _ => false) (fun _ => 0) 0 0 0) ++ ((wP kA pq_4 tq_4 cq_4 (fun _ => 0) (fun _ => 0) (fun _ => 0)) ++ ((wH kA hq_4 0 sv9_4) ++ ((wS kA sq_4 tq_4 (fun _ => 0) 0 0 (some 0) 0 0 (some 0)) ++ (wN6 kA t8_2))))))) := hD
  refine lv_dup hx hb dL_law_11 rfl ?_
  refine n_wIv (b := t8_2) (As := []) (rest := [.ref t8_2]) (wr := ((wM kA t0_1 tq_4 cq_4 pq_4 hq_4 sq_4 true true) ++ ((wT kA tq_4 0 (fun _ => 0) (fun _ => 0) 0 0 (fun _ => 0) (fun _ => 0) (fun _ => 0)) ++ ((wC kA cq_4 tq_4 0 (fun _ => 0) (fun _ => 0) (fun _ => some 0) (fun _ => some 0) (fun _ => 0) (fun _ => 0) (fun _ => false) (fun _ => 0) 0 0 0) ++ ((wP kA pq_4 tq_4 cq_4 (fun _ => 0) (fun _ => 0) (fun _ => 0)) ++ ((wH kA hq_4 0 sv9_4) ++ (wS kA sq_4 tq_4 (fun _ => 0) 0 0 (some 0) 0 0 (some 0)))))))) (ws' := fun u => ((wM kA t0_1 tq_4 cq_4 pq_4 hq_4 sq_4 true true) ++ ((wT kA tq_4 0 (fun _ => 0) (fun _ => 0) 0 0 (fun _ => 0) (fun _ => 0) (fun _ => 0)) ++ ((wC kA cq_4 tq_4 0 (fun _ => 0) (fun _ => 0) (fun _ => some 0) (fun _ => some 0) (fun _ => 0) (fun _ => 0) (fun _ => false) (fun _ => 0) 0 0 0) ++ ((wP kA pq_4 tq_4 cq_4 (fun _ => 0) (fun _ => 0) (fun _ => 0)) ++ ((wH kA hq_4 0 sv9_4) ++ ((wS kA sq_4 tq_4 (fun _ => 0) 0 0 (some 0) 0 0 (some 0)) ++ (wRr kA (conF t8_2 u) (fun _ => 0) (fun _ => 0) 0 (fun _ => 0) 0 0 (fun _ => some 0) (fun _ => 0) (fun _ => some 0) (fun _ => 0) (fun _ => 0) (fun _ => 0) (fun _ => some 0) (fun _ => 0) 0 (some 0) (fun _ => 0) 0)))))))) hS0 (c_X6_init lQ D kA t8_2 H.size) ⟨callB_of 0 hts gL_law_X6_init rfl rfl rfl init6 ml91 (by decide +kernel) ⟨Nat.le_of_ble_eq_true rfl, Nat.le_of_ble_eq_true rfl⟩, rfl, imX6⟩ hP hD hS hA hK hK (by simpa only [List.append_assoc, List.append_nil] using ((List.Perm.append_left _ ((List.Perm.append_left _ ((List.Perm.append_left _ ((List.Perm.append_left _ ((List.Perm.append_left _ List.perm_append_comm).trans (List.perm_append_comm_assoc _ _ _))).trans (List.perm_append_comm_assoc _ _ _))).trans (List.perm_append_comm_assoc _ _ _))).trans (List.perm_append_comm_assoc _ _ _))).trans (List.perm_append_comm_assoc _ _ _))) (fun u => List.Perm.symm (by simpa only [List.append_assoc, List.append_nil] using ((List.Perm.append_left _ ((List.Perm.append_left _ ((List.Perm.append_left _ ((List.Perm.append_left _ ((List.Perm.append_left _ List.perm_append_comm).trans (List.perm_append_comm_assoc _ _ _))).trans (List.perm_append_comm_assoc _ _ _))).trans (List.perm_append_comm_assoc _ _ _))).trans (List.perm_append_comm_assoc _ _ _))).trans (List.perm_append_comm_assoc _ _ _)))) rfl rfl hl.1 (Nat.le_of_ble_eq_true rfl) dL_law_12 ⟨Nat.le_of_ble_eq_true rfl, Nat.le_of_ble_eq_true rfl⟩ (fun u12_3 H locs h12 hP hD hS => ?_)
  obtain ⟨u9_u12_3, rfl⟩ : ∃ z, z = u12_3 := ⟨_, rfl⟩
  have hP : va_P D vwCl ((wM kA t0_1 tq_4 cq_4 pq_4 hq_4 sq_4 true true) ++ ((wT kA tq_4 0 (fun _ => 0) (fun _ => 0) 0 0 (fun _ => 0) (fun _ => 0) (fun _ => 0)) ++ ((wC kA cq_4 tq_4 0 (fun _ => 0) (fun _ => 0) (fun _ => some 0) (fun _ => some 0) (fun _ => 0) (fun _ => 0) (fun _ => false) (fun _ => 0) 0 0 0) ++ ((wP kA pq_4 tq_4 cq_4 (fun _ => 0) (fun _ => 0) (fun _ => 0)) ++ ((wH kA hq_4 0 sv9_4) ++ ((wS kA sq_4 tq_4 (fun _ => 0) 0 0 (some 0) 0 0 (some 0)) ++ (wRr kA (conF t8_2 u9_u12_3) (fun _ => 0) (fun _ => 0) 0 (fun _ => 0) 0 0 (fun _ => some 0) (fun _ => 0) (fun _ => some 0) (fun _ => 0) (fun _ => 0) (fun _ => 0) (fun _ => some 0) (fun _ => 0) 0 (some 0) (fun _ => 0) 0))))))) H := hP
  have hD : va_D A ((wM kA t0_1 tq_4 cq_4 pq_4 hq_4 sq_4 true true) ++ ((wT kA tq_4 0 (fun _ => 0) (fun _ => 0) 0 0 (fun _ => 0) (fun _ => 0) (fun _ => 0)) ++ ((wC kA cq_4 tq_4 0 (fun _ => 0) (fun _ => 0) (fun _ => some 0) (fun _ => some 0) (fun _ => 0) (fun _ => 0) (fun _ => false) (fun _ => 0) 0 0 0) ++ ((wP kA pq_4 tq_4 cq_4 (fun _ => 0) (fun _ => 0) (fun _ => 0)) ++ ((wH kA hq_4 0 sv9_4) ++ ((wS kA sq_4 tq_4 (fun _ => 0) 0 0 (some 0) 0 0 (some 0)) ++ (wRr kA (conF t8_2 u9_u12_3) (fun _ => 0) (fun _ => 0) 0 (fun _ => 0) 0 0 (fun _ => some 0) (fun _ => 0) (fun _ => some 0) (fun _ => 0) (fun _ => 0) (fun _ => 0) (fun _ => some 0) (fun _ => 0) 0 (some 0) (fun _ => 0) 0))))))) := hD
  refine lv_astore_n (lv' := [(2, .ref t8_2), (1, .ref t0_1), (0, .ref b)]) hx hb dL_law_15 rfl hl (by decide) rfl (fun ls hl => ?_)
  refine lv_iconst (v := (nI 1)) hx hb dL_law_16 (by decide) ?_
  refine n_newL hx hb arlong hK hP hD hS hA 4 rfl (Nat.le_of_ble_eq_true rfl) (Nat.le_of_ble_eq_true rfl) dL_law_17 (fun t17 H hP hD hS => ?_)
  have hP : va_P D vwCl ((wM kA t0_1 tq_4 cq_4 pq_4 hq_4 sq_4 true true) ++ ((wT kA tq_4 0 (fun _ => 0) (fun _ => 0) 0 0 (fun _ => 0) (fun _ => 0) (fun _ => 0)) ++ ((wC kA cq_4 tq_4 0 (fun _ => 0) (fun _ => 0) (fun _ => some 0) (fun _ => some 0) (fun _ => 0) (fun _ => 0) (fun _ => false) (fun _ => 0) 0 0 0) ++ ((wP kA pq_4 tq_4 cq_4 (fun _ => 0) (fun _ => 0) (fun _ => 0)) ++ ((wH kA hq_4 0 sv9_4) ++ ((wS kA sq_4 tq_4 (fun _ => 0) 0 0 (some 0) 0 0 (some 0)) ++ ((wRr kA (conF t8_2 u9_u12_3) (fun _ => 0) (fun _ => 0) 0 (fun _ => 0) 0 0 (fun _ => some 0) (fun _ => 0) (fun _ => some 0) (fun _ => 0) (fun _ => 0) (fun _ => 0) (fun _ => some 0) (fun _ => 0) 0 (some 0) (fun _ => 0) 0) ++ (wO kA t17 (fun _ => 0))))))))) H := hP
  have hD : va_D A ((wM kA t0_1 tq_4 cq_4 pq_4 hq_4 sq_4 true true) ++ ((wT kA tq_4 0 (fun _ => 0) (fun _ => 0) 0 0 (fun _ => 0) (fun _ => 0) (fun _ => 0)) ++ ((wC kA cq_4 tq_4 0 (fun _ => 0) (fun _ => 0) (fun _ => some 0) (fun _ => some 0) (fun _ => 0) (fun _ => 0) (fun _ => false) (fun _ => 0) 0 0 0) ++ ((wP kA pq_4 tq_4 cq_4 (fun _ => 0) (fun _ => 0) (fun _ => 0)) ++ ((wH kA hq_4 0 sv9_4) ++ ((wS kA sq_4 tq_4 (fun _ => 0) 0 0 (some 0) 0 0 (some 0)) ++ ((wRr kA (conF t8_2 u9_u12_3) (fun _ => 0) (fun _ => 0) 0 (fun _ => 0) 0 0 (fun _ => some 0) (fun _ => 0) (fun _ => some 0) (fun _ => 0) (fun _ => 0) (fun _ => 0) (fun _ => some 0) (fun _ => 0) 0 (some 0) (fun _ => 0) 0) ++ (wO kA t17 (fun _ => 0))))))))) := hD
  refine lv_astore_n (lv' := [(3, .ref t17), (2, .ref t8_2), (1, .ref t0_1), (0, .ref b)]) hx hb dL_law_19 rfl hl (by decide) rfl (fun ls hl => ?_)
  refine lv_iconst (v := (nI 0)) hx hb dL_law_20 (by decide) ?_
  refine lv_istore (lv' := [(4, .int (nI 0)), (3, .ref t17), (2, .ref t8_2), (1, .ref t0_1), (0, .ref b)]) hx hb dL_law_21 hl (by decide) rfl (fun ls hl => ?_)
  have hz9 : (wRr kA (conF t8_2 u9_u12_3) (fun _ => 0) (fun _ => 0) 0 (fun _ => 0) 0 0 (fun _ => some 0) (fun _ => 0) (fun _ => some 0) (fun _ => 0) (fun _ => 0) (fun _ => 0) (fun _ => some 0) (fun _ => 0) 0 (some 0) (fun _ => 0) 0) = (wR kA (conF t8_2 u9_u12_3) 0 (fun _ => 0) (fun _ => 0) 0 0 (fun _ => 0) (fun _ => 0) (fun _ => 0) (fun _ => zT) 0 (fun _ => 0) 0 0 (fun _ => some 0) (fun _ => 0) (fun _ => some 0) (fun _ => 0) (fun _ => 0) (fun _ => 0) (fun _ => some 0) (fun _ => 0) 0 (some 0) (fun _ => 0) 0) := by unfold wR; rw [tab_z, sav_z]
  rw [hz9] at hP hD
  have hP : va_P D vwCl ((wM kA t0_1 tq_4 cq_4 pq_4 hq_4 sq_4 true true) ++ ((wT kA tq_4 0 (fun _ => 0) (fun _ => 0) 0 0 (fun _ => 0) (fun _ => 0) (fun _ => 0)) ++ ((wC kA cq_4 tq_4 0 (fun _ => 0) (fun _ => 0) (fun _ => some 0) (fun _ => some 0) (fun _ => 0) (fun _ => 0) (fun _ => false) (fun _ => 0) 0 0 0) ++ ((wP kA pq_4 tq_4 cq_4 (fun _ => 0) (fun _ => 0) (fun _ => 0)) ++ ((wH kA hq_4 0 sv9_4) ++ ((wS kA sq_4 tq_4 (fun _ => 0) 0 0 (some 0) 0 0 (some 0)) ++ ((wR kA (conF t8_2 u9_u12_3) 0 (fun _ => 0) (fun _ => 0) 0 0 (fun _ => 0) (fun _ => 0) (fun _ => 0) (fun _ => zT) 0 (fun _ => 0) 0 0 (fun _ => some 0) (fun _ => 0) (fun _ => some 0) (fun _ => 0) (fun _ => 0) (fun _ => 0) (fun _ => some 0) (fun _ => 0) 0 (some 0) (fun _ => 0) 0) ++ (wO kA t17 (fun _ => 0))))))))) H := hP
  have hD : va_D A ((wM kA t0_1 tq_4 cq_4 pq_4 hq_4 sq_4 true true) ++ ((wT kA tq_4 0 (fun _ => 0) (fun _ => 0) 0 0 (fun _ => 0) (fun _ => 0) (fun _ => 0)) ++ ((wC kA cq_4 tq_4 0 (fun _ => 0) (fun _ => 0) (fun _ => some 0) (fun _ => some 0) (fun _ => 0) (fun _ => 0) (fun _ => false) (fun _ => 0) 0 0 0) ++ ((wP kA pq_4 tq_4 cq_4 (fun _ => 0) (fun _ => 0) (fun _ => 0)) ++ ((wH kA hq_4 0 sv9_4) ++ ((wS kA sq_4 tq_4 (fun _ => 0) 0 0 (some 0) 0 0 (some 0)) ++ ((wR kA (conF t8_2 u9_u12_3) 0 (fun _ => 0) (fun _ => 0) 0 0 (fun _ => 0) (fun _ => 0) (fun _ => 0) (fun _ => zT) 0 (fun _ => 0) 0 0 (fun _ => some 0) (fun _ => 0) (fun _ => some 0) (fun _ => 0) (fun _ => 0) (fun _ => 0) (fun _ => some 0) (fun _ => 0) 0 (some 0) (fun _ => 0) 0) ++ (wO kA t17 (fun _ => 0))))))))) := hD
  refine W.widen (k := 62 + 0) (n := 27134 + 6 * 0) (Nat.le_of_ble_eq_true rfl) (Nat.le_of_ble_eq_true rfl) ?_
  exact law_loop (mq := t0_1) (q := tq_4) (qc := cq_4) (qp := pq_4) (hq := hq_4) (qs := sq_4) (oq := t17) (qr := conF t8_2 u9_u12_3) hnt hx hb hts hS0 hX hbl hbA hA hK hE hXW hL hr hlocks hAI (L + 9) 0 (Nat.zero_le _) (by omega) true true 0 (fun _ => 0) (fun _ => 0) 0 0 (fun _ => 0) (fun _ => 0) (fun _ => 0) 0 (fun _ => 0) (fun _ => 0) (fun _ => some 0) (fun _ => some 0) (fun _ => 0) (fun _ => 0) (fun _ => false) (fun _ => 0) 0 0 0 (fun _ => 0) (fun _ => 0) (fun _ => 0) 0 sv9_4 (fun _ => 0) 0 0 (some 0) 0 0 (some 0) (fun _ => zT) 0 (fun _ => some 0) (fun _ => 0) (fun _ => some 0) (fun _ => 0) (fun _ => 0) (fun _ => 0) (fun _ => some 0) (fun _ => 0) 0 (some 0) (fun _ => 0) 0 (fun _ => 0) ti_z (scrOK_t (fun _ _ => by decide) (fun _ _ => by decide)) (by decide) (fun j h => absurd h (Nat.not_lt_zero _)) (by decide) (fun j h => absurd h (Nat.not_lt_zero _)) (fun j h => absurd h (Nat.not_lt_zero _)) _ _ hP hD hS _ (lv_sub hl [0, 4, 3, 2, 1] rfl)
theorem whole_start {p : Program} {e : Env} {s : State} {m : MethodId} {below : List Frame} {meth : Method} {c : Code} (l : Launch) (hflags : l.flags = flags0) {b L : Nat} {xs : Nat → Int32} (hL : L ≤ 2048) (C0 : lw_At p s m meth c b L xs) : W p l e room_1 s m #[Value.ref b] below meth c s.heap [] 0 0 (lw_Z below #[Value.ref b] s) (entryFrame m ([Value.ref b] : List Value).toArray 7) := law_start l hflags hL C0
set_option maxHeartbeats 4000000 in
theorem lw_walk (l : Launch) (hflags : l.flags = flags0) (b : Addr) (xs : List Int32) : MetFree l x (headSpec (Jvm.Cond.code x code maxLocals ret :: tables_1) room_1) (lw_P b xs) (fun _ _ _ _ _ => True) lw_Q := by
  refine MetFree.of_bodyS (code := code) (maxLocals := maxLocals) (ret := ret) (by decide) ?_ ?_
  · intro args s m h hn
    obtain ⟨meth, c, h1, h2, h3, h4, h5, h6, -, -⟩ := Cond.code_spec hn (atoms_spec (ws := Jvm.Cond.code x code maxLocals ret :: tables_1) h _ List.mem_cons_self)
    exact ⟨meth, c, h1, h2, h3, h4, h5, h6⟩
  · intro p e s m args below meth c s₁ B hml0 hP _
    obtain ⟨rfl, hx, hbd, hgv⟩ := hP
    obtain ⟨scr, harrAt, hlist, hof, hsmall⟩ := hx
    obtain ⟨hcb, hkn, -, -⟩ := State.arrayAt?_spec harrAt
    have hown : s.vm.findClass R_law = some m.cls := findClass_of_methodNamed B.named
    have hts0 : ∀ c ∈ (Jvm.Cond.code x code maxLocals ret :: tables_1), c.before #[Value.ref b] s = true := atoms_spec (ws := Jvm.Cond.code x code maxLocals ret :: tables_1) B.pre
    have hts : ∀ w ∈ lw_tbl, w.before #[Value.ref b] s = true := k2_hts_sels lw_privs (fun w hw => hts0 w (List.mem_cons_of_mem _ hw)) lw_privs_ok
    have hml : c.maxLocals = 7 := B.maxLocals_eq (hts0 _ List.mem_cons_self)
    have X₀ : Stand p l e room_1 s m #[Value.ref b] below meth c s₁ [] 0 0 := Stand.of_body B
    have hh0 : s₁.heap = s.heap := by rw [B.state]; rfl
    have hsz : scr.slots.size = xs.length := by rw [← Array.length_toList, hlist, List.length_map]
    have hval : ∀ j : Nat, j < xs.length → scr.slots[j]? = some (.int (xs.getD j 0)) := fun j hj => by
      rw [← Array.getElem?_toList, hlist]
      simp [hj]
    have hbl : b < s.heap.size := (Array.getElem?_eq_some_iff.mp hcb).1
    have hX : va_X b xs.length (fun j => xs.getD j 0) s s.heap := ⟨scr, hcb, hof, hkn, hsz, hval⟩
    have K : W p l e room_1 s m #[Value.ref b] below meth c s₁.heap [] 0 0 (lw_Z below #[Value.ref b] s) (entryFrame m ([Value.ref b] : List Value).toArray 7) := by
      rw [hh0]
      exact whole_start l hflags hbd ⟨B.exec, B.bytes, B.returns, hml, hown, hts, hX, hbl, B.notSynchronized, hgv⟩
    obtain ⟨t, a1, o, b1, b2, b3⟩ := K s₁ rfl X₀
    exact ⟨t, o, a1, b1, b2, b3⟩
theorem lw_pre_spec {args : Array Value} {s : State} (h : (Jvm.Cond.and given_1 narrow_1).before args s = true) (hr : rest_1_c.before args s = true) : ∃ (b : Addr) (xs : List Int32), lw_P b xs args s := by
  have hs := flat_of_before _ h
  have hq := flat_of_before _ hr
  have hc : (Cond.count 1).before args s = true := hs _ (by decide +kernel)
  have harr : (Cond.arrayOf (.arg 0) .int).before args s = true := hs _ (by decide +kernel)
  have hle : (Cond.le (.length (.arg 0)) (.int 2048)).before args s = true := hs _ (by decide +kernel)
  have hlen : (Cond.isInt (.length (.arg 0))).before args s = true := hq _ (by decide +kernel)
  have hall : (Cond.all (.arg 0) (.isInt (.elem (.arg 0) (.index 0)))).before args s = true := hq _ (by decide +kernel)
  obtain ⟨b, xs, hb, hx⟩ := State.ints_of_pre rfl harr hlen hall
  have hsm : xs.length < 2 ^ 31 := hx.choose_spec.2.2.2
  have hev : (Term.length (.arg 0)).eval args s none [] s = some (.int xs.length.toInt32) := hx.length_eval hb
  have hv := Cond.le_ints hev (show (Term.int 2048).eval args s none [] s = some (.int 2048) from rfl)
  have hd : xs.length.toInt32 ≤ 2048 := by
    simpa [Cond.before, Cond.holds, hv] using hle
  have hN : xs.length ≤ 2048 := (Int32.ofNat_le_ofNat hsm (by decide)).mp (show Int32.ofNat xs.length ≤ Int32.ofNat 2048 from hd)
  exact ⟨b, xs, Cond.one_arg hc (show args[0]? = some (.ref b) from hb), hx, hN, h⟩
theorem lw_comes (l : Launch) (hflags : l.flags = flags0) : Comes l x (Jvm.Cond.code x code maxLocals ret :: tables_1) room_1 (fun tb e args s => Calls_1 tb e args s ∧ rest_1 tb e args s ∧ Pre_1 tb e args s)
    (fun _ _ args s o t => lw_Q args s o t) := by
  intro p e ha hc hk s m args below hf hfit hheap happ hpre
  obtain ⟨b, xs, hP⟩ := lw_pre_spec hpre.2.2 hpre.2.1
  obtain ⟨k, o, h1, h2, h3, hQ⟩ := lw_walk l hflags b xs p e ha hc hk s m args below hf ((Spec.applies_iff_loose hf).mp happ).1 hP trivial
  exact ⟨k, o, h1, h2, h3, hQ⟩
theorem lw_frame {s t : State} {o : Outcome} {args : Array Value} (h : Framed s o t [] 601024 7293034) :
    Framed s o t (fieldLocs frame_1_writes args s ++ arrayLocs frame_1_arrays args s ++ staticLocs frame_1_statics s) 601024 7293034 := h
theorem lw_limb (L : Cond) (hL : ∀ (args : Array Value) (s t : State), L.after args s (.returned (some (.int 1))) t = true) :
    ArmFor flags0 classFile x code maxLocals ret World_1 tables_1 room_1 Calls_1 rest_1 Pre_1
      (fun tb e a s o t => postC L tb e a s o t ∧ Framed s o t (fieldLocs frame_1_writes a s ++ arrayLocs frame_1_arrays a s ++ staticLocs frame_1_statics s) 601024 7293034) := by
  intro l hflags _ _ p e ha hc hk s m args below hf hfit hheap happ hpre
  obtain ⟨k, o, h1, h2, h3, rfl, hF⟩ := lw_comes l hflags p e ha hc hk s m args below hf hfit hheap happ hpre
  exact ⟨k, _, h1, h2, h3, hL args s _, lw_frame hF⟩
theorem i_vc : Claimed_1_1 ∧ Claimed_1_2 := ⟨lw_limb limb_1_1 (fun args s t => by simp [limb_1_1, Cond.after, Cond.holds, Cond.value]), lw_limb limb_1_2 (fun args s t => Cond.after_iff.mpr (by
  first | (rw [show limb_1_2 = Cond.eq .result (.int 1) from rfl, Cond.eq_ints (x := 1) (y := 1) rfl rfl]; simp; done) | (simp [limb_1_2, Cond.value, Term.eval]; done)))⟩

