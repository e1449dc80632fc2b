/-! THE CLAIM OUT OF ONE WALK OF THE LAW'S BODY. Your part is whole_start (and what it stands on); all else here is the same for every law, but numbers. -/
def R_law : String := "AskedRulesLaw"
def lw_P (b : Addr) (xs : List Int32) (args : Array Value) (s : State) : Prop := args = #[.ref b] ∧ s.IntsAt b xs ∧ xs.length ≤ 260 ∧ (Jvm.Cond.and given_1 narrow_1).before args s = true
def lw_Q (_ : Array Value) (s : State) (o : Outcome) (t : State) : Prop := o = .returned (some (.int 1)) ∧ Framed s o t [] 600130 7301080
def lw_Z (below : List Frame) (a : Array Value) (s : State) : State → Prop := fun t => ∃ o, t.status = .running ∧ Ended t below o ∧ lw_Q a s o t
/-- the law's own end, with 1 on the stack, nothing written that was there before, its room as the claim has it -/
theorem lw_ret {p : Program} {l : Launch} {e : Env} {s : State} {m : MethodId} {below : List Frame} {meth : Method} {c : Code} {b : Nat} (hx : p.tables.exec = Jvm.exec) (hb : c.code = code) (hr : meth.sig.returnType = ret) (hlocks : meth.locks = false) {pc : Nat} {H : Heap} {ls : Array Slot} (hdg : decode code pc = .ok (.ireturn, 1)) : W p l e room_1 s m #[Value.ref b] below meth c H [] 600130 7301080 (lw_Z below #[Value.ref b] s) (F0 m pc ls [.int 1]) := by
  intro T hT X
  obtain ⟨fs, hret, hrun, hended, hW, hframe⟩ := X.leave (v := some (.int 1)) (hlocks := hlocks) (fun h => by rw [hr] at h; cases h)
  have hmeth' : T.vm.method? m = some meth := X.method'
  refine ⟨T.setFrames fs, ?_, .returned (some (.int 1)), hrun, hended, rfl, ⟨_, rfl⟩, hW, hframe⟩
  jvm_step X.here [X.here.top, hx, hb, hdg, hmeth', hr, ret, narrow_b1]
  (try refine ⟨rfl, ?_⟩); (try refine ⟨rfl, ?_⟩)
  first | (intro acts; rw [hret _ acts rfl rfl rfl]) | rw [hret _ _ rfl rfl rfl]
  exact Steps.refl _
/-- what holds at the law's entry: the machine, the code, the tables' words (any of lw_tbl by 'hts w (by decide +kernel)'), the script of L ints xs at the cell b, what the Statement gives of the start (any of its parts by flat_of_before) -/
def lw_At (p : Program) (s : State) (m : MethodId) (meth : Method) (c : Code) (b L : Nat) (xs : Nat → Int32) : Prop :=
  p.tables.exec = Jvm.exec ∧ c.code = code ∧ meth.sig.returnType = ret ∧ c.maxLocals = 17 ∧ s.vm.findClass R_law = some m.cls ∧ (∀ w ∈ lw_tbl, w.before #[Value.ref b] s = true) ∧ va_X b L xs s s.heap ∧ b < s.heap.size ∧ meth.locks = false ∧ (Jvm.Cond.and given_1 narrow_1).before #[Value.ref b] s = true
theorem rm1 {c s : Nat} (h1 : c ≤ 600130) (h2 : s ≤ 7301080) : c ≤ room_1.cells ∧ s ≤ room_1.slots := ⟨h1, h2⟩
theorem kL16 : Cond.constant RL 16 (-2000001) ∈ wsL_law := by decide +kernel
theorem kL19 : Cond.constant RL 19 (-2000002) ∈ wsL_law := by decide +kernel
theorem at_an (t : TCt) (p a : Nat) : anT (atO t p a) p = a := up_s _ _ _
theorem ar_nm (t : TCt) (s a : Nat) : nmT (arO t s a) (rcT t) = adT t := up_s _ _ _
theorem ar_st (t : TCt) (s a : Nat) : stT (arO t s a) (rcT t) = s := up_s _ _ _
theorem sa_nib {t : TCt} {p k s : Nat} (hs : s < 16) : nibN (stT (saO t p k s) p) k = s := by
  show nibN (va_up (stT t) p (replN (stT t p) k s) p) k = s
  rw [up_s, repl_nib hs, if_pos rfl]
def lawI (pQ : Program) (lQ : Launch) (eQ : Env) (s : State) (mQ : MethodId) (below : List Frame) (meth : Method) (cQ : Code) (D : va_G) (kA : Nat → ClassId) (A : Nat → Prop) (b : Nat) (mq : Nat) (q : Nat → Nat) (qc : Nat → Nat) (qp : Nat → Nat) (hq : Nat → Nat) (qs : Nat → Nat) (x : SC9) (k : Nat) : Prop := ∀ (t : TCt) (cnt : Nat) (sv : Nat → TSt) (z : ZC), (okT t) → (zOK t z) → (cnt ≤ 4) → 0 < ccT t → adT t ≤ k → ∀ (H : Heap) (locs : List Loc), va_P D vwCl (wA kA mq q qc qp hq qs t cnt sv z x) H → va_D A (wA kA mq q qc qp hq qs t cnt sv z x) → va_S A s.heap H locs → ∀ (ls : Array Slot), lv_has ls 17 [(4, .int (nI k)), (3, .int (nI (ccT t))), (2, .int (nI 1)), (1, .ref mq), (0, .ref b)] → W pQ lQ eQ room_1 s mQ #[Value.ref b] below meth cQ H locs (52 + 2 * k) (13027 + 12 * k) (lw_Z below #[Value.ref b] s) (F0 mQ 113 ls [])
def lawJ (pQ : Program) (lQ : Launch) (eQ : Env) (s : State) (mQ : MethodId) (below : List Frame) (meth : Method) (cQ : Code) (D : va_G) (kA : Nat → ClassId) (A : Nat → Prop) (b : Nat) (mq : Nat) (q : Nat → Nat) (qc : Nat → Nat) (qp : Nat → Nat) (hq : Nat → Nat) (qs : Nat → Nat) (x : SC9) (k z6 : Nat) : Prop := ∀ (t : TCt) (cnt : Nat) (sv : Nat → TSt) (z : ZC), (okT t) → (zOK t z) → (cnt ≤ 4) → 0 < ccT t → adT t ≤ k + 1 → ∀ (H : Heap) (locs : List Loc), va_P D vwCl (wA kA mq q qc qp hq qs t cnt sv z x) H → va_D A (wA kA mq q qc qp hq qs t cnt sv z x) → va_S A s.heap H locs → ∀ (ls : Array Slot), lv_has ls 17 [(2, .int (nI 1)), (4, .int (nI k)), (6, .int (nI z6)), (1, .ref mq), (0, .ref b)] → W pQ lQ eQ room_1 s mQ #[Value.ref b] below meth cQ H locs (52 + 2 * k + 2) (13027 + 12 * k + 12) (lw_Z below #[Value.ref b] s) (F0 mQ 680 ls [])
set_option maxHeartbeats 4000000 in
set_option maxRecDepth 100000 in
theorem law_drops_r0 {pQ : Program} {lQ : Launch} {eQ : Env} {s : State} {mQ : MethodId} {below : List Frame} {meth : Method} {cQ : Code} {D : va_G} {kA : Nat → ClassId} {A : Nat → Prop} {b : Nat} {mq : Nat} {q : Nat → Nat} {qc : Nat → Nat} {qp : Nat → Nat} {hq : Nat → Nat} {qs : Nat → Nat} {x : SC9} {adK adV : Nat → Nat} {L : Nat} {zs : Nat → Int32} (hnt : lQ.stackTraces = false) (hx : pQ.tables.exec = Jvm.exec) (hb : cQ.code = cL_law) (hown : s.vm.findClass RL = some mQ.cls) (hts : ∀ w ∈ wsL_law, w.before #[Value.ref b] s = true) (hS0 : CallFix pQ mQ cQ cL_law 17 s #[Value.ref b] wsL_law RL) (hX : va_X b L zs s s.heap) (hbl : b < s.heap.size) (hbA : ¬ A b) (hA : ∀ q : Nat, s.heap.size ≤ q → A q) (hK : va_K D vwCl (tyK kA) s) (hE : evS adK adV A s s.heap) (hXW : xwS s) (hL : L ≤ 260) {k z6 : Nat} (hk9 : k < 22) (hz6 : z6 < 2147483648) (kk : lawJ pQ lQ eQ s mQ below meth cQ D kA A b mq q qc qp hq qs x k z6) {t : TCt} {cnt : Nat} {sv : Nat → TSt} {z : ZC} (hok : okT t) (hz : zOK t z) (hcn : cnt ≤ 4) (hcc0 : 0 < ccT t) (had : adT t ≤ k) (hr0 : rcT t = 0) {H : Heap} {locs : List Loc} (hP : va_P D vwCl (wA kA mq q qc qp hq qs t cnt sv z x) H) (hD : va_D A (wA kA mq q qc qp hq qs t cnt sv z x)) (hS : va_S A s.heap H locs) {ls : Array Slot} (hl : lv_has ls 17 [(9, .int (oI none)), (7, .int (nI (rcT t))), (6, .int (nI z6)), (4, .int (nI k)), (3, .int (nI (ccT t))), (2, .int (nI 1)), (1, .ref mq), (0, .ref b)]) : W pQ lQ eQ room_1 s mQ #[Value.ref b] below meth cQ H locs (52 + 2 * k) (13027 + 12 * k) (lw_Z below #[Value.ref b] s) (F0 mQ 228 ls []) := by
  have hcc := okT_cc hok
  have hrc := okT_rc hok
  have hnc := okT_nC hok
  have had9 := hok.2.2.2.1
  have hnp : 0 < nCs t := prodF_pos (okT_ac hok)
  have k16 : (Cond.constant RL 16 (-2000001)).before #[Value.ref b] s = true := hts _ kL16
  refine lv_aload_n hx hb dL_law_228 rfl (lv_at hl 6 rfl) ?_
  refine lv_iload hx hb dL_law_229 (lv_at hl 0 rfl) ?_
  refine n_wSiX (As := [.ref mq, .int (oI none)]) (rest := []) (wr := []) (ws' := fun u => (wA kA mq q qc qp hq qs t cnt sv u x)) hS0 (w_dr1 lQ D kA adK adV mq q qc qp hq qs t cnt sv z x (oI none) H.size hnt (by first | assumption | omega) (by first | assumption | omega) (by first | assumption | omega) hr0) (vx_cwSW 2 hts gL_law_L_drops rfl rfl rfl (by decide +kernel) ⟨Nat.le_of_ble_eq_true rfl, Nat.le_of_ble_eq_true rfl⟩) hP hD hS hE hXW hA hK hK (by simpa only [List.append_assoc, List.append_nil] using (List.Perm.of_eq (List.append_nil _).symm)) (fun u => List.Perm.symm (by simpa only [List.append_assoc, List.append_nil] using (List.Perm.of_eq (List.append_nil _).symm))) rfl rfl hl.1 (Nat.le_of_ble_eq_true rfl) dL_law_231 (rm1 (by omega) (by omega)) (fun r231 u231 H locs h231 hP hD hS => ?_)
  obtain ⟨z1_231, rfl⟩ : ∃ z, z = u231 := ⟨_, rfl⟩
  obtain ⟨rfl, h231_1⟩ := h231
  have hP : va_P D vwCl (wA kA mq q qc qp hq qs t cnt sv z1_231 x) H := hP
  have hD : va_D A (wA kA mq q qc qp hq qs t cnt sv z1_231 x) := hD
  refine lv_iload hx hb dL_law_234 (lv_at hl 1 rfl) ?_
  refine n_if_ne (a := rcT t) (tgt := 244) hx hb (by omega) dL_law_236 (by decide) (fun c236 => ?_) (fun c236 => ?_)
  · exact absurd c236 (by omega)
  · refine lv_ldc (v := (-2000001)) hx hb hown k16 dL_law_239 ?_
    refine lv_goto (tgt := 249) hx hb dL_law_241 (by decide) ?_
    refine lv_icmp_ne (tgt := 277) hx hb dL_law_249 (by decide) (fun c249 => ?_) (fun c249 => ?_)
    · exact absurd rfl c249
    · refine lv_aload_n hx hb dL_law_252 rfl (lv_at hl 6 rfl) ?_
      refine lv_iconst (v := (nI 2)) hx hb dL_law_253 (by decide) ?_
      refine n_wViE (b := mq) (As := [.int (nI 2)]) (rest := []) (wr := []) (ws' := fun u => (wA kA mq q qc qp hq qs t cnt sv u x)) hS0 (q_wh2 lQ D kA adK adV mq q qc qp hq qs t cnt sv z1_231 x H.size (by first | assumption | omega) (by first | assumption | omega)) (cwV 1 hts gL_law_X5_whole rfl rfl rfl (by decide +kernel) ⟨Nat.le_of_ble_eq_true rfl, Nat.le_of_ble_eq_true rfl⟩) hP hD hS hE hA hK hK (by simpa only [List.append_assoc, List.append_nil] using (List.Perm.of_eq (List.append_nil _).symm)) (fun u => List.Perm.symm (by simpa only [List.append_assoc, List.append_nil] using (List.Perm.of_eq (List.append_nil _).symm))) (q0 := 0) rfl rfl rfl rfl rfl hl.1 (Nat.le_of_ble_eq_true rfl) dL_law_254 (rm1 (by omega) (by omega)) (fun r254 u254 H locs h254 hP hD hS => ?_)
      obtain ⟨z1_254, rfl⟩ : ∃ z, z = u254 := ⟨_, rfl⟩
      obtain ⟨rfl, h254_1⟩ := h254
      have hP : va_P D vwCl (wA kA mq q qc qp hq qs t cnt sv z1_254 x) H := hP
      have hD : va_D A (wA kA mq q qc qp hq qs t cnt sv z1_254 x) := hD
      refine lv_iload hx hb dL_law_257 (lv_at hl 1 rfl) ?_
      refine n_if_ne (a := rcT t) (tgt := 266) hx hb (by omega) dL_law_259 (by decide) (fun c259 => ?_) (fun c259 => ?_)
      · exact absurd c259 (by omega)
      · refine lv_iconst (v := (nI 0)) hx hb dL_law_262 (by decide) ?_
        refine lv_goto (tgt := 270) hx hb dL_law_263 (by decide) ?_
        refine n_icmp_ne (a := rcT t) (b := 0) (tgt := 277) hx hb (by omega) (by omega) dL_law_270 (by decide) (fun c270 => ?_) (fun c270 => ?_)
        · exact absurd hr0 c270
        · refine lv_iconst (v := (nI 1)) hx hb dL_law_273 (by decide) ?_
          refine lv_goto (tgt := 278) hx hb dL_law_274 (by decide) ?_
          refine lv_istore_n (lv' := [(2, .int (nI 1)), (9, .int (oI none)), (7, .int (nI (rcT t))), (6, .int (nI z6)), (4, .int (nI k)), (3, .int (nI (ccT t))), (1, .ref mq), (0, .ref b)]) hx hb dL_law_278 rfl hl (by decide) rfl (fun ls hl => ?_)
          refine lv_goto (tgt := 680) hx hb dL_law_279 (by decide) ?_
          have hP : va_P D vwCl (wA kA mq q qc qp hq qs t cnt sv z1_254 x) H := hP
          have hD : va_D A (wA kA mq q qc qp hq qs t cnt sv z1_254 x) := hD
          refine W.widen (k := (52 + 2 * k + 2)) (n := (13027 + 12 * k + 12)) (by omega) (by omega) ?_
          exact kk t cnt sv z1_254 hok (by assumption) hcn hcc0 (Nat.le_succ_of_le had) _ _ hP hD hS _ (lv_sub hl [0, 4, 3, 6, 7] rfl)
set_option maxHeartbeats 4000000 in
set_option maxRecDepth 100000 in
theorem law_drops_r1 {pQ : Program} {lQ : Launch} {eQ : Env} {s : State} {mQ : MethodId} {below : List Frame} {meth : Method} {cQ : Code} {D : va_G} {kA : Nat → ClassId} {A : Nat → Prop} {b : Nat} {mq : Nat} {q : Nat → Nat} {qc : Nat → Nat} {qp : Nat → Nat} {hq : Nat → Nat} {qs : Nat → Nat} {x : SC9} {adK adV : Nat → Nat} {L : Nat} {zs : Nat → Int32} (hnt : lQ.stackTraces = false) (hx : pQ.tables.exec = Jvm.exec) (hb : cQ.code = cL_law) (hown : s.vm.findClass RL = some mQ.cls) (hts : ∀ w ∈ wsL_law, w.before #[Value.ref b] s = true) (hS0 : CallFix pQ mQ cQ cL_law 17 s #[Value.ref b] wsL_law RL) (hX : va_X b L zs s s.heap) (hbl : b < s.heap.size) (hbA : ¬ A b) (hA : ∀ q : Nat, s.heap.size ≤ q → A q) (hK : va_K D vwCl (tyK kA) s) (hE : evS adK adV A s s.heap) (hXW : xwS s) (hL : L ≤ 260) {k z6 : Nat} (hk9 : k < 22) (hz6 : z6 < 2147483648) (kk : lawJ pQ lQ eQ s mQ below meth cQ D kA A b mq q qc qp hq qs x k z6) {t : TCt} {cnt : Nat} {sv : Nat → TSt} {z : ZC} (hok : okT t) (hz : zOK t z) (hcn : cnt ≤ 4) (hcc0 : 0 < ccT t) (had : adT t ≤ k) (hr1 : 0 < rcT t) {H : Heap} {locs : List Loc} (hP : va_P D vwCl (wA kA mq q qc qp hq qs t cnt sv z x) H) (hD : va_D A (wA kA mq q qc qp hq qs t cnt sv z x)) (hS : va_S A s.heap H locs) {ls : Array Slot} (hl : lv_has ls 17 [(9, .int (nI (nmT t (z6 % (rcT t))))), (7, .int (nI (rcT t))), (6, .int (nI z6)), (4, .int (nI k)), (3, .int (nI (ccT t))), (2, .int (nI 1)), (1, .ref mq), (0, .ref b)]) : W pQ lQ eQ room_1 s mQ #[Value.ref b] below meth cQ H locs (52 + 2 * k) (13027 + 12 * k) (lw_Z below #[Value.ref b] s) (F0 mQ 228 ls []) := by
  have hcc := okT_cc hok
  have hrc := okT_rc hok
  have hnc := okT_nC hok
  have had9 := hok.2.2.2.1
  have hnp : 0 < nCs t := prodF_pos (okT_ac hok)
  have hmod : z6 % (rcT t) < rcT t := Nat.mod_lt _ hr1
  refine lv_aload_n hx hb dL_law_228 rfl (lv_at hl 6 rfl) ?_
  refine lv_iload hx hb dL_law_229 (lv_at hl 0 rfl) ?_
  refine n_wSiX (As := [.ref mq, .int (nI (nmT t (z6 % (rcT t))))]) (rest := []) (wr := []) (ws' := fun u => (wA kA mq q qc qp hq qs (drO t (z6 % (rcT t))) (cntF cnt) (savF cnt sv t) u x)) hS0 (w_dr0 lQ D kA adK adV mq q qc qp hq qs t cnt sv z x (nmT t (z6 % (rcT t))) (z6 % (rcT t)) H.size hnt (by first | assumption | omega) (by first | assumption | omega) (by first | assumption | omega) hmod rfl) (vx_cwSW 2 hts gL_law_L_drops rfl rfl rfl (by decide +kernel) ⟨Nat.le_of_ble_eq_true rfl, Nat.le_of_ble_eq_true rfl⟩) hP hD hS hE hXW hA hK hK (by simpa only [List.append_assoc, List.append_nil] using (List.Perm.of_eq (List.append_nil _).symm)) (fun u => List.Perm.symm (by simpa only [List.append_assoc, List.append_nil] using (List.Perm.of_eq (List.append_nil _).symm))) rfl rfl hl.1 (Nat.le_of_ble_eq_true rfl) dL_law_231 (rm1 (by omega) (by omega)) (fun r231 u231 H locs h231 hP hD hS => ?_)
  obtain ⟨z1_231, rfl⟩ : ∃ z, z = u231 := ⟨_, rfl⟩
  obtain ⟨rfl, h231_1⟩ := h231
  have hP : va_P D vwCl (wA kA mq q qc qp hq qs (drO t (z6 % (rcT t))) (cntF cnt) (savF cnt sv t) z1_231 x) H := hP
  have hD : va_D A (wA kA mq q qc qp hq qs (drO t (z6 % (rcT t))) (cntF cnt) (savF cnt sv t) z1_231 x) := hD
  refine lv_iload hx hb dL_law_234 (lv_at hl 1 rfl) ?_
  refine n_if_ne (a := rcT t) (tgt := 244) hx hb (by omega) dL_law_236 (by decide) (fun c236 => ?_) (fun c236 => ?_)
  · refine lv_iload hx hb dL_law_244 (lv_at hl 2 rfl) ?_
    refine lv_iload hx hb dL_law_246 (lv_at hl 1 rfl) ?_
    refine n_irem (v := (nI (z6 % (rcT t)))) hx hb (nI_ne0 (by omega) (by omega)) (pk_rem (by omega) (by omega) (by omega)) dL_law_248 ?_
    refine n_icmp_ne (a := z6 % (rcT t)) (b := z6 % (rcT t)) (tgt := 277) hx hb (by omega) (by omega) dL_law_249 (by decide) (fun c249 => ?_) (fun c249 => ?_)
    · exact absurd rfl c249
    · refine lv_aload_n hx hb dL_law_252 rfl (lv_at hl 6 rfl) ?_
      refine lv_iconst (v := (nI 2)) hx hb dL_law_253 (by decide) ?_
      refine n_wViE (b := mq) (As := [.int (nI 2)]) (rest := []) (wr := []) (ws' := fun u => (wA kA mq q qc qp hq qs (drO t (z6 % (rcT t))) (cntF cnt) (savF cnt sv t) u x)) hS0 (q_wh2 lQ D kA adK adV mq q qc qp hq qs (drO t (z6 % (rcT t))) (cntF cnt) (savF cnt sv t) z1_231 x H.size (okT_dr hok) (by first | assumption | omega)) (cwV 1 hts gL_law_X5_whole rfl rfl rfl (by decide +kernel) ⟨Nat.le_of_ble_eq_true rfl, Nat.le_of_ble_eq_true rfl⟩) hP hD hS hE hA hK hK (by simpa only [List.append_assoc, List.append_nil] using (List.Perm.of_eq (List.append_nil _).symm)) (fun u => List.Perm.symm (by simpa only [List.append_assoc, List.append_nil] using (List.Perm.of_eq (List.append_nil _).symm))) (q0 := 0) rfl rfl rfl rfl rfl hl.1 (Nat.le_of_ble_eq_true rfl) dL_law_254 (rm1 (by omega) (by omega)) (fun r254 u254 H locs h254 hP hD hS => ?_)
      obtain ⟨z1_254, rfl⟩ : ∃ z, z = u254 := ⟨_, rfl⟩
      obtain ⟨rfl, h254_1⟩ := h254
      have hP : va_P D vwCl (wA kA mq q qc qp hq qs (drO t (z6 % (rcT t))) (cntF cnt) (savF cnt sv t) z1_254 x) H := hP
      have hD : va_D A (wA kA mq q qc qp hq qs (drO t (z6 % (rcT t))) (cntF cnt) (savF cnt sv t) z1_254 x) := hD
      refine lv_iload hx hb dL_law_257 (lv_at hl 1 rfl) ?_
      refine n_if_ne (a := rcT t) (tgt := 266) hx hb (by omega) dL_law_259 (by decide) (fun c259 => ?_) (fun c259 => ?_)
      · refine lv_iload hx hb dL_law_266 (lv_at hl 1 rfl) ?_
        refine lv_iconst (v := (nI 1)) hx hb dL_law_268 (by decide) ?_
        refine n_isub (v := (nI ((rcT t) - 1))) hx hb (pk_sub (by omega)) dL_law_269 ?_
        refine n_icmp_ne (a := rcT (drO t (z6 % (rcT t)))) (b := (rcT t) - 1) (tgt := 277) hx hb (show rcT t - 1 < _ by omega) (by omega) dL_law_270 (by decide) (fun c270 => ?_) (fun c270 => ?_)
        · exact absurd rfl c270
        · refine lv_iconst (v := (nI 1)) hx hb dL_law_273 (by decide) ?_
          refine lv_goto (tgt := 278) hx hb dL_law_274 (by decide) ?_
          refine lv_istore_n (lv' := [(2, .int (nI 1)), (9, .int (nI (nmT t (z6 % (rcT t))))), (7, .int (nI (rcT t))), (6, .int (nI z6)), (4, .int (nI k)), (3, .int (nI (ccT t))), (1, .ref mq), (0, .ref b)]) hx hb dL_law_278 rfl hl (by decide) rfl (fun ls hl => ?_)
          refine lv_goto (tgt := 680) hx hb dL_law_279 (by decide) ?_
          have hP : va_P D vwCl (wA kA mq q qc qp hq qs (drO t (z6 % (rcT t))) (cntF cnt) (savF cnt sv t) z1_254 x) H := hP
          have hD : va_D A (wA kA mq q qc qp hq qs (drO t (z6 % (rcT t))) (cntF cnt) (savF cnt sv t) z1_254 x) := hD
          refine W.widen (k := (52 + 2 * k + 2)) (n := (13027 + 12 * k + 12)) (by omega) (by omega) ?_
          exact kk (drO t (z6 % (rcT t))) (cntF cnt) (savF cnt sv t) z1_254 (okT_dr hok) (by assumption) (cntF_le hcn) hcc0 (Nat.le_succ_of_le had) _ _ hP hD hS _ (lv_sub hl [0, 4, 3, 6, 7] rfl)
      · exact absurd hr1 (by omega)
  · exact absurd hr1 (by omega)
set_option maxHeartbeats 4000000 in
set_option maxRecDepth 100000 in
theorem law_ups_r0 {pQ : Program} {lQ : Launch} {eQ : Env} {s : State} {mQ : MethodId} {below : List Frame} {meth : Method} {cQ : Code} {D : va_G} {kA : Nat → ClassId} {A : Nat → Prop} {b : Nat} {mq : Nat} {q : Nat → Nat} {qc : Nat → Nat} {qp : Nat → Nat} {hq : Nat → Nat} {qs : Nat → Nat} {x : SC9} {adK adV : Nat → Nat} {L : Nat} {zs : Nat → Int32} (hnt : lQ.stackTraces = false) (hx : pQ.tables.exec = Jvm.exec) (hb : cQ.code = cL_law) (hown : s.vm.findClass RL = some mQ.cls) (hts : ∀ w ∈ wsL_law, w.before #[Value.ref b] s = true) (hS0 : CallFix pQ mQ cQ cL_law 17 s #[Value.ref b] wsL_law RL) (hX : va_X b L zs s s.heap) (hbl : b < s.heap.size) (hbA : ¬ A b) (hA : ∀ q : Nat, s.heap.size ≤ q → A q) (hK : va_K D vwCl (tyK kA) s) (hE : evS adK adV A s s.heap) (hXW : xwS s) (hL : L ≤ 260) {k z6 : Nat} (hk9 : k < 22) (hz6 : z6 < 2147483648) (kk : lawJ pQ lQ eQ s mQ below meth cQ D kA A b mq q qc qp hq qs x k z6) {t : TCt} {cnt : Nat} {sv : Nat → TSt} {z : ZC} (hok : okT t) (hz : zOK t z) (hcn : cnt ≤ 4) (hcc0 : 0 < ccT t) (had : adT t ≤ k) (hr0 : rcT t = 0) {H : Heap} {locs : List Loc} (hP : va_P D vwCl (wA kA mq q qc qp hq qs t cnt sv z x) H) (hD : va_D A (wA kA mq q qc qp hq qs t cnt sv z x)) (hS : va_S A s.heap H locs) {ls : Array Slot} (hl : lv_has ls 17 [(9, .int (oI none)), (7, .int (nI (rcT t))), (6, .int (nI z6)), (4, .int (nI k)), (3, .int (nI (ccT t))), (2, .int (nI 1)), (1, .ref mq), (0, .ref b)]) : W pQ lQ eQ room_1 s mQ #[Value.ref b] below meth cQ H locs (52 + 2 * k) (13027 + 12 * k) (lw_Z below #[Value.ref b] s) (F0 mQ 282 ls []) := by
  have hcc := okT_cc hok
  have hrc := okT_rc hok
  have hnc := okT_nC hok
  have had9 := hok.2.2.2.1
  have hnp : 0 < nCs t := prodF_pos (okT_ac hok)
  have k16 : (Cond.constant RL 16 (-2000001)).before #[Value.ref b] s = true := hts _ kL16
  refine lv_aload_n hx hb dL_law_282 rfl (lv_at hl 6 rfl) ?_
  refine lv_iload hx hb dL_law_283 (lv_at hl 0 rfl) ?_
  refine n_wSiX (As := [.ref mq, .int (oI none)]) (rest := []) (wr := []) (ws' := fun u => (wA kA mq q qc qp hq qs t cnt sv u x)) hS0 (w_up1 lQ D kA adK adV mq q qc qp hq qs t cnt sv z x (oI none) H.size hnt (by first | assumption | omega) (by first | assumption | omega) (by first | assumption | omega) hr0) (vx_cwSW 2 hts gL_law_L_ups rfl rfl rfl (by decide +kernel) ⟨Nat.le_of_ble_eq_true rfl, Nat.le_of_ble_eq_true rfl⟩) hP hD hS hE hXW hA hK hK (by simpa only [List.append_assoc, List.append_nil] using (List.Perm.of_eq (List.append_nil _).symm)) (fun u => List.Perm.symm (by simpa only [List.append_assoc, List.append_nil] using (List.Perm.of_eq (List.append_nil _).symm))) rfl rfl hl.1 (Nat.le_of_ble_eq_true rfl) dL_law_285 (rm1 (by omega) (by omega)) (fun r285 u285 H locs h285 hP hD hS => ?_)
  obtain ⟨z1_285, rfl⟩ : ∃ z, z = u285 := ⟨_, rfl⟩
  obtain ⟨rfl, h285_1⟩ := h285
  have hP : va_P D vwCl (wA kA mq q qc qp hq qs t cnt sv z1_285 x) H := hP
  have hD : va_D A (wA kA mq q qc qp hq qs t cnt sv z1_285 x) := hD
  refine lv_iload hx hb dL_law_288 (lv_at hl 1 rfl) ?_
  refine n_if_ne (a := rcT t) (tgt := 298) hx hb (by omega) dL_law_290 (by decide) (fun c290 => ?_) (fun c290 => ?_)
  · exact absurd c290 (by omega)
  · refine lv_ldc (v := (-2000001)) hx hb hown k16 dL_law_293 ?_
    refine lv_goto (tgt := 318) hx hb dL_law_295 (by decide) ?_
    refine lv_icmp_ne (tgt := 325) hx hb dL_law_318 (by decide) (fun c318 => ?_) (fun c318 => ?_)
    · exact absurd rfl c318
    · refine lv_iconst (v := (nI 1)) hx hb dL_law_321 (by decide) ?_
      refine lv_goto (tgt := 326) hx hb dL_law_322 (by decide) ?_
      refine lv_istore_n (lv' := [(2, .int (nI 1)), (9, .int (oI none)), (7, .int (nI (rcT t))), (6, .int (nI z6)), (4, .int (nI k)), (3, .int (nI (ccT t))), (1, .ref mq), (0, .ref b)]) hx hb dL_law_326 rfl hl (by decide) rfl (fun ls hl => ?_)
      refine lv_goto (tgt := 680) hx hb dL_law_327 (by decide) ?_
      have hP : va_P D vwCl (wA kA mq q qc qp hq qs t cnt sv z1_285 x) H := hP
      have hD : va_D A (wA kA mq q qc qp hq qs t cnt sv z1_285 x) := hD
      refine W.widen (k := (52 + 2 * k + 2)) (n := (13027 + 12 * k + 12)) (by omega) (by omega) ?_
      exact kk t cnt sv z1_285 hok (by assumption) hcn hcc0 (Nat.le_succ_of_le had) _ _ hP hD hS _ (lv_sub hl [0, 4, 3, 6, 7] rfl)
set_option maxHeartbeats 4000000 in
set_option maxRecDepth 100000 in
theorem law_ups_r1z {pQ : Program} {lQ : Launch} {eQ : Env} {s : State} {mQ : MethodId} {below : List Frame} {meth : Method} {cQ : Code} {D : va_G} {kA : Nat → ClassId} {A : Nat → Prop} {b : Nat} {mq : Nat} {q : Nat → Nat} {qc : Nat → Nat} {qp : Nat → Nat} {hq : Nat → Nat} {qs : Nat → Nat} {x : SC9} {adK adV : Nat → Nat} {L : Nat} {zs : Nat → Int32} (hnt : lQ.stackTraces = false) (hx : pQ.tables.exec = Jvm.exec) (hb : cQ.code = cL_law) (hown : s.vm.findClass RL = some mQ.cls) (hts : ∀ w ∈ wsL_law, w.before #[Value.ref b] s = true) (hS0 : CallFix pQ mQ cQ cL_law 17 s #[Value.ref b] wsL_law RL) (hX : va_X b L zs s s.heap) (hbl : b < s.heap.size) (hbA : ¬ A b) (hA : ∀ q : Nat, s.heap.size ≤ q → A q) (hK : va_K D vwCl (tyK kA) s) (hE : evS adK adV A s s.heap) (hXW : xwS s) (hL : L ≤ 260) {k z6 : Nat} (hk9 : k < 22) (hz6 : z6 < 2147483648) (kk : lawJ pQ lQ eQ s mQ below meth cQ D kA A b mq q qc qp hq qs x k z6) {t : TCt} {cnt : Nat} {sv : Nat → TSt} {z : ZC} (hok : okT t) (hz : zOK t z) (hcn : cnt ≤ 4) (hcc0 : 0 < ccT t) (had : adT t ≤ k) (hr1 : 0 < rcT t) (h0 : z6 % (rcT t) = 0) {H : Heap} {locs : List Loc} (hP : va_P D vwCl (wA kA mq q qc qp hq qs t cnt sv z x) H) (hD : va_D A (wA kA mq q qc qp hq qs t cnt sv z x)) (hS : va_S A s.heap H locs) {ls : Array Slot} (hl : lv_has ls 17 [(9, .int (nI (nmT t (z6 % (rcT t))))), (7, .int (nI (rcT t))), (6, .int (nI z6)), (4, .int (nI k)), (3, .int (nI (ccT t))), (2, .int (nI 1)), (1, .ref mq), (0, .ref b)]) : W pQ lQ eQ room_1 s mQ #[Value.ref b] below meth cQ H locs (52 + 2 * k) (13027 + 12 * k) (lw_Z below #[Value.ref b] s) (F0 mQ 282 ls []) := by
  have hcc := okT_cc hok
  have hrc := okT_rc hok
  have hnc := okT_nC hok
  have had9 := hok.2.2.2.1
  have hnp : 0 < nCs t := prodF_pos (okT_ac hok)
  have hmod : z6 % (rcT t) < rcT t := Nat.mod_lt _ hr1
  have k19 : (Cond.constant RL 19 (-2000002)).before #[Value.ref b] s = true := hts _ kL19
  refine lv_aload_n hx hb dL_law_282 rfl (lv_at hl 6 rfl) ?_
  refine lv_iload hx hb dL_law_283 (lv_at hl 0 rfl) ?_
  refine n_wSiX (As := [.ref mq, .int (nI (nmT t (z6 % (rcT t))))]) (rest := []) (wr := []) (ws' := fun u => (wA kA mq q qc qp hq qs t cnt sv u x)) hS0 (w_up2 lQ D kA adK adV mq q qc qp hq qs t cnt sv z x (nmT t (z6 % (rcT t))) (z6 % (rcT t)) H.size hnt (by first | assumption | omega) (by first | assumption | omega) (by first | assumption | omega) hmod rfl h0) (vx_cwSW 2 hts gL_law_L_ups rfl rfl rfl (by decide +kernel) ⟨Nat.le_of_ble_eq_true rfl, Nat.le_of_ble_eq_true rfl⟩) hP hD hS hE hXW hA hK hK (by simpa only [List.append_assoc, List.append_nil] using (List.Perm.of_eq (List.append_nil _).symm)) (fun u => List.Perm.symm (by simpa only [List.append_assoc, List.append_nil] using (List.Perm.of_eq (List.append_nil _).symm))) rfl rfl hl.1 (Nat.le_of_ble_eq_true rfl) dL_law_285 (rm1 (by omega) (by omega)) (fun r285 u285 H locs h285 hP hD hS => ?_)
  obtain ⟨z1_285, rfl⟩ : ∃ z, z = u285 := ⟨_, rfl⟩
  obtain ⟨rfl, h285_1⟩ := h285
  have hP : va_P D vwCl (wA kA mq q qc qp hq qs t cnt sv z1_285 x) H := hP
  have hD : va_D A (wA kA mq q qc qp hq qs t cnt sv z1_285 x) := hD
  refine lv_iload hx hb dL_law_288 (lv_at hl 1 rfl) ?_
  refine n_if_ne (a := rcT t) (tgt := 298) hx hb (by omega) dL_law_290 (by decide) (fun c290 => ?_) (fun c290 => ?_)
  · refine lv_iload hx hb dL_law_298 (lv_at hl 2 rfl) ?_
    refine lv_iload hx hb dL_law_300 (lv_at hl 1 rfl) ?_
    refine n_irem (v := (nI (z6 % (rcT t)))) hx hb (nI_ne0 (by omega) (by omega)) (pk_rem (by omega) (by omega) (by omega)) dL_law_302 ?_
    refine n_if_ne (a := z6 % (rcT t)) (tgt := 311) hx hb (by omega) dL_law_303 (by decide) (fun c303 => ?_) (fun c303 => ?_)
    · exact absurd c303 (by omega)
    · refine lv_ldc (v := (-2000002)) hx hb hown k19 dL_law_306 ?_
      refine lv_goto (tgt := 318) hx hb dL_law_308 (by decide) ?_
      refine lv_icmp_ne (tgt := 325) hx hb dL_law_318 (by decide) (fun c318 => ?_) (fun c318 => ?_)
      · exact absurd rfl c318
      · refine lv_iconst (v := (nI 1)) hx hb dL_law_321 (by decide) ?_
        refine lv_goto (tgt := 326) hx hb dL_law_322 (by decide) ?_
        refine lv_istore_n (lv' := [(2, .int (nI 1)), (9, .int (nI (nmT t (z6 % (rcT t))))), (7, .int (nI (rcT t))), (6, .int (nI z6)), (4, .int (nI k)), (3, .int (nI (ccT t))), (1, .ref mq), (0, .ref b)]) hx hb dL_law_326 rfl hl (by decide) rfl (fun ls hl => ?_)
        refine lv_goto (tgt := 680) hx hb dL_law_327 (by decide) ?_
        have hP : va_P D vwCl (wA kA mq q qc qp hq qs t cnt sv z1_285 x) H := hP
        have hD : va_D A (wA kA mq q qc qp hq qs t cnt sv z1_285 x) := hD
        refine W.widen (k := (52 + 2 * k + 2)) (n := (13027 + 12 * k + 12)) (by omega) (by omega) ?_
        exact kk t cnt sv z1_285 hok (by assumption) hcn hcc0 (Nat.le_succ_of_le had) _ _ hP hD hS _ (lv_sub hl [0, 4, 3, 6, 7] rfl)
  · exact absurd hr1 (by omega)
set_option maxHeartbeats 4000000 in
set_option maxRecDepth 100000 in
theorem law_ups_r1p {pQ : Program} {lQ : Launch} {eQ : Env} {s : State} {mQ : MethodId} {below : List Frame} {meth : Method} {cQ : Code} {D : va_G} {kA : Nat → ClassId} {A : Nat → Prop} {b : Nat} {mq : Nat} {q : Nat → Nat} {qc : Nat → Nat} {qp : Nat → Nat} {hq : Nat → Nat} {qs : Nat → Nat} {x : SC9} {adK adV : Nat → Nat} {L : Nat} {zs : Nat → Int32} (hnt : lQ.stackTraces = false) (hx : pQ.tables.exec = Jvm.exec) (hb : cQ.code = cL_law) (hown : s.vm.findClass RL = some mQ.cls) (hts : ∀ w ∈ wsL_law, w.before #[Value.ref b] s = true) (hS0 : CallFix pQ mQ cQ cL_law 17 s #[Value.ref b] wsL_law RL) (hX : va_X b L zs s s.heap) (hbl : b < s.heap.size) (hbA : ¬ A b) (hA : ∀ q : Nat, s.heap.size ≤ q → A q) (hK : va_K D vwCl (tyK kA) s) (hE : evS adK adV A s s.heap) (hXW : xwS s) (hL : L ≤ 260) {k z6 : Nat} (hk9 : k < 22) (hz6 : z6 < 2147483648) (kk : lawJ pQ lQ eQ s mQ below meth cQ D kA A b mq q qc qp hq qs x k z6) {t : TCt} {cnt : Nat} {sv : Nat → TSt} {z : ZC} (hok : okT t) (hz : zOK t z) (hcn : cnt ≤ 4) (hcc0 : 0 < ccT t) (had : adT t ≤ k) (hr1 : 0 < rcT t) (h0 : 0 < z6 % (rcT t)) {H : Heap} {locs : List Loc} (hP : va_P D vwCl (wA kA mq q qc qp hq qs t cnt sv z x) H) (hD : va_D A (wA kA mq q qc qp hq qs t cnt sv z x)) (hS : va_S A s.heap H locs) {ls : Array Slot} (hl : lv_has ls 17 [(9, .int (nI (nmT t (z6 % (rcT t))))), (7, .int (nI (rcT t))), (6, .int (nI z6)), (4, .int (nI k)), (3, .int (nI (ccT t))), (2, .int (nI 1)), (1, .ref mq), (0, .ref b)]) : W pQ lQ eQ room_1 s mQ #[Value.ref b] below meth cQ H locs (52 + 2 * k) (13027 + 12 * k) (lw_Z below #[Value.ref b] s) (F0 mQ 282 ls []) := by
  have hcc := okT_cc hok
  have hrc := okT_rc hok
  have hnc := okT_nC hok
  have had9 := hok.2.2.2.1
  have hnp : 0 < nCs t := prodF_pos (okT_ac hok)
  have hmod : z6 % (rcT t) < rcT t := Nat.mod_lt _ hr1
  refine lv_aload_n hx hb dL_law_282 rfl (lv_at hl 6 rfl) ?_
  refine lv_iload hx hb dL_law_283 (lv_at hl 0 rfl) ?_
  refine n_wSiX (As := [.ref mq, .int (nI (nmT t (z6 % (rcT t))))]) (rest := []) (wr := []) (ws' := fun u => (wA kA mq q qc qp hq qs (upO t (z6 % (rcT t))) (cntF cnt) (savF cnt sv t) u x)) hS0 (w_up0 lQ D kA adK adV mq q qc qp hq qs t cnt sv z x (nmT t (z6 % (rcT t))) (z6 % (rcT t)) H.size hnt (by first | assumption | omega) (by first | assumption | omega) (by first | assumption | omega) hmod rfl h0) (vx_cwSW 2 hts gL_law_L_ups rfl rfl rfl (by decide +kernel) ⟨Nat.le_of_ble_eq_true rfl, Nat.le_of_ble_eq_true rfl⟩) hP hD hS hE hXW hA hK hK (by simpa only [List.append_assoc, List.append_nil] using (List.Perm.of_eq (List.append_nil _).symm)) (fun u => List.Perm.symm (by simpa only [List.append_assoc, List.append_nil] using (List.Perm.of_eq (List.append_nil _).symm))) rfl rfl hl.1 (Nat.le_of_ble_eq_true rfl) dL_law_285 (rm1 (by omega) (by omega)) (fun r285 u285 H locs h285 hP hD hS => ?_)
  obtain ⟨z1_285, rfl⟩ : ∃ z, z = u285 := ⟨_, rfl⟩
  obtain ⟨rfl, h285_1⟩ := h285
  have hP : va_P D vwCl (wA kA mq q qc qp hq qs (upO t (z6 % (rcT t))) (cntF cnt) (savF cnt sv t) z1_285 x) H := hP
  have hD : va_D A (wA kA mq q qc qp hq qs (upO t (z6 % (rcT t))) (cntF cnt) (savF cnt sv t) z1_285 x) := hD
  refine lv_iload hx hb dL_law_288 (lv_at hl 1 rfl) ?_
  refine n_if_ne (a := rcT t) (tgt := 298) hx hb (by omega) dL_law_290 (by decide) (fun c290 => ?_) (fun c290 => ?_)
  · refine lv_iload hx hb dL_law_298 (lv_at hl 2 rfl) ?_
    refine lv_iload hx hb dL_law_300 (lv_at hl 1 rfl) ?_
    refine n_irem (v := (nI (z6 % (rcT t)))) hx hb (nI_ne0 (by omega) (by omega)) (pk_rem (by omega) (by omega) (by omega)) dL_law_302 ?_
    refine n_if_ne (a := z6 % (rcT t)) (tgt := 311) hx hb (by omega) dL_law_303 (by decide) (fun c303 => ?_) (fun c303 => ?_)
    · refine lv_iload hx hb dL_law_311 (lv_at hl 2 rfl) ?_
      refine lv_iload hx hb dL_law_313 (lv_at hl 1 rfl) ?_
      refine n_irem (v := (nI (z6 % (rcT t)))) hx hb (nI_ne0 (by omega) (by omega)) (pk_rem (by omega) (by omega) (by omega)) dL_law_315 ?_
      refine lv_iconst (v := (nI 1)) hx hb dL_law_316 (by decide) ?_
      refine n_isub (v := (nI ((z6 % (rcT t)) - 1))) hx hb (pk_sub (by omega)) dL_law_317 ?_
      refine n_icmp_ne (a := (z6 % (rcT t)) - 1) (b := (z6 % (rcT t)) - 1) (tgt := 325) hx hb (by omega) (by omega) dL_law_318 (by decide) (fun c318 => ?_) (fun c318 => ?_)
      · exact absurd rfl c318
      · refine lv_iconst (v := (nI 1)) hx hb dL_law_321 (by decide) ?_
        refine lv_goto (tgt := 326) hx hb dL_law_322 (by decide) ?_
        refine lv_istore_n (lv' := [(2, .int (nI 1)), (9, .int (nI (nmT t (z6 % (rcT t))))), (7, .int (nI (rcT t))), (6, .int (nI z6)), (4, .int (nI k)), (3, .int (nI (ccT t))), (1, .ref mq), (0, .ref b)]) hx hb dL_law_326 rfl hl (by decide) rfl (fun ls hl => ?_)
        refine lv_goto (tgt := 680) hx hb dL_law_327 (by decide) ?_
        have hP : va_P D vwCl (wA kA mq q qc qp hq qs (upO t (z6 % (rcT t))) (cntF cnt) (savF cnt sv t) z1_285 x) H := hP
        have hD : va_D A (wA kA mq q qc qp hq qs (upO t (z6 % (rcT t))) (cntF cnt) (savF cnt sv t) z1_285 x) := hD
        refine W.widen (k := (52 + 2 * k + 2)) (n := (13027 + 12 * k + 12)) (by omega) (by omega) ?_
        exact kk (upO t (z6 % (rcT t))) (cntF cnt) (savF cnt sv t) z1_285 (okT_up hok hmod h0) (by assumption) (cntF_le hcn) hcc0 (Nat.le_succ_of_le had) _ _ hP hD hS _ (lv_sub hl [0, 4, 3, 6, 7] rfl)
    · exact absurd h0 (by omega)
  · exact absurd hr1 (by omega)
set_option maxHeartbeats 4000000 in
set_option maxRecDepth 100000 in
theorem law_acts_r0 {pQ : Program} {lQ : Launch} {eQ : Env} {s : State} {mQ : MethodId} {below : List Frame} {meth : Method} {cQ : Code} {D : va_G} {kA : Nat → ClassId} {A : Nat → Prop} {b : Nat} {mq : Nat} {q : Nat → Nat} {qc : Nat → Nat} {qp : Nat → Nat} {hq : Nat → Nat} {qs : Nat → Nat} {x : SC9} {adK adV : Nat → Nat} {L : Nat} {zs : Nat → Int32} (hnt : lQ.stackTraces = false) (hx : pQ.tables.exec = Jvm.exec) (hb : cQ.code = cL_law) (hown : s.vm.findClass RL = some mQ.cls) (hts : ∀ w ∈ wsL_law, w.before #[Value.ref b] s = true) (hS0 : CallFix pQ mQ cQ cL_law 17 s #[Value.ref b] wsL_law RL) (hX : va_X b L zs s s.heap) (hbl : b < s.heap.size) (hbA : ¬ A b) (hA : ∀ q : Nat, s.heap.size ≤ q → A q) (hK : va_K D vwCl (tyK kA) s) (hE : evS adK adV A s s.heap) (hXW : xwS s) (hL : L ≤ 260) {k z6 : Nat} (hk9 : k < 22) (hz6 : z6 < 2147483648) (kk : lawJ pQ lQ eQ s mQ below meth cQ D kA A b mq q qc qp hq qs x k z6) {t : TCt} {cnt : Nat} {sv : Nat → TSt} {z : ZC} (hok : okT t) (hz : zOK t z) (hcn : cnt ≤ 4) (hcc0 : 0 < ccT t) (had : adT t ≤ k) (hr0 : rcT t = 0) {H : Heap} {locs : List Loc} (hP : va_P D vwCl (wA kA mq q qc qp hq qs t cnt sv z x) H) (hD : va_D A (wA kA mq q qc qp hq qs t cnt sv z x)) (hS : va_S A s.heap H locs) {ls : Array Slot} (hl : lv_has ls 17 [(9, .int (oI none)), (7, .int (nI (rcT t))), (6, .int (nI z6)), (4, .int (nI k)), (3, .int (nI (ccT t))), (2, .int (nI 1)), (1, .ref mq), (0, .ref b)]) : W pQ lQ eQ room_1 s mQ #[Value.ref b] below meth cQ H locs (52 + 2 * k) (13027 + 12 * k) (lw_Z below #[Value.ref b] s) (F0 mQ 330 ls []) := by
  have hcc := okT_cc hok
  have hrc := okT_rc hok
  have hnc := okT_nC hok
  have had9 := hok.2.2.2.1
  have hnp : 0 < nCs t := prodF_pos (okT_ac hok)
  refine lv_iload hx hb dL_law_330 (lv_at hl 1 rfl) ?_
  refine n_if_eq (a := rcT t) (tgt := 377) hx hb (by omega) dL_law_332 (by decide) (fun c332 => ?_) (fun c332 => ?_)
  · refine lv_iconst (v := (nI 1)) hx hb dL_law_377 (by decide) ?_
    refine lv_goto (tgt := 382) hx hb dL_law_378 (by decide) ?_
    refine lv_istore_n (lv' := [(2, .int (nI 1)), (9, .int (oI none)), (7, .int (nI (rcT t))), (6, .int (nI z6)), (4, .int (nI k)), (3, .int (nI (ccT t))), (1, .ref mq), (0, .ref b)]) hx hb dL_law_382 rfl hl (by decide) rfl (fun ls hl => ?_)
    refine lv_goto (tgt := 680) hx hb dL_law_383 (by decide) ?_
    have hP : va_P D vwCl (wA kA mq q qc qp hq qs t cnt sv z x) H := hP
    have hD : va_D A (wA kA mq q qc qp hq qs t cnt sv z x) := hD
    refine W.widen (k := (52 + 2 * k + 2)) (n := (13027 + 12 * k + 12)) (by omega) (by omega) ?_
    exact kk t cnt sv z hok (by assumption) hcn hcc0 (Nat.le_succ_of_le had) _ _ hP hD hS _ (lv_sub hl [0, 4, 3, 6, 7] rfl)
  · exact absurd c332 (by omega)
set_option maxHeartbeats 4000000 in
set_option maxRecDepth 100000 in
theorem law_acts_r1 {pQ : Program} {lQ : Launch} {eQ : Env} {s : State} {mQ : MethodId} {below : List Frame} {meth : Method} {cQ : Code} {D : va_G} {kA : Nat → ClassId} {A : Nat → Prop} {b : Nat} {mq : Nat} {q : Nat → Nat} {qc : Nat → Nat} {qp : Nat → Nat} {hq : Nat → Nat} {qs : Nat → Nat} {x : SC9} {adK adV : Nat → Nat} {L : Nat} {zs : Nat → Int32} (hnt : lQ.stackTraces = false) (hx : pQ.tables.exec = Jvm.exec) (hb : cQ.code = cL_law) (hown : s.vm.findClass RL = some mQ.cls) (hts : ∀ w ∈ wsL_law, w.before #[Value.ref b] s = true) (hS0 : CallFix pQ mQ cQ cL_law 17 s #[Value.ref b] wsL_law RL) (hX : va_X b L zs s s.heap) (hbl : b < s.heap.size) (hbA : ¬ A b) (hA : ∀ q : Nat, s.heap.size ≤ q → A q) (hK : va_K D vwCl (tyK kA) s) (hE : evS adK adV A s s.heap) (hXW : xwS s) (hL : L ≤ 260) {k z6 : Nat} (hk9 : k < 22) (hz6 : z6 < 2147483648) (kk : lawJ pQ lQ eQ s mQ below meth cQ D kA A b mq q qc qp hq qs x k z6) {t : TCt} {cnt : Nat} {sv : Nat → TSt} {z : ZC} (hok : okT t) (hz : zOK t z) (hcn : cnt ≤ 4) (hcc0 : 0 < ccT t) (had : adT t ≤ k) (hr1 : 0 < rcT t) {H : Heap} {locs : List Loc} (hP : va_P D vwCl (wA kA mq q qc qp hq qs t cnt sv z x) H) (hD : va_D A (wA kA mq q qc qp hq qs t cnt sv z x)) (hS : va_S A s.heap H locs) {ls : Array Slot} (hl : lv_has ls 17 [(9, .int (nI (nmT t (z6 % (rcT t))))), (7, .int (nI (rcT t))), (6, .int (nI z6)), (4, .int (nI k)), (3, .int (nI (ccT t))), (2, .int (nI 1)), (1, .ref mq), (0, .ref b)]) : W pQ lQ eQ room_1 s mQ #[Value.ref b] below meth cQ H locs (52 + 2 * k) (13027 + 12 * k) (lw_Z below #[Value.ref b] s) (F0 mQ 330 ls []) := by
  have hcc := okT_cc hok
  have hrc := okT_rc hok
  have hnc := okT_nC hok
  have had9 := hok.2.2.2.1
  have hnp : 0 < nCs t := prodF_pos (okT_ac hok)
  have hmod : z6 % (rcT t) < rcT t := Nat.mod_lt _ hr1
  refine lv_iload hx hb dL_law_330 (lv_at hl 1 rfl) ?_
  refine n_if_eq (a := rcT t) (tgt := 377) hx hb (by omega) dL_law_332 (by decide) (fun c332 => ?_) (fun c332 => ?_)
  · exact absurd hr1 (by omega)
  · refine lv_aload_n hx hb dL_law_335 rfl (lv_at hl 6 rfl) ?_
    refine lv_iload hx hb dL_law_336 (lv_at hl 0 rfl) ?_
    refine lv_iload hx hb dL_law_338 (lv_at hl 2 rfl) ?_
    refine lv_bipush (v := (nI 32)) hx hb dL_law_340 (by decide) ?_
    refine n_idiv (v := (nI (z6 / 32))) hx hb (nI_ne0 (by omega) (by omega)) (pk_div (by omega) (by omega) (by omega)) dL_law_342 ?_
    refine lv_bipush (v := (nI 10)) hx hb dL_law_343 (by decide) ?_
    refine n_irem (v := (nI ((z6 / 32) % 10))) hx hb (nI_ne0 (by omega) (by omega)) (pk_rem (by omega) (by omega) (by omega)) dL_law_345 ?_
    refine n_wSiX (As := [.ref mq, .int (nI (nmT t (z6 % (rcT t)))), .int (nI ((z6 / 32) % 10))]) (rest := []) (wr := []) (ws' := fun u => (wA kA mq q qc qp hq qs (atO t (z6 % (rcT t)) ((z6 / 32) % 10)) (cntF cnt) (savF cnt sv t) u x)) hS0 (w_at0 lQ D kA adK adV mq q qc qp hq qs t cnt sv z x (nmT t (z6 % (rcT t))) ((z6 / 32) % 10) (z6 % (rcT t)) H.size hnt (by first | assumption | omega) (by first | assumption | omega) (by first | assumption | omega) hmod rfl (Nat.mod_lt _ (by decide))) (vx_cwSW 3 hts gL_law_L_acts rfl rfl rfl (by decide +kernel) ⟨Nat.le_of_ble_eq_true rfl, Nat.le_of_ble_eq_true rfl⟩) hP hD hS hE hXW hA hK hK (by simpa only [List.append_assoc, List.append_nil] using (List.Perm.of_eq (List.append_nil _).symm)) (fun u => List.Perm.symm (by simpa only [List.append_assoc, List.append_nil] using (List.Perm.of_eq (List.append_nil _).symm))) rfl rfl hl.1 (Nat.le_of_ble_eq_true rfl) dL_law_346 (rm1 (by omega) (by omega)) (fun r346 u346 H locs h346 hP hD hS => ?_)
    obtain ⟨z1_346, rfl⟩ : ∃ z, z = u346 := ⟨_, rfl⟩
    obtain ⟨rfl, h346_1⟩ := h346
    have hP : va_P D vwCl (wA kA mq q qc qp hq qs (atO t (z6 % (rcT t)) ((z6 / 32) % 10)) (cntF cnt) (savF cnt sv t) z1_346 x) H := hP
    have hD : va_D A (wA kA mq q qc qp hq qs (atO t (z6 % (rcT t)) ((z6 / 32) % 10)) (cntF cnt) (savF cnt sv t) z1_346 x) := hD
    refine lv_aload_n hx hb dL_law_349 rfl (lv_at hl 6 rfl) ?_
    refine lv_iload hx hb dL_law_350 (lv_at hl 0 rfl) ?_
    refine lv_iconst (v := (nI 1)) hx hb dL_law_352 (by decide) ?_
    refine n_wViE (b := mq) (As := [.int (nI (nmT t (z6 % (rcT t)))), .int (nI 1)]) (rest := [.int (nI (anT t (z6 % (rcT t))))]) (wr := []) (ws' := fun u => (wA kA mq q qc qp hq qs (atO t (z6 % (rcT t)) ((z6 / 32) % 10)) (cntF cnt) (savF cnt sv t) u x)) hS0 (q_row1 lQ D kA adK adV mq q qc qp hq qs (atO t (z6 % (rcT t)) ((z6 / 32) % 10)) (cntF cnt) (savF cnt sv t) z1_346 x (nmT t (z6 % (rcT t))) (z6 % (rcT t)) H.size (okT_at hok (Nat.mod_lt _ (by decide))) (by first | assumption | omega) hmod rfl) (cwV 2 hts gL_law_X5_row rfl rfl rfl (by decide +kernel) ⟨Nat.le_of_ble_eq_true rfl, Nat.le_of_ble_eq_true rfl⟩) hP hD hS hE hA hK hK (by simpa only [List.append_assoc, List.append_nil] using (List.Perm.of_eq (List.append_nil _).symm)) (fun u => List.Perm.symm (by simpa only [List.append_assoc, List.append_nil] using (List.Perm.of_eq (List.append_nil _).symm))) (q0 := 0) rfl rfl rfl rfl rfl hl.1 (Nat.le_of_ble_eq_true rfl) dL_law_353 (rm1 (by omega) (by omega)) (fun r353 u353 H locs h353 hP hD hS => ?_)
    obtain ⟨z1_353, rfl⟩ : ∃ z, z = u353 := ⟨_, rfl⟩
    obtain ⟨rfl, h353_1⟩ := h353
    have hP : va_P D vwCl (wA kA mq q qc qp hq qs (atO t (z6 % (rcT t)) ((z6 / 32) % 10)) (cntF cnt) (savF cnt sv t) z1_353 x) H := hP
    have hD : va_D A (wA kA mq q qc qp hq qs (atO t (z6 % (rcT t)) ((z6 / 32) % 10)) (cntF cnt) (savF cnt sv t) z1_353 x) := hD
    refine n_icmp_eq (a := anT t (z6 % (rcT t))) (b := anT (atO t (z6 % (rcT t)) ((z6 / 32) % 10)) (z6 % (rcT t))) (tgt := 377) hx hb (Nat.lt_trans (okT_an hok _ hmod) (by decide)) (Nat.lt_trans (okT_an (okT_at hok (Nat.mod_lt _ (by decide))) _ hmod) (by decide)) dL_law_356 (by decide) (fun c356 => ?_) (fun c356 => ?_)
    · refine lv_iconst (v := (nI 1)) hx hb dL_law_377 (by decide) ?_
      refine lv_goto (tgt := 382) hx hb dL_law_378 (by decide) ?_
      refine lv_istore_n (lv' := [(2, .int (nI 1)), (9, .int (nI (nmT t (z6 % (rcT t))))), (7, .int (nI (rcT t))), (6, .int (nI z6)), (4, .int (nI k)), (3, .int (nI (ccT t))), (1, .ref mq), (0, .ref b)]) hx hb dL_law_382 rfl hl (by decide) rfl (fun ls hl => ?_)
      refine lv_goto (tgt := 680) hx hb dL_law_383 (by decide) ?_
      have hP : va_P D vwCl (wA kA mq q qc qp hq qs (atO t (z6 % (rcT t)) ((z6 / 32) % 10)) (cntF cnt) (savF cnt sv t) z1_353 x) H := hP
      have hD : va_D A (wA kA mq q qc qp hq qs (atO t (z6 % (rcT t)) ((z6 / 32) % 10)) (cntF cnt) (savF cnt sv t) z1_353 x) := hD
      refine W.widen (k := (52 + 2 * k + 2)) (n := (13027 + 12 * k + 12)) (by omega) (by omega) ?_
      exact kk (atO t (z6 % (rcT t)) ((z6 / 32) % 10)) (cntF cnt) (savF cnt sv t) z1_353 (okT_at hok (Nat.mod_lt _ (by decide))) (by assumption) (cntF_le hcn) hcc0 (Nat.le_succ_of_le had) _ _ hP hD hS _ (lv_sub hl [0, 4, 3, 6, 7] rfl)
    · refine lv_aload_n hx hb dL_law_359 rfl (lv_at hl 6 rfl) ?_
      refine lv_iload hx hb dL_law_360 (lv_at hl 0 rfl) ?_
      refine lv_iconst (v := (nI 1)) hx hb dL_law_362 (by decide) ?_
      refine n_wViE (b := mq) (As := [.int (nI (nmT t (z6 % (rcT t)))), .int (nI 1)]) (rest := []) (wr := []) (ws' := fun u => (wA kA mq q qc qp hq qs (atO t (z6 % (rcT t)) ((z6 / 32) % 10)) (cntF cnt) (savF cnt sv t) u x)) hS0 (q_row1 lQ D kA adK adV mq q qc qp hq qs (atO t (z6 % (rcT t)) ((z6 / 32) % 10)) (cntF cnt) (savF cnt sv t) z1_353 x (nmT t (z6 % (rcT t))) (z6 % (rcT t)) H.size (okT_at hok (Nat.mod_lt _ (by decide))) (by first | assumption | omega) hmod rfl) (cwV 2 hts gL_law_X5_row rfl rfl rfl (by decide +kernel) ⟨Nat.le_of_ble_eq_true rfl, Nat.le_of_ble_eq_true rfl⟩) hP hD hS hE hA hK hK (by simpa only [List.append_assoc, List.append_nil] using (List.Perm.of_eq (List.append_nil _).symm)) (fun u => List.Perm.symm (by simpa only [List.append_assoc, List.append_nil] using (List.Perm.of_eq (List.append_nil _).symm))) (q0 := 0) rfl rfl rfl rfl rfl hl.1 (Nat.le_of_ble_eq_true rfl) dL_law_363 (rm1 (by omega) (by omega)) (fun r363 u363 H locs h363 hP hD hS => ?_)
      obtain ⟨z1_363, rfl⟩ : ∃ z, z = u363 := ⟨_, rfl⟩
      obtain ⟨rfl, h363_1⟩ := h363
      have hP : va_P D vwCl (wA kA mq q qc qp hq qs (atO t (z6 % (rcT t)) ((z6 / 32) % 10)) (cntF cnt) (savF cnt sv t) z1_363 x) H := hP
      have hD : va_D A (wA kA mq q qc qp hq qs (atO t (z6 % (rcT t)) ((z6 / 32) % 10)) (cntF cnt) (savF cnt sv t) z1_363 x) := hD
      refine lv_iload hx hb dL_law_366 (lv_at hl 2 rfl) ?_
      refine lv_bipush (v := (nI 32)) hx hb dL_law_368 (by decide) ?_
      refine n_idiv (v := (nI (z6 / 32))) hx hb (nI_ne0 (by omega) (by omega)) (pk_div (by omega) (by omega) (by omega)) dL_law_370 ?_
      refine lv_bipush (v := (nI 10)) hx hb dL_law_371 (by decide) ?_
      refine n_irem (v := (nI ((z6 / 32) % 10))) hx hb (nI_ne0 (by omega) (by omega)) (pk_rem (by omega) (by omega) (by omega)) dL_law_373 ?_
      refine n_icmp_ne (a := anT (atO t (z6 % (rcT t)) ((z6 / 32) % 10)) (z6 % (rcT t))) (b := (z6 / 32) % 10) (tgt := 381) hx hb (Nat.lt_trans (okT_an (okT_at hok (Nat.mod_lt _ (by decide))) _ hmod) (by decide)) (by omega) dL_law_374 (by decide) (fun c374 => ?_) (fun c374 => ?_)
      · exact absurd (at_an _ _ _) c374
      · refine lv_iconst (v := (nI 1)) hx hb dL_law_377 (by decide) ?_
        refine lv_goto (tgt := 382) hx hb dL_law_378 (by decide) ?_
        refine lv_istore_n (lv' := [(2, .int (nI 1)), (9, .int (nI (nmT t (z6 % (rcT t))))), (7, .int (nI (rcT t))), (6, .int (nI z6)), (4, .int (nI k)), (3, .int (nI (ccT t))), (1, .ref mq), (0, .ref b)]) hx hb dL_law_382 rfl hl (by decide) rfl (fun ls hl => ?_)
        refine lv_goto (tgt := 680) hx hb dL_law_383 (by decide) ?_
        have hP : va_P D vwCl (wA kA mq q qc qp hq qs (atO t (z6 % (rcT t)) ((z6 / 32) % 10)) (cntF cnt) (savF cnt sv t) z1_363 x) H := hP
        have hD : va_D A (wA kA mq q qc qp hq qs (atO t (z6 % (rcT t)) ((z6 / 32) % 10)) (cntF cnt) (savF cnt sv t) z1_363 x) := hD
        refine W.widen (k := (52 + 2 * k + 2)) (n := (13027 + 12 * k + 12)) (by omega) (by omega) ?_
        exact kk (atO t (z6 % (rcT t)) ((z6 / 32) % 10)) (cntF cnt) (savF cnt sv t) z1_363 (okT_at hok (Nat.mod_lt _ (by decide))) (by assumption) (cntF_le hcn) hcc0 (Nat.le_succ_of_le had) _ _ hP hD hS _ (lv_sub hl [0, 4, 3, 6, 7] rfl)
set_option maxHeartbeats 4000000 in
set_option maxRecDepth 100000 in
theorem law_sets_r0 {pQ : Program} {lQ : Launch} {eQ : Env} {s : State} {mQ : MethodId} {below : List Frame} {meth : Method} {cQ : Code} {D : va_G} {kA : Nat → ClassId} {A : Nat → Prop} {b : Nat} {mq : Nat} {q : Nat → Nat} {qc : Nat → Nat} {qp : Nat → Nat} {hq : Nat → Nat} {qs : Nat → Nat} {x : SC9} {adK adV : Nat → Nat} {L : Nat} {zs : Nat → Int32} (hnt : lQ.stackTraces = false) (hx : pQ.tables.exec = Jvm.exec) (hb : cQ.code = cL_law) (hown : s.vm.findClass RL = some mQ.cls) (hts : ∀ w ∈ wsL_law, w.before #[Value.ref b] s = true) (hS0 : CallFix pQ mQ cQ cL_law 17 s #[Value.ref b] wsL_law RL) (hX : va_X b L zs s s.heap) (hbl : b < s.heap.size) (hbA : ¬ A b) (hA : ∀ q : Nat, s.heap.size ≤ q → A q) (hK : va_K D vwCl (tyK kA) s) (hE : evS adK adV A s s.heap) (hXW : xwS s) (hL : L ≤ 260) {k z6 : Nat} (hk9 : k < 22) (hz6 : z6 < 2147483648) (kk : lawJ pQ lQ eQ s mQ below meth cQ D kA A b mq q qc qp hq qs x k z6) {t : TCt} {cnt : Nat} {sv : Nat → TSt} {z : ZC} (hok : okT t) (hz : zOK t z) (hcn : cnt ≤ 4) (hcc0 : 0 < ccT t) (had : adT t ≤ k) (hr0 : rcT t = 0) {H : Heap} {locs : List Loc} (hP : va_P D vwCl (wA kA mq q qc qp hq qs t cnt sv z x) H) (hD : va_D A (wA kA mq q qc qp hq qs t cnt sv z x)) (hS : va_S A s.heap H locs) {ls : Array Slot} (hl : lv_has ls 17 [(9, .int (oI none)), (7, .int (nI (rcT t))), (6, .int (nI z6)), (4, .int (nI k)), (3, .int (nI (ccT t))), (2, .int (nI 1)), (1, .ref mq), (0, .ref b)]) : W pQ lQ eQ room_1 s mQ #[Value.ref b] below meth cQ H locs (52 + 2 * k) (13027 + 12 * k) (lw_Z below #[Value.ref b] s) (F0 mQ 386 ls []) := by
  have hcc := okT_cc hok
  have hrc := okT_rc hok
  have hnc := okT_nC hok
  have had9 := hok.2.2.2.1
  have hnp : 0 < nCs t := prodF_pos (okT_ac hok)
  have hm2 : (z6 / 32) % (ccT t) < ccT t := Nat.mod_lt _ hcc0
  have hac9 := okT_ac hok _ hm2
  have hful := ful_3 (acT t ((z6 / 32) % (ccT t))) (by omega) hac9.1
  have hset := sb_set (l := z6 / 256) hac9 (Or.inr rfl)
  have k16 : (Cond.constant RL 16 (-2000001)).before #[Value.ref b] s = true := hts _ kL16
  refine lv_iload hx hb dL_law_386 (lv_at hl 2 rfl) ?_
  refine lv_bipush (v := (nI 32)) hx hb dL_law_388 (by decide) ?_
  refine n_idiv (v := (nI (z6 / 32))) hx hb (nI_ne0 (by omega) (by omega)) (pk_div (by omega) (by omega) (by omega)) dL_law_390 ?_
  refine lv_iload_n hx hb dL_law_391 rfl (lv_at hl 4 rfl) ?_
  refine n_irem (v := (nI ((z6 / 32) % (ccT t)))) hx hb (nI_ne0 (by omega) (by omega)) (pk_rem (by omega) (by omega) (by omega)) dL_law_392 ?_
  refine lv_istore (lv' := [(10, .int (nI ((z6 / 32) % (ccT t)))), (9, .int (oI none)), (7, .int (nI (rcT t))), (6, .int (nI z6)), (4, .int (nI k)), (3, .int (nI (ccT t))), (2, .int (nI 1)), (1, .ref mq), (0, .ref b)]) hx hb dL_law_393 hl (by decide) rfl (fun ls hl => ?_)
  refine lv_iconst (v := (nI 1)) hx hb dL_law_395 (by decide) ?_
  refine lv_aload_n hx hb dL_law_396 rfl (lv_at hl 7 rfl) ?_
  refine lv_iload hx hb dL_law_397 (lv_at hl 0 rfl) ?_
  refine lv_iconst (v := (nI 0)) hx hb dL_law_399 (by decide) ?_
  refine n_wViE (b := mq) (As := [.int (nI ((z6 / 32) % (ccT t))), .int (nI 0)]) (rest := [.int (nI 1)]) (wr := []) (ws' := fun u => (wA kA mq q qc qp hq qs t cnt sv u x)) hS0 (q_co0 lQ D kA adK adV mq q qc qp hq qs t cnt sv z x ((z6 / 32) % (ccT t)) H.size (by first | assumption | omega) (by first | assumption | omega) hm2) (cwV 2 hts gL_law_X5_condition rfl rfl rfl (by decide +kernel) ⟨Nat.le_of_ble_eq_true rfl, Nat.le_of_ble_eq_true rfl⟩) hP hD hS hE hA hK hK (by simpa only [List.append_assoc, List.append_nil] using (List.Perm.of_eq (List.append_nil _).symm)) (fun u => List.Perm.symm (by simpa only [List.append_assoc, List.append_nil] using (List.Perm.of_eq (List.append_nil _).symm))) (q0 := 0) rfl rfl rfl rfl rfl hl.1 (Nat.le_of_ble_eq_true rfl) dL_law_400 (rm1 (by omega) (by omega)) (fun r400 u400 H locs h400 hP hD hS => ?_)
  obtain ⟨z1_400, rfl⟩ : ∃ z, z = u400 := ⟨_, rfl⟩
  obtain ⟨rfl, h400_1⟩ := h400
  have hP : va_P D vwCl (wA kA mq q qc qp hq qs t cnt sv z1_400 x) H := hP
  have hD : va_D A (wA kA mq q qc qp hq qs t cnt sv z1_400 x) := hD
  refine n_ishl (v := (nI (1 <<< (acT t ((z6 / 32) % (ccT t)))))) hx hb (nN_shl _ (by omega)) dL_law_403 ?_
  refine lv_iconst (v := (nI 1)) hx hb dL_law_404 (by decide) ?_
  refine n_isub (v := (nI (fulN (acT t ((z6 / 32) % (ccT t)))))) hx hb (pk_sub (one_shl _)) dL_law_405 ?_
  refine lv_istore (lv' := [(11, .int (nI (fulN (acT t ((z6 / 32) % (ccT t)))))), (10, .int (nI ((z6 / 32) % (ccT t)))), (9, .int (oI none)), (7, .int (nI (rcT t))), (6, .int (nI z6)), (4, .int (nI k)), (3, .int (nI (ccT t))), (2, .int (nI 1)), (1, .ref mq), (0, .ref b)]) hx hb dL_law_406 hl (by decide) rfl (fun ls hl => ?_)
  refine lv_iconst (v := (nI 1)) hx hb dL_law_408 (by decide) ?_
  refine lv_iload hx hb dL_law_409 (lv_at hl 4 rfl) ?_
  refine lv_sipush (v := (nI 256)) hx hb dL_law_411 (by decide) ?_
  refine n_idiv (v := (nI (z6 / 256))) hx hb (nI_ne0 (by omega) (by omega)) (pk_div (by omega) (by omega) (by omega)) dL_law_414 ?_
  refine lv_iload hx hb dL_law_415 (lv_at hl 0 rfl) ?_
  refine n_irem (v := (nI ((z6 / 256) % (fulN (acT t ((z6 / 32) % (ccT t))))))) hx hb (nI_ne0 (by omega) (by omega)) (pk_rem (by omega) (by omega) (by omega)) dL_law_417 ?_
  refine n_iadd (v := (nI (1 + ((z6 / 256) % (fulN (acT t ((z6 / 32) % (ccT t)))))))) hx hb (nI_add _ _) dL_law_418 ?_
  refine lv_istore (lv' := [(12, .int (nI (1 + ((z6 / 256) % (fulN (acT t ((z6 / 32) % (ccT t)))))))), (11, .int (nI (fulN (acT t ((z6 / 32) % (ccT t)))))), (10, .int (nI ((z6 / 32) % (ccT t)))), (9, .int (oI none)), (7, .int (nI (rcT t))), (6, .int (nI z6)), (4, .int (nI k)), (3, .int (nI (ccT t))), (2, .int (nI 1)), (1, .ref mq), (0, .ref b)]) hx hb dL_law_419 hl (by decide) rfl (fun ls hl => ?_)
  refine lv_iload hx hb dL_law_421 (lv_at hl 4 rfl) ?_
  refine n_if_ne (a := rcT t) (tgt := 431) hx hb (by omega) dL_law_423 (by decide) (fun c423 => ?_) (fun c423 => ?_)
  · exact absurd c423 (by omega)
  · refine lv_ldc (v := (-2000001)) hx hb hown k16 dL_law_426 ?_
    refine lv_goto (tgt := 439) hx hb dL_law_428 (by decide) ?_
    refine lv_istore (lv' := [(13, .int (-2000001)), (12, .int (nI (1 + ((z6 / 256) % (fulN (acT t ((z6 / 32) % (ccT t)))))))), (11, .int (nI (fulN (acT t ((z6 / 32) % (ccT t)))))), (10, .int (nI ((z6 / 32) % (ccT t)))), (9, .int (oI none)), (7, .int (nI (rcT t))), (6, .int (nI z6)), (4, .int (nI k)), (3, .int (nI (ccT t))), (2, .int (nI 1)), (1, .ref mq), (0, .ref b)]) hx hb dL_law_439 hl (by decide) rfl (fun ls hl => ?_)
    refine lv_aload_n hx hb dL_law_441 rfl (lv_at hl 10 rfl) ?_
    refine lv_iload hx hb dL_law_442 (lv_at hl 4 rfl) ?_
    refine lv_iload hx hb dL_law_444 (lv_at hl 3 rfl) ?_
    refine lv_iload hx hb dL_law_446 (lv_at hl 1 rfl) ?_
    refine n_wSiX (As := [.ref mq, .int (oI none), .int (nI ((z6 / 32) % (ccT t))), .int (nI (1 + ((z6 / 256) % (fulN (acT t ((z6 / 32) % (ccT t)))))))]) (rest := []) (wr := []) (ws' := fun u => (wA kA mq q qc qp hq qs t cnt sv u x)) hS0 (w_sa1 lQ D kA adK adV mq q qc qp hq qs t cnt sv z1_400 x (oI none) (nI ((z6 / 32) % (ccT t))) (nI (1 + ((z6 / 256) % (fulN (acT t ((z6 / 32) % (ccT t))))))) H.size hnt (by first | assumption | omega) (by first | assumption | omega) (by first | assumption | omega) hr0) (vx_cwSW 4 hts gL_law_L_sets rfl rfl rfl (by decide +kernel) ⟨Nat.le_of_ble_eq_true rfl, Nat.le_of_ble_eq_true rfl⟩) hP hD hS hE hXW hA hK hK (by simpa only [List.append_assoc, List.append_nil] using (List.Perm.of_eq (List.append_nil _).symm)) (fun u => List.Perm.symm (by simpa only [List.append_assoc, List.append_nil] using (List.Perm.of_eq (List.append_nil _).symm))) rfl rfl hl.1 (Nat.le_of_ble_eq_true rfl) dL_law_448 (rm1 (by omega) (by omega)) (fun r448 u448 H locs h448 hP hD hS => ?_)
    obtain ⟨z1_448, rfl⟩ : ∃ z, z = u448 := ⟨_, rfl⟩
    obtain ⟨rfl, h448_1⟩ := h448
    have hP : va_P D vwCl (wA kA mq q qc qp hq qs t cnt sv z1_448 x) H := hP
    have hD : va_D A (wA kA mq q qc qp hq qs t cnt sv z1_448 x) := hD
    refine lv_iload hx hb dL_law_451 (lv_at hl 0 rfl) ?_
    refine lv_icmp_ne (tgt := 478) hx hb dL_law_453 (by decide) (fun c453 => ?_) (fun c453 => ?_)
    · exact absurd rfl c453
    · refine lv_iload hx hb dL_law_456 (lv_at hl 5 rfl) ?_
      refine n_if_eq (a := rcT t) (tgt := 474) hx hb (by omega) dL_law_458 (by decide) (fun c458 => ?_) (fun c458 => ?_)
      · refine lv_iconst (v := (nI 1)) hx hb dL_law_474 (by decide) ?_
        refine lv_goto (tgt := 479) hx hb dL_law_475 (by decide) ?_
        refine lv_istore_n (lv' := [(2, .int (nI 1)), (13, .int (-2000001)), (12, .int (nI (1 + ((z6 / 256) % (fulN (acT t ((z6 / 32) % (ccT t)))))))), (11, .int (nI (fulN (acT t ((z6 / 32) % (ccT t)))))), (10, .int (nI ((z6 / 32) % (ccT t)))), (9, .int (oI none)), (7, .int (nI (rcT t))), (6, .int (nI z6)), (4, .int (nI k)), (3, .int (nI (ccT t))), (1, .ref mq), (0, .ref b)]) hx hb dL_law_479 rfl hl (by decide) rfl (fun ls hl => ?_)
        refine lv_goto (tgt := 680) hx hb dL_law_480 (by decide) ?_
        have hP : va_P D vwCl (wA kA mq q qc qp hq qs t cnt sv z1_448 x) H := hP
        have hD : va_D A (wA kA mq q qc qp hq qs t cnt sv z1_448 x) := hD
        refine W.widen (k := (52 + 2 * k + 2)) (n := (13027 + 12 * k + 12)) (by omega) (by omega) ?_
        exact kk t cnt sv z1_448 hok (by assumption) hcn hcc0 (Nat.le_succ_of_le had) _ _ hP hD hS _ (lv_sub hl [0, 8, 7, 10, 11] rfl)
      · exact absurd c458 (by omega)
set_option maxHeartbeats 4000000 in
set_option maxRecDepth 100000 in
theorem law_sets_r1 {pQ : Program} {lQ : Launch} {eQ : Env} {s : State} {mQ : MethodId} {below : List Frame} {meth : Method} {cQ : Code} {D : va_G} {kA : Nat → ClassId} {A : Nat → Prop} {b : Nat} {mq : Nat} {q : Nat → Nat} {qc : Nat → Nat} {qp : Nat → Nat} {hq : Nat → Nat} {qs : Nat → Nat} {x : SC9} {adK adV : Nat → Nat} {L : Nat} {zs : Nat → Int32} (hnt : lQ.stackTraces = false) (hx : pQ.tables.exec = Jvm.exec) (hb : cQ.code = cL_law) (hown : s.vm.findClass RL = some mQ.cls) (hts : ∀ w ∈ wsL_law, w.before #[Value.ref b] s = true) (hS0 : CallFix pQ mQ cQ cL_law 17 s #[Value.ref b] wsL_law RL) (hX : va_X b L zs s s.heap) (hbl : b < s.heap.size) (hbA : ¬ A b) (hA : ∀ q : Nat, s.heap.size ≤ q → A q) (hK : va_K D vwCl (tyK kA) s) (hE : evS adK adV A s s.heap) (hXW : xwS s) (hL : L ≤ 260) {k z6 : Nat} (hk9 : k < 22) (hz6 : z6 < 2147483648) (kk : lawJ pQ lQ eQ s mQ below meth cQ D kA A b mq q qc qp hq qs x k z6) {t : TCt} {cnt : Nat} {sv : Nat → TSt} {z : ZC} (hok : okT t) (hz : zOK t z) (hcn : cnt ≤ 4) (hcc0 : 0 < ccT t) (had : adT t ≤ k) (hr1 : 0 < rcT t) {H : Heap} {locs : List Loc} (hP : va_P D vwCl (wA kA mq q qc qp hq qs t cnt sv z x) H) (hD : va_D A (wA kA mq q qc qp hq qs t cnt sv z x)) (hS : va_S A s.heap H locs) {ls : Array Slot} (hl : lv_has ls 17 [(9, .int (nI (nmT t (z6 % (rcT t))))), (7, .int (nI (rcT t))), (6, .int (nI z6)), (4, .int (nI k)), (3, .int (nI (ccT t))), (2, .int (nI 1)), (1, .ref mq), (0, .ref b)]) : W pQ lQ eQ room_1 s mQ #[Value.ref b] below meth cQ H locs (52 + 2 * k) (13027 + 12 * k) (lw_Z below #[Value.ref b] s) (F0 mQ 386 ls []) := by
  have hcc := okT_cc hok
  have hrc := okT_rc hok
  have hnc := okT_nC hok
  have had9 := hok.2.2.2.1
  have hnp : 0 < nCs t := prodF_pos (okT_ac hok)
  have hmod : z6 % (rcT t) < rcT t := Nat.mod_lt _ hr1
  have hm2 : (z6 / 32) % (ccT t) < ccT t := Nat.mod_lt _ hcc0
  have hac9 := okT_ac hok _ hm2
  have hful := ful_3 (acT t ((z6 / 32) % (ccT t))) (by omega) hac9.1
  have hset := sb_set (l := z6 / 256) hac9 (Or.inr rfl)
  refine lv_iload hx hb dL_law_386 (lv_at hl 2 rfl) ?_
  refine lv_bipush (v := (nI 32)) hx hb dL_law_388 (by decide) ?_
  refine n_idiv (v := (nI (z6 / 32))) hx hb (nI_ne0 (by omega) (by omega)) (pk_div (by omega) (by omega) (by omega)) dL_law_390 ?_
  refine lv_iload_n hx hb dL_law_391 rfl (lv_at hl 4 rfl) ?_
  refine n_irem (v := (nI ((z6 / 32) % (ccT t)))) hx hb (nI_ne0 (by omega) (by omega)) (pk_rem (by omega) (by omega) (by omega)) dL_law_392 ?_
  refine lv_istore (lv' := [(10, .int (nI ((z6 / 32) % (ccT t)))), (9, .int (nI (nmT t (z6 % (rcT t))))), (7, .int (nI (rcT t))), (6, .int (nI z6)), (4, .int (nI k)), (3, .int (nI (ccT t))), (2, .int (nI 1)), (1, .ref mq), (0, .ref b)]) hx hb dL_law_393 hl (by decide) rfl (fun ls hl => ?_)
  refine lv_iconst (v := (nI 1)) hx hb dL_law_395 (by decide) ?_
  refine lv_aload_n hx hb dL_law_396 rfl (lv_at hl 7 rfl) ?_
  refine lv_iload hx hb dL_law_397 (lv_at hl 0 rfl) ?_
  refine lv_iconst (v := (nI 0)) hx hb dL_law_399 (by decide) ?_
  refine n_wViE (b := mq) (As := [.int (nI ((z6 / 32) % (ccT t))), .int (nI 0)]) (rest := [.int (nI 1)]) (wr := []) (ws' := fun u => (wA kA mq q qc qp hq qs t cnt sv u x)) hS0 (q_co0 lQ D kA adK adV mq q qc qp hq qs t cnt sv z x ((z6 / 32) % (ccT t)) H.size (by first | assumption | omega) (by first | assumption | omega) hm2) (cwV 2 hts gL_law_X5_condition rfl rfl rfl (by decide +kernel) ⟨Nat.le_of_ble_eq_true rfl, Nat.le_of_ble_eq_true rfl⟩) hP hD hS hE hA hK hK (by simpa only [List.append_assoc, List.append_nil] using (List.Perm.of_eq (List.append_nil _).symm)) (fun u => List.Perm.symm (by simpa only [List.append_assoc, List.append_nil] using (List.Perm.of_eq (List.append_nil _).symm))) (q0 := 0) rfl rfl rfl rfl rfl hl.1 (Nat.le_of_ble_eq_true rfl) dL_law_400 (rm1 (by omega) (by omega)) (fun r400 u400 H locs h400 hP hD hS => ?_)
  obtain ⟨z1_400, rfl⟩ : ∃ z, z = u400 := ⟨_, rfl⟩
  obtain ⟨rfl, h400_1⟩ := h400
  have hP : va_P D vwCl (wA kA mq q qc qp hq qs t cnt sv z1_400 x) H := hP
  have hD : va_D A (wA kA mq q qc qp hq qs t cnt sv z1_400 x) := hD
  refine n_ishl (v := (nI (1 <<< (acT t ((z6 / 32) % (ccT t)))))) hx hb (nN_shl _ (by omega)) dL_law_403 ?_
  refine lv_iconst (v := (nI 1)) hx hb dL_law_404 (by decide) ?_
  refine n_isub (v := (nI (fulN (acT t ((z6 / 32) % (ccT t)))))) hx hb (pk_sub (one_shl _)) dL_law_405 ?_
  refine lv_istore (lv' := [(11, .int (nI (fulN (acT t ((z6 / 32) % (ccT t)))))), (10, .int (nI ((z6 / 32) % (ccT t)))), (9, .int (nI (nmT t (z6 % (rcT t))))), (7, .int (nI (rcT t))), (6, .int (nI z6)), (4, .int (nI k)), (3, .int (nI (ccT t))), (2, .int (nI 1)), (1, .ref mq), (0, .ref b)]) hx hb dL_law_406 hl (by decide) rfl (fun ls hl => ?_)
  refine lv_iconst (v := (nI 1)) hx hb dL_law_408 (by decide) ?_
  refine lv_iload hx hb dL_law_409 (lv_at hl 4 rfl) ?_
  refine lv_sipush (v := (nI 256)) hx hb dL_law_411 (by decide) ?_
  refine n_idiv (v := (nI (z6 / 256))) hx hb (nI_ne0 (by omega) (by omega)) (pk_div (by omega) (by omega) (by omega)) dL_law_414 ?_
  refine lv_iload hx hb dL_law_415 (lv_at hl 0 rfl) ?_
  refine n_irem (v := (nI ((z6 / 256) % (fulN (acT t ((z6 / 32) % (ccT t))))))) hx hb (nI_ne0 (by omega) (by omega)) (pk_rem (by omega) (by omega) (by omega)) dL_law_417 ?_
  refine n_iadd (v := (nI (1 + ((z6 / 256) % (fulN (acT t ((z6 / 32) % (ccT t)))))))) hx hb (nI_add _ _) dL_law_418 ?_
  refine lv_istore (lv' := [(12, .int (nI (1 + ((z6 / 256) % (fulN (acT t ((z6 / 32) % (ccT t)))))))), (11, .int (nI (fulN (acT t ((z6 / 32) % (ccT t)))))), (10, .int (nI ((z6 / 32) % (ccT t)))), (9, .int (nI (nmT t (z6 % (rcT t))))), (7, .int (nI (rcT t))), (6, .int (nI z6)), (4, .int (nI k)), (3, .int (nI (ccT t))), (2, .int (nI 1)), (1, .ref mq), (0, .ref b)]) hx hb dL_law_419 hl (by decide) rfl (fun ls hl => ?_)
  refine lv_iload hx hb dL_law_421 (lv_at hl 4 rfl) ?_
  refine n_if_ne (a := rcT t) (tgt := 431) hx hb (by omega) dL_law_423 (by decide) (fun c423 => ?_) (fun c423 => ?_)
  · refine lv_aload_n hx hb dL_law_431 rfl (lv_at hl 9 rfl) ?_
    refine lv_iload hx hb dL_law_432 (lv_at hl 3 rfl) ?_
    refine lv_iload hx hb dL_law_434 (lv_at hl 2 rfl) ?_
    refine n_wViE (b := mq) (As := [.int (nI (nmT t (z6 % (rcT t)))), .int (nI ((z6 / 32) % (ccT t)))]) (rest := []) (wr := []) (ws' := fun u => (wA kA mq q qc qp hq qs t cnt sv u x)) hS0 (q_ans lQ D kA adK adV mq q qc qp hq qs t cnt sv z1_400 x (nmT t (z6 % (rcT t))) ((z6 / 32) % (ccT t)) (z6 % (rcT t)) H.size (by first | assumption | omega) (by first | assumption | omega) hmod rfl hm2) (cwV 2 hts gL_law_X5_answers rfl rfl rfl (by decide +kernel) ⟨Nat.le_of_ble_eq_true rfl, Nat.le_of_ble_eq_true rfl⟩) hP hD hS hE hA hK hK (by simpa only [List.append_assoc, List.append_nil] using (List.Perm.of_eq (List.append_nil _).symm)) (fun u => List.Perm.symm (by simpa only [List.append_assoc, List.append_nil] using (List.Perm.of_eq (List.append_nil _).symm))) (q0 := 0) rfl rfl rfl rfl rfl hl.1 (Nat.le_of_ble_eq_true rfl) dL_law_436 (rm1 (by omega) (by omega)) (fun r436 u436 H locs h436 hP hD hS => ?_)
    obtain ⟨z1_436, rfl⟩ : ∃ z, z = u436 := ⟨_, rfl⟩
    obtain ⟨rfl, h436_1⟩ := h436
    have hP : va_P D vwCl (wA kA mq q qc qp hq qs t cnt sv z1_436 x) H := hP
    have hD : va_D A (wA kA mq q qc qp hq qs t cnt sv z1_436 x) := hD
    refine lv_istore (lv' := [(13, .int (nI (nibN (stT t (z6 % (rcT t))) ((z6 / 32) % (ccT t))))), (12, .int (nI (1 + ((z6 / 256) % (fulN (acT t ((z6 / 32) % (ccT t)))))))), (11, .int (nI (fulN (acT t ((z6 / 32) % (ccT t)))))), (10, .int (nI ((z6 / 32) % (ccT t)))), (9, .int (nI (nmT t (z6 % (rcT t))))), (7, .int (nI (rcT t))), (6, .int (nI z6)), (4, .int (nI k)), (3, .int (nI (ccT t))), (2, .int (nI 1)), (1, .ref mq), (0, .ref b)]) hx hb dL_law_439 hl (by decide) rfl (fun ls hl => ?_)
    refine lv_aload_n hx hb dL_law_441 rfl (lv_at hl 10 rfl) ?_
    refine lv_iload hx hb dL_law_442 (lv_at hl 4 rfl) ?_
    refine lv_iload hx hb dL_law_444 (lv_at hl 3 rfl) ?_
    refine lv_iload hx hb dL_law_446 (lv_at hl 1 rfl) ?_
    refine n_wSiX (As := [.ref mq, .int (nI (nmT t (z6 % (rcT t)))), .int (nI ((z6 / 32) % (ccT t))), .int (nI (1 + ((z6 / 256) % (fulN (acT t ((z6 / 32) % (ccT t)))))))]) (rest := []) (wr := []) (ws' := fun u => (wA kA mq q qc qp hq qs (saO t (z6 % (rcT t)) ((z6 / 32) % (ccT t)) (1 + ((z6 / 256) % (fulN (acT t ((z6 / 32) % (ccT t))))))) (cntF cnt) (savF cnt sv t) u x)) hS0 (w_sa0 lQ D kA adK adV mq q qc qp hq qs t cnt sv z1_436 x (nmT t (z6 % (rcT t))) ((z6 / 32) % (ccT t)) (1 + ((z6 / 256) % (fulN (acT t ((z6 / 32) % (ccT t)))))) (z6 % (rcT t)) H.size hnt (by first | assumption | omega) (by first | assumption | omega) (by first | assumption | omega) hmod rfl hm2 hset) (vx_cwSW 4 hts gL_law_L_sets rfl rfl rfl (by decide +kernel) ⟨Nat.le_of_ble_eq_true rfl, Nat.le_of_ble_eq_true rfl⟩) hP hD hS hE hXW hA hK hK (by simpa only [List.append_assoc, List.append_nil] using (List.Perm.of_eq (List.append_nil _).symm)) (fun u => List.Perm.symm (by simpa only [List.append_assoc, List.append_nil] using (List.Perm.of_eq (List.append_nil _).symm))) rfl rfl hl.1 (Nat.le_of_ble_eq_true rfl) dL_law_448 (rm1 (by omega) (by omega)) (fun r448 u448 H locs h448 hP hD hS => ?_)
    obtain ⟨z1_448, rfl⟩ : ∃ z, z = u448 := ⟨_, rfl⟩
    obtain ⟨rfl, h448_1⟩ := h448
    have hP : va_P D vwCl (wA kA mq q qc qp hq qs (saO t (z6 % (rcT t)) ((z6 / 32) % (ccT t)) (1 + ((z6 / 256) % (fulN (acT t ((z6 / 32) % (ccT t))))))) (cntF cnt) (savF cnt sv t) z1_448 x) H := hP
    have hD : va_D A (wA kA mq q qc qp hq qs (saO t (z6 % (rcT t)) ((z6 / 32) % (ccT t)) (1 + ((z6 / 256) % (fulN (acT t ((z6 / 32) % (ccT t))))))) (cntF cnt) (savF cnt sv t) z1_448 x) := hD
    refine lv_iload hx hb dL_law_451 (lv_at hl 0 rfl) ?_
    refine n_icmp_ne (a := nibN (stT t (z6 % (rcT t))) ((z6 / 32) % (ccT t))) (b := nibN (stT t (z6 % (rcT t))) ((z6 / 32) % (ccT t))) (tgt := 478) hx hb (Nat.lt_trans (nibN_lt _ _) (by decide)) (Nat.lt_trans (nibN_lt _ _) (by decide)) dL_law_453 (by decide) (fun c453 => ?_) (fun c453 => ?_)
    · exact absurd rfl c453
    · refine lv_iload hx hb dL_law_456 (lv_at hl 5 rfl) ?_
      refine n_if_eq (a := rcT t) (tgt := 474) hx hb (by omega) dL_law_458 (by decide) (fun c458 => ?_) (fun c458 => ?_)
      · exact absurd hr1 (by omega)
      · refine lv_aload_n hx hb dL_law_461 rfl (lv_at hl 10 rfl) ?_
        refine lv_iload hx hb dL_law_462 (lv_at hl 4 rfl) ?_
        refine lv_iload hx hb dL_law_464 (lv_at hl 3 rfl) ?_
        refine n_wViE (b := mq) (As := [.int (nI (nmT t (z6 % (rcT t)))), .int (nI ((z6 / 32) % (ccT t)))]) (rest := []) (wr := []) (ws' := fun u => (wA kA mq q qc qp hq qs (saO t (z6 % (rcT t)) ((z6 / 32) % (ccT t)) (1 + ((z6 / 256) % (fulN (acT t ((z6 / 32) % (ccT t))))))) (cntF cnt) (savF cnt sv t) u x)) hS0 (q_ans lQ D kA adK adV mq q qc qp hq qs (saO t (z6 % (rcT t)) ((z6 / 32) % (ccT t)) (1 + ((z6 / 256) % (fulN (acT t ((z6 / 32) % (ccT t))))))) (cntF cnt) (savF cnt sv t) z1_448 x (nmT t (z6 % (rcT t))) ((z6 / 32) % (ccT t)) (z6 % (rcT t)) H.size (okT_sa hok hmod hm2 hset) (by first | assumption | omega) hmod rfl hm2) (cwV 2 hts gL_law_X5_answers rfl rfl rfl (by decide +kernel) ⟨Nat.le_of_ble_eq_true rfl, Nat.le_of_ble_eq_true rfl⟩) hP hD hS hE hA hK hK (by simpa only [List.append_assoc, List.append_nil] using (List.Perm.of_eq (List.append_nil _).symm)) (fun u => List.Perm.symm (by simpa only [List.append_assoc, List.append_nil] using (List.Perm.of_eq (List.append_nil _).symm))) (q0 := 0) rfl rfl rfl rfl rfl hl.1 (Nat.le_of_ble_eq_true rfl) dL_law_466 (rm1 (by omega) (by omega)) (fun r466 u466 H locs h466 hP hD hS => ?_)
        obtain ⟨z1_466, rfl⟩ : ∃ z, z = u466 := ⟨_, rfl⟩
        obtain ⟨rfl, h466_1⟩ := h466
        have hP : va_P D vwCl (wA kA mq q qc qp hq qs (saO t (z6 % (rcT t)) ((z6 / 32) % (ccT t)) (1 + ((z6 / 256) % (fulN (acT t ((z6 / 32) % (ccT t))))))) (cntF cnt) (savF cnt sv t) z1_466 x) H := hP
        have hD : va_D A (wA kA mq q qc qp hq qs (saO t (z6 % (rcT t)) ((z6 / 32) % (ccT t)) (1 + ((z6 / 256) % (fulN (acT t ((z6 / 32) % (ccT t))))))) (cntF cnt) (savF cnt sv t) z1_466 x) := hD
        refine lv_iload hx hb dL_law_469 (lv_at hl 1 rfl) ?_
        refine n_icmp_ne (a := nibN (stT (saO t (z6 % (rcT t)) ((z6 / 32) % (ccT t)) (1 + ((z6 / 256) % (fulN (acT t ((z6 / 32) % (ccT t))))))) (z6 % (rcT t))) ((z6 / 32) % (ccT t))) (b := 1 + ((z6 / 256) % (fulN (acT t ((z6 / 32) % (ccT t)))))) (tgt := 478) hx hb (Nat.lt_trans (nibN_lt _ _) (by decide)) (by omega) dL_law_471 (by decide) (fun c471 => ?_) (fun c471 => ?_)
        · exact absurd (sa_nib (by omega)) c471
        · refine lv_iconst (v := (nI 1)) hx hb dL_law_474 (by decide) ?_
          refine lv_goto (tgt := 479) hx hb dL_law_475 (by decide) ?_
          refine lv_istore_n (lv' := [(2, .int (nI 1)), (13, .int (nI (nibN (stT t (z6 % (rcT t))) ((z6 / 32) % (ccT t))))), (12, .int (nI (1 + ((z6 / 256) % (fulN (acT t ((z6 / 32) % (ccT t)))))))), (11, .int (nI (fulN (acT t ((z6 / 32) % (ccT t)))))), (10, .int (nI ((z6 / 32) % (ccT t)))), (9, .int (nI (nmT t (z6 % (rcT t))))), (7, .int (nI (rcT t))), (6, .int (nI z6)), (4, .int (nI k)), (3, .int (nI (ccT t))), (1, .ref mq), (0, .ref b)]) hx hb dL_law_479 rfl hl (by decide) rfl (fun ls hl => ?_)
          refine lv_goto (tgt := 680) hx hb dL_law_480 (by decide) ?_
          have hP : va_P D vwCl (wA kA mq q qc qp hq qs (saO t (z6 % (rcT t)) ((z6 / 32) % (ccT t)) (1 + ((z6 / 256) % (fulN (acT t ((z6 / 32) % (ccT t))))))) (cntF cnt) (savF cnt sv t) z1_466 x) H := hP
          have hD : va_D A (wA kA mq q qc qp hq qs (saO t (z6 % (rcT t)) ((z6 / 32) % (ccT t)) (1 + ((z6 / 256) % (fulN (acT t ((z6 / 32) % (ccT t))))))) (cntF cnt) (savF cnt sv t) z1_466 x) := hD
          refine W.widen (k := (52 + 2 * k + 2)) (n := (13027 + 12 * k + 12)) (by omega) (by omega) ?_
          exact kk (saO t (z6 % (rcT t)) ((z6 / 32) % (ccT t)) (1 + ((z6 / 256) % (fulN (acT t ((z6 / 32) % (ccT t))))))) (cntF cnt) (savF cnt sv t) z1_466 (okT_sa hok hmod hm2 hset) (by assumption) (cntF_le hcn) hcc0 (Nat.le_succ_of_le had) _ _ hP hD hS _ (lv_sub hl [0, 8, 7, 10, 11] rfl)
  · exact absurd hr1 (by omega)
set_option maxHeartbeats 4000000 in
set_option maxRecDepth 100000 in
theorem law_costs {pQ : Program} {lQ : Launch} {eQ : Env} {s : State} {mQ : MethodId} {below : List Frame} {meth : Method} {cQ : Code} {D : va_G} {kA : Nat → ClassId} {A : Nat → Prop} {b : Nat} {mq : Nat} {q : Nat → Nat} {qc : Nat → Nat} {qp : Nat → Nat} {hq : Nat → Nat} {qs : Nat → Nat} {x : SC9} {adK adV : Nat → Nat} {L : Nat} {zs : Nat → Int32} (hnt : lQ.stackTraces = false) (hx : pQ.tables.exec = Jvm.exec) (hb : cQ.code = cL_law) (hown : s.vm.findClass RL = some mQ.cls) (hts : ∀ w ∈ wsL_law, w.before #[Value.ref b] s = true) (hS0 : CallFix pQ mQ cQ cL_law 17 s #[Value.ref b] wsL_law RL) (hX : va_X b L zs s s.heap) (hbl : b < s.heap.size) (hbA : ¬ A b) (hA : ∀ q : Nat, s.heap.size ≤ q → A q) (hK : va_K D vwCl (tyK kA) s) (hE : evS adK adV A s s.heap) (hXW : xwS s) (hL : L ≤ 260) {k z6 : Nat} (hk9 : k < 22) (hz6 : z6 < 2147483648) (kk : lawJ pQ lQ eQ s mQ below meth cQ D kA A b mq q qc qp hq qs x k z6) {t : TCt} {cnt : Nat} {sv : Nat → TSt} {z : ZC} (hok : okT t) (hz : zOK t z) (hcn : cnt ≤ 4) (hcc0 : 0 < ccT t) (had : adT t ≤ k)  {H : Heap} {locs : List Loc} (hP : va_P D vwCl (wA kA mq q qc qp hq qs t cnt sv z x) H) (hD : va_D A (wA kA mq q qc qp hq qs t cnt sv z x)) (hS : va_S A s.heap H locs) {ls : Array Slot} (hl : lv_has ls 17 [(7, .int (nI (rcT t))), (6, .int (nI z6)), (4, .int (nI k)), (3, .int (nI (ccT t))), (2, .int (nI 1)), (1, .ref mq), (0, .ref b)]) : W pQ lQ eQ room_1 s mQ #[Value.ref b] below meth cQ H locs (52 + 2 * k) (13027 + 12 * k) (lw_Z below #[Value.ref b] s) (F0 mQ 483 ls []) := by
  have hcc := okT_cc hok
  have hrc := okT_rc hok
  have hnc := okT_nC hok
  have had9 := hok.2.2.2.1
  have hnp : 0 < nCs t := prodF_pos (okT_ac hok)
  have hm3 : z6 % (ccT t) < ccT t := Nat.mod_lt _ hcc0
  have hco9 := okT_co hok _ hm3
  refine lv_aload_n hx hb dL_law_483 rfl (lv_at hl 5 rfl) ?_
  refine lv_iload hx hb dL_law_484 (lv_at hl 1 rfl) ?_
  refine lv_iload_n hx hb dL_law_486 rfl (lv_at hl 3 rfl) ?_
  refine n_irem (v := (nI (z6 % (ccT t)))) hx hb (nI_ne0 (by omega) (by omega)) (pk_rem (by omega) (by omega) (by omega)) dL_law_487 ?_
  refine lv_iconst (v := (nI 1)) hx hb dL_law_488 (by decide) ?_
  refine n_wViE (b := mq) (As := [.int (nI (z6 % (ccT t))), .int (nI 1)]) (rest := []) (wr := []) (ws' := fun u => (wA kA mq q qc qp hq qs t cnt sv u x)) hS0 (q_co1 lQ D kA adK adV mq q qc qp hq qs t cnt sv z x (z6 % (ccT t)) H.size (by first | assumption | omega) (by first | assumption | omega) hm3) (cwV 2 hts gL_law_X5_condition rfl rfl rfl (by decide +kernel) ⟨Nat.le_of_ble_eq_true rfl, Nat.le_of_ble_eq_true rfl⟩) hP hD hS hE hA hK hK (by simpa only [List.append_assoc, List.append_nil] using (List.Perm.of_eq (List.append_nil _).symm)) (fun u => List.Perm.symm (by simpa only [List.append_assoc, List.append_nil] using (List.Perm.of_eq (List.append_nil _).symm))) (q0 := 0) rfl rfl rfl rfl rfl hl.1 (Nat.le_of_ble_eq_true rfl) dL_law_489 (rm1 (by omega) (by omega)) (fun r489 u489 H locs h489 hP hD hS => ?_)
  obtain ⟨z1_489, rfl⟩ : ∃ z, z = u489 := ⟨_, rfl⟩
  obtain ⟨rfl, h489_1⟩ := h489
  have hP : va_P D vwCl (wA kA mq q qc qp hq qs t cnt sv z1_489 x) H := hP
  have hD : va_D A (wA kA mq q qc qp hq qs t cnt sv z1_489 x) := hD
  refine lv_istore (lv' := [(14, .int (nI (coT t (z6 % (ccT t))))), (7, .int (nI (rcT t))), (6, .int (nI z6)), (4, .int (nI k)), (3, .int (nI (ccT t))), (2, .int (nI 1)), (1, .ref mq), (0, .ref b)]) hx hb dL_law_492 hl (by decide) rfl (fun ls hl => ?_)
  refine lv_aload_n hx hb dL_law_494 rfl (lv_at hl 6 rfl) ?_
  refine lv_iload hx hb dL_law_495 (lv_at hl 2 rfl) ?_
  refine lv_iload_n hx hb dL_law_497 rfl (lv_at hl 4 rfl) ?_
  refine n_irem (v := (nI (z6 % (ccT t)))) hx hb (nI_ne0 (by omega) (by omega)) (pk_rem (by omega) (by omega) (by omega)) dL_law_498 ?_
  refine lv_iconst (v := (nI 1)) hx hb dL_law_499 (by decide) ?_
  refine lv_iload hx hb dL_law_500 (lv_at hl 2 rfl) ?_
  refine lv_bipush (v := (nI 8)) hx hb dL_law_502 (by decide) ?_
  refine n_idiv (v := (nI (z6 / 8))) hx hb (nI_ne0 (by omega) (by omega)) (pk_div (by omega) (by omega) (by omega)) dL_law_504 ?_
  refine lv_bipush (v := (nI 9)) hx hb dL_law_505 (by decide) ?_
  refine n_irem (v := (nI ((z6 / 8) % 9))) hx hb (nI_ne0 (by omega) (by omega)) (pk_rem (by omega) (by omega) (by omega)) dL_law_507 ?_
  refine n_iadd (v := (nI (1 + ((z6 / 8) % 9)))) hx hb (nI_add _ _) dL_law_508 ?_
  refine n_wSiX (As := [.ref mq, .int (nI (z6 % (ccT t))), .int (nI (1 + ((z6 / 8) % 9)))]) (rest := []) (wr := []) (ws' := fun u => (wA kA mq q qc qp hq qs (scO t (z6 % (ccT t)) (1 + ((z6 / 8) % 9))) (cntF cnt) (savF cnt sv t) u x)) hS0 (w_sc0 lQ D kA adK adV mq q qc qp hq qs t cnt sv z1_489 x (z6 % (ccT t)) (1 + ((z6 / 8) % 9)) H.size hnt (by first | assumption | omega) (by first | assumption | omega) (by first | assumption | omega) hm3 ⟨by omega, by omega⟩) (vx_cwSW 3 hts gL_law_L_costs rfl rfl rfl (by decide +kernel) ⟨Nat.le_of_ble_eq_true rfl, Nat.le_of_ble_eq_true rfl⟩) hP hD hS hE hXW hA hK hK (by simpa only [List.append_assoc, List.append_nil] using (List.Perm.of_eq (List.append_nil _).symm)) (fun u => List.Perm.symm (by simpa only [List.append_assoc, List.append_nil] using (List.Perm.of_eq (List.append_nil _).symm))) rfl rfl hl.1 (Nat.le_of_ble_eq_true rfl) dL_law_509 (rm1 (by omega) (by omega)) (fun r509 u509 H locs h509 hP hD hS => ?_)
  obtain ⟨z1_509, rfl⟩ : ∃ z, z = u509 := ⟨_, rfl⟩
  obtain ⟨rfl, h509_1⟩ := h509
  have hP : va_P D vwCl (wA kA mq q qc qp hq qs (scO t (z6 % (ccT t)) (1 + ((z6 / 8) % 9))) (cntF cnt) (savF cnt sv t) z1_509 x) H := hP
  have hD : va_D A (wA kA mq q qc qp hq qs (scO t (z6 % (ccT t)) (1 + ((z6 / 8) % 9))) (cntF cnt) (savF cnt sv t) z1_509 x) := hD
  refine lv_iload hx hb dL_law_512 (lv_at hl 0 rfl) ?_
  refine n_icmp_ne (a := coT t (z6 % (ccT t))) (b := coT t (z6 % (ccT t))) (tgt := 521) hx hb (by omega) (by omega) dL_law_514 (by decide) (fun c514 => ?_) (fun c514 => ?_)
  · exact absurd rfl c514
  · refine lv_iconst (v := (nI 1)) hx hb dL_law_517 (by decide) ?_
    refine lv_goto (tgt := 522) hx hb dL_law_518 (by decide) ?_
    refine lv_istore_n (lv' := [(2, .int (nI 1)), (14, .int (nI (coT t (z6 % (ccT t))))), (7, .int (nI (rcT t))), (6, .int (nI z6)), (4, .int (nI k)), (3, .int (nI (ccT t))), (1, .ref mq), (0, .ref b)]) hx hb dL_law_522 rfl hl (by decide) rfl (fun ls hl => ?_)
    refine lv_goto (tgt := 680) hx hb dL_law_523 (by decide) ?_
    have hP : va_P D vwCl (wA kA mq q qc qp hq qs (scO t (z6 % (ccT t)) (1 + ((z6 / 8) % 9))) (cntF cnt) (savF cnt sv t) z1_509 x) H := hP
    have hD : va_D A (wA kA mq q qc qp hq qs (scO t (z6 % (ccT t)) (1 + ((z6 / 8) % 9))) (cntF cnt) (savF cnt sv t) z1_509 x) := hD
    refine W.widen (k := (52 + 2 * k + 2)) (n := (13027 + 12 * k + 12)) (by omega) (by omega) ?_
    exact kk (scO t (z6 % (ccT t)) (1 + ((z6 / 8) % 9))) (cntF cnt) (savF cnt sv t) z1_509 (okT_sc hok ⟨by omega, by omega⟩) (by assumption) (cntF_le hcn) hcc0 (Nat.le_succ_of_le had) _ _ hP hD hS _ (lv_sub hl [0, 4, 3, 6, 7] rfl)
set_option maxHeartbeats 4000000 in
set_option maxRecDepth 100000 in
theorem law_case {pQ : Program} {lQ : Launch} {eQ : Env} {s : State} {mQ : MethodId} {below : List Frame} {meth : Method} {cQ : Code} {D : va_G} {kA : Nat → ClassId} {A : Nat → Prop} {b : Nat} {mq : Nat} {q : Nat → Nat} {qc : Nat → Nat} {qp : Nat → Nat} {hq : Nat → Nat} {qs : Nat → Nat} {x : SC9} {adK adV : Nat → Nat} {L : Nat} {zs : Nat → Int32} (hnt : lQ.stackTraces = false) (hx : pQ.tables.exec = Jvm.exec) (hb : cQ.code = cL_law) (hown : s.vm.findClass RL = some mQ.cls) (hts : ∀ w ∈ wsL_law, w.before #[Value.ref b] s = true) (hS0 : CallFix pQ mQ cQ cL_law 17 s #[Value.ref b] wsL_law RL) (hX : va_X b L zs s s.heap) (hbl : b < s.heap.size) (hbA : ¬ A b) (hA : ∀ q : Nat, s.heap.size ≤ q → A q) (hK : va_K D vwCl (tyK kA) s) (hE : evS adK adV A s s.heap) (hXW : xwS s) (hL : L ≤ 260) {k z6 : Nat} (hk9 : k < 22) (hz6 : z6 < 2147483648) (kk : lawJ pQ lQ eQ s mQ below meth cQ D kA A b mq q qc qp hq qs x k z6) {t : TCt} {cnt : Nat} {sv : Nat → TSt} {z : ZC} (hok : okT t) (hz : zOK t z) (hcn : cnt ≤ 4) (hcc0 : 0 < ccT t) (had : adT t ≤ k)  {H : Heap} {locs : List Loc} (hP : va_P D vwCl (wA kA mq q qc qp hq qs t cnt sv z x) H) (hD : va_D A (wA kA mq q qc qp hq qs t cnt sv z x)) (hS : va_S A s.heap H locs) {ls : Array Slot} (hl : lv_has ls 17 [(7, .int (nI (rcT t))), (6, .int (nI z6)), (4, .int (nI k)), (3, .int (nI (ccT t))), (2, .int (nI 1)), (1, .ref mq), (0, .ref b)]) : W pQ lQ eQ room_1 s mQ #[Value.ref b] below meth cQ H locs (52 + 2 * k) (13027 + 12 * k) (lw_Z below #[Value.ref b] s) (F0 mQ 526 ls []) := by
  have hcc := okT_cc hok
  have hrc := okT_rc hok
  have hnc := okT_nC hok
  have had9 := hok.2.2.2.1
  have hnp : 0 < nCs t := prodF_pos (okT_ac hok)
  refine lv_aload_n hx hb dL_law_526 rfl (lv_at hl 5 rfl) ?_
  refine lv_iload hx hb dL_law_527 (lv_at hl 1 rfl) ?_
  refine lv_aload_n hx hb dL_law_529 rfl (lv_at hl 5 rfl) ?_
  refine lv_iconst (v := (nI 1)) hx hb dL_law_530 (by decide) ?_
  refine n_wViE (b := mq) (As := [.int (nI 1)]) (rest := [.int (nI z6), .ref mq]) (wr := []) (ws' := fun u => (wA kA mq q qc qp hq qs t cnt sv u x)) hS0 (q_wh1 lQ D kA adK adV mq q qc qp hq qs t cnt sv z x H.size (by first | assumption | omega) (by first | assumption | omega)) (cwV 1 hts gL_law_X5_whole rfl rfl rfl (by decide +kernel) ⟨Nat.le_of_ble_eq_true rfl, Nat.le_of_ble_eq_true rfl⟩) hP hD hS hE hA hK hK (by simpa only [List.append_assoc, List.append_nil] using (List.Perm.of_eq (List.append_nil _).symm)) (fun u => List.Perm.symm (by simpa only [List.append_assoc, List.append_nil] using (List.Perm.of_eq (List.append_nil _).symm))) (q0 := 0) rfl rfl rfl rfl rfl hl.1 (Nat.le_of_ble_eq_true rfl) dL_law_531 (rm1 (by omega) (by omega)) (fun r531 u531 H locs h531 hP hD hS => ?_)
  obtain ⟨z1_531, rfl⟩ : ∃ z, z = u531 := ⟨_, rfl⟩
  obtain ⟨rfl, h531_1⟩ := h531
  have hP : va_P D vwCl (wA kA mq q qc qp hq qs t cnt sv z1_531 x) H := hP
  have hD : va_D A (wA kA mq q qc qp hq qs t cnt sv z1_531 x) := hD
  refine n_irem (v := (nI (z6 % (nCs t)))) hx hb (nI_ne0 (by omega) (by omega)) (pk_rem (by omega) (by omega) (by omega)) dL_law_534 ?_
  refine n_wSiE (As := [.ref mq, .int (nI (z6 % (nCs t)))]) (rest := []) (wr := []) (ws' := fun u => (wA kA mq q qc qp hq qs t cnt sv u x)) hS0 (c_L_caseHolds lQ D kA adK adV mq q qc qp hq qs t cnt sv z1_531 x (z6 % (nCs t)) H.size (by first | assumption | omega) (by first | assumption | omega) (Nat.mod_lt _ hnp)) (va_cwS 2 hts gL_law_L_caseHolds rfl rfl rfl (by decide +kernel) ⟨Nat.le_of_ble_eq_true rfl, Nat.le_of_ble_eq_true rfl⟩) hP hD hS hE hA hK hK (by simpa only [List.append_assoc, List.append_nil] using (List.Perm.of_eq (List.append_nil _).symm)) (fun u => List.Perm.symm (by simpa only [List.append_assoc, List.append_nil] using (List.Perm.of_eq (List.append_nil _).symm))) rfl rfl hl.1 (Nat.le_of_ble_eq_true rfl) dL_law_535 (rm1 (by omega) (by omega)) (fun r535 u535 H locs h535 hP hD hS => ?_)
  obtain ⟨z1_535, rfl⟩ : ∃ z, z = u535 := ⟨_, rfl⟩
  obtain ⟨rfl, h535_1⟩ := h535
  have hP : va_P D vwCl (wA kA mq q qc qp hq qs t cnt sv z1_535 x) H := hP
  have hD : va_D A (wA kA mq q qc qp hq qs t cnt sv z1_535 x) := hD
  refine lv_istore_n (lv' := [(2, .int (bI true)), (7, .int (nI (rcT t))), (6, .int (nI z6)), (4, .int (nI k)), (3, .int (nI (ccT t))), (1, .ref mq), (0, .ref b)]) hx hb dL_law_538 rfl hl (by decide) rfl (fun ls hl => ?_)
  refine lv_goto (tgt := 680) hx hb dL_law_539 (by decide) ?_
  have hP : va_P D vwCl (wA kA mq q qc qp hq qs t cnt sv z1_535 x) H := hP
  have hD : va_D A (wA kA mq q qc qp hq qs t cnt sv z1_535 x) := hD
  refine W.widen (k := (52 + 2 * k + 2)) (n := (13027 + 12 * k + 12)) (by omega) (by omega) ?_
  exact kk t cnt sv z1_535 hok (by assumption) hcn hcc0 (Nat.le_succ_of_le had) _ _ hP hD hS _ (lv_sub hl [0, 3, 2, 5, 6] rfl)
set_option maxHeartbeats 4000000 in
set_option maxRecDepth 100000 in
theorem law_undo {pQ : Program} {lQ : Launch} {eQ : Env} {s : State} {mQ : MethodId} {below : List Frame} {meth : Method} {cQ : Code} {D : va_G} {kA : Nat → ClassId} {A : Nat → Prop} {b : Nat} {mq : Nat} {q : Nat → Nat} {qc : Nat → Nat} {qp : Nat → Nat} {hq : Nat → Nat} {qs : Nat → Nat} {x : SC9} {adK adV : Nat → Nat} {L : Nat} {zs : Nat → Int32} (hnt : lQ.stackTraces = false) (hx : pQ.tables.exec = Jvm.exec) (hb : cQ.code = cL_law) (hown : s.vm.findClass RL = some mQ.cls) (hts : ∀ w ∈ wsL_law, w.before #[Value.ref b] s = true) (hS0 : CallFix pQ mQ cQ cL_law 17 s #[Value.ref b] wsL_law RL) (hX : va_X b L zs s s.heap) (hbl : b < s.heap.size) (hbA : ¬ A b) (hA : ∀ q : Nat, s.heap.size ≤ q → A q) (hK : va_K D vwCl (tyK kA) s) (hE : evS adK adV A s s.heap) (hXW : xwS s) (hL : L ≤ 260) {k z6 : Nat} (hk9 : k < 22) (hz6 : z6 < 2147483648) (kk : lawJ pQ lQ eQ s mQ below meth cQ D kA A b mq q qc qp hq qs x k z6) {t : TCt} {cnt : Nat} {sv : Nat → TSt} {z : ZC} (hok : okT t) (hz : zOK t z) (hcn : cnt ≤ 4) (hcc0 : 0 < ccT t) (had : adT t ≤ k)  {H : Heap} {locs : List Loc} (hP : va_P D vwCl (wA kA mq q qc qp hq qs t cnt sv z x) H) (hD : va_D A (wA kA mq q qc qp hq qs t cnt sv z x)) (hS : va_S A s.heap H locs) {ls : Array Slot} (hl : lv_has ls 17 [(7, .int (nI (rcT t))), (6, .int (nI z6)), (4, .int (nI k)), (3, .int (nI (ccT t))), (2, .int (nI 1)), (1, .ref mq), (0, .ref b)]) : W pQ lQ eQ room_1 s mQ #[Value.ref b] below meth cQ H locs (52 + 2 * k) (13027 + 12 * k) (lw_Z below #[Value.ref b] s) (F0 mQ 542 ls []) := by
  have hcc := okT_cc hok
  have hrc := okT_rc hok
  have hnc := okT_nC hok
  have had9 := hok.2.2.2.1
  have hnp : 0 < nCs t := prodF_pos (okT_ac hok)
  have hco9 := okT_co hok 0 hcc0
  have hcf9 := cntF_le hcn
  have hcp9 := cntF_pos (cnt := cnt)
  refine lv_aload_n hx hb dL_law_542 rfl (lv_at hl 5 rfl) ?_
  refine lv_iconst (v := (nI 0)) hx hb dL_law_543 (by decide) ?_
  refine lv_iconst (v := (nI 1)) hx hb dL_law_544 (by decide) ?_
  refine lv_iload hx hb dL_law_545 (lv_at hl 1 rfl) ?_
  refine lv_bipush (v := (nI 9)) hx hb dL_law_547 (by decide) ?_
  refine n_irem (v := (nI (z6 % 9))) hx hb (nI_ne0 (by omega) (by omega)) (pk_rem (by omega) (by omega) (by omega)) dL_law_549 ?_
  refine n_iadd (v := (nI (1 + (z6 % 9)))) hx hb (nI_add _ _) dL_law_550 ?_
  refine n_wSiX (As := [.ref mq, .int (nI 0), .int (nI (1 + (z6 % 9)))]) (rest := []) (wr := []) (ws' := fun u => (wA kA mq q qc qp hq qs (scO t 0 (1 + (z6 % 9))) (cntF cnt) (savF cnt sv t) u x)) hS0 (w_sc0 lQ D kA adK adV mq q qc qp hq qs t cnt sv z x 0 (1 + (z6 % 9)) H.size hnt (by first | assumption | omega) (by first | assumption | omega) (by first | assumption | omega) hcc0 ⟨by omega, by omega⟩) (vx_cwSW 3 hts gL_law_L_costs rfl rfl rfl (by decide +kernel) ⟨Nat.le_of_ble_eq_true rfl, Nat.le_of_ble_eq_true rfl⟩) hP hD hS hE hXW hA hK hK (by simpa only [List.append_assoc, List.append_nil] using (List.Perm.of_eq (List.append_nil _).symm)) (fun u => List.Perm.symm (by simpa only [List.append_assoc, List.append_nil] using (List.Perm.of_eq (List.append_nil _).symm))) rfl rfl hl.1 (Nat.le_of_ble_eq_true rfl) dL_law_551 (rm1 (by omega) (by omega)) (fun r551 u551 H locs h551 hP hD hS => ?_)
  obtain ⟨z1_551, rfl⟩ : ∃ z, z = u551 := ⟨_, rfl⟩
  obtain ⟨rfl, h551_1⟩ := h551
  have hP : va_P D vwCl (wA kA mq q qc qp hq qs (scO t 0 (1 + (z6 % 9))) (cntF cnt) (savF cnt sv t) z1_551 x) H := hP
  have hD : va_D A (wA kA mq q qc qp hq qs (scO t 0 (1 + (z6 % 9))) (cntF cnt) (savF cnt sv t) z1_551 x) := hD
  refine lv_iconst (v := (nI 1)) hx hb dL_law_554 (by decide) ?_
  refine n_icmp_lt (a := coT t 0) (b := 1) (tgt := 569) hx hb (by omega) (by omega) dL_law_555 (by decide) (fun c555 => ?_) (fun c555 => ?_)
  · exact absurd hco9.1 (by omega)
  · refine lv_aload_n hx hb dL_law_558 rfl (lv_at hl 5 rfl) ?_
    refine n_wSiX (As := [.ref mq]) (rest := []) (wr := []) (ws' := fun u => (wA kA mq q qc qp hq qs (((savF cnt sv t) ((cntF cnt) - 1)).2) ((cntF cnt) - 1) (savF cnt sv t) u x)) hS0 (w_un0 lQ D kA adK adV mq q qc qp hq qs (scO t 0 (1 + (z6 % 9))) (cntF cnt) (savF cnt sv t) z1_551 x H.size hnt (okT_sc hok ⟨by omega, by omega⟩) (by first | assumption | omega) hcf9 hcp9) (vx_cwSW 1 hts gL_law_L_undoes rfl rfl rfl (by decide +kernel) ⟨Nat.le_of_ble_eq_true rfl, Nat.le_of_ble_eq_true rfl⟩) hP hD hS hE hXW hA hK hK (by simpa only [List.append_assoc, List.append_nil] using (List.Perm.of_eq (List.append_nil _).symm)) (fun u => List.Perm.symm (by simpa only [List.append_assoc, List.append_nil] using (List.Perm.of_eq (List.append_nil _).symm))) rfl rfl hl.1 (Nat.le_of_ble_eq_true rfl) dL_law_559 (rm1 (by omega) (by omega)) (fun r559 u559 H locs h559 hP hD hS => ?_)
    obtain ⟨z1_559, rfl⟩ : ∃ z, z = u559 := ⟨_, rfl⟩
    obtain ⟨rfl, h559_1⟩ := h559
    have hP : va_P D vwCl (wA kA mq q qc qp hq qs (((savF cnt sv t) ((cntF cnt) - 1)).2) ((cntF cnt) - 1) (savF cnt sv t) z1_559 x) H := hP
    have hD : va_D A (wA kA mq q qc qp hq qs (((savF cnt sv t) ((cntF cnt) - 1)).2) ((cntF cnt) - 1) (savF cnt sv t) z1_559 x) := hD
    refine n_ifn_lt (a := (cntF cnt) - 1) (tgt := 569) hx hb (by omega) dL_law_562 (by decide) ?_
    refine lv_iconst (v := (nI 1)) hx hb dL_law_565 (by decide) ?_
    refine lv_goto (tgt := 570) hx hb dL_law_566 (by decide) ?_
    refine lv_istore_n (lv' := [(2, .int (nI 1)), (7, .int (nI (rcT t))), (6, .int (nI z6)), (4, .int (nI k)), (3, .int (nI (ccT t))), (1, .ref mq), (0, .ref b)]) hx hb dL_law_570 rfl hl (by decide) rfl (fun ls hl => ?_)
    refine lv_goto (tgt := 680) hx hb dL_law_571 (by decide) ?_
    rw [un_back hcn] at hP hD h559_1
    have hP : va_P D vwCl (wA kA mq q qc qp hq qs t ((cntF cnt) - 1) (savF cnt sv t) z1_559 x) H := hP
    have hD : va_D A (wA kA mq q qc qp hq qs t ((cntF cnt) - 1) (savF cnt sv t) z1_559 x) := hD
    refine W.widen (k := (52 + 2 * k + 2)) (n := (13027 + 12 * k + 12)) (by omega) (by omega) ?_
    exact kk t ((cntF cnt) - 1) (savF cnt sv t) z1_559 hok (by assumption) (show cntF cnt - 1 ≤ 4 by omega) hcc0 (Nat.le_succ_of_le had) _ _ hP hD hS _ (lv_sub hl [0, 3, 2, 5, 6] rfl)
set_option maxHeartbeats 4000000 in
set_option maxRecDepth 100000 in
theorem law_add20 {pQ : Program} {lQ : Launch} {eQ : Env} {s : State} {mQ : MethodId} {below : List Frame} {meth : Method} {cQ : Code} {D : va_G} {kA : Nat → ClassId} {A : Nat → Prop} {b : Nat} {mq : Nat} {q : Nat → Nat} {qc : Nat → Nat} {qp : Nat → Nat} {hq : Nat → Nat} {qs : Nat → Nat} {x : SC9} {adK adV : Nat → Nat} {L : Nat} {zs : Nat → Int32} (hnt : lQ.stackTraces = false) (hx : pQ.tables.exec = Jvm.exec) (hb : cQ.code = cL_law) (hown : s.vm.findClass RL = some mQ.cls) (hts : ∀ w ∈ wsL_law, w.before #[Value.ref b] s = true) (hS0 : CallFix pQ mQ cQ cL_law 17 s #[Value.ref b] wsL_law RL) (hX : va_X b L zs s s.heap) (hbl : b < s.heap.size) (hbA : ¬ A b) (hA : ∀ q : Nat, s.heap.size ≤ q → A q) (hK : va_K D vwCl (tyK kA) s) (hE : evS adK adV A s s.heap) (hXW : xwS s) (hL : L ≤ 260) {k z6 : Nat} (hk9 : k < 22) (hz6 : z6 < 2147483648) (kk : lawJ pQ lQ eQ s mQ below meth cQ D kA A b mq q qc qp hq qs x k z6) {t : TCt} {cnt : Nat} {sv : Nat → TSt} {z : ZC} (hok : okT t) (hz : zOK t z) (hcn : cnt ≤ 4) (hcc0 : 0 < ccT t) (had : adT t ≤ k) (h0 : rcT t = 20) {H : Heap} {locs : List Loc} (hP : va_P D vwCl (wA kA mq q qc qp hq qs t cnt sv z x) H) (hD : va_D A (wA kA mq q qc qp hq qs t cnt sv z x)) (hS : va_S A s.heap H locs) {ls : Array Slot} (hl : lv_has ls 17 [(7, .int (nI (rcT t))), (6, .int (nI z6)), (4, .int (nI k)), (3, .int (nI (ccT t))), (2, .int (nI 1)), (1, .ref mq), (0, .ref b), (8, .int (nI (adT t)))]) : W pQ lQ eQ room_1 s mQ #[Value.ref b] below meth cQ H locs (52 + 2 * k) (13027 + 12 * k) (lw_Z below #[Value.ref b] s) (F0 mQ 574 ls []) := by
  have hcc := okT_cc hok
  have hrc := okT_rc hok
  have hnc := okT_nC hok
  have had9 := hok.2.2.2.1
  have hnp : 0 < nCs t := prodF_pos (okT_ac hok)
  have k19 : (Cond.constant RL 19 (-2000002)).before #[Value.ref b] s = true := hts _ kL19
  refine lv_aload_n hx hb dL_law_574 rfl (lv_at hl 5 rfl) ?_
  refine lv_iload hx hb dL_law_575 (lv_at hl 1 rfl) ?_
  refine n_wSiE (As := [.ref mq, .int (nI z6)]) (rest := []) (wr := []) (ws' := fun u => (wA kA mq q qc qp hq qs t cnt sv u.1 x)) hS0 (c_L_setsBy lQ D kA adK adV mq q qc qp hq qs t cnt sv z x z6 H.size (by first | assumption | omega) (by first | assumption | omega) (by first | assumption | omega)) (va_cwS 2 hts gL_law_L_setsBy rfl rfl rfl (by decide +kernel) ⟨Nat.le_of_ble_eq_true rfl, Nat.le_of_ble_eq_true rfl⟩) hP hD hS hE hA hK hK (by simpa only [List.append_assoc, List.append_nil] using (List.Perm.of_eq (List.append_nil _).symm)) (fun u => List.Perm.symm (by simpa only [List.append_assoc, List.append_nil] using (List.Perm.of_eq (List.append_nil _).symm))) rfl rfl hl.1 (Nat.le_of_ble_eq_true rfl) dL_law_577 (rm1 (by omega) (by omega)) (fun r577 u577 H locs h577 hP hD hS => ?_)
  obtain ⟨z1_577, s1_577⟩ := u577
  obtain ⟨rfl, h577_1, h577_2⟩ := h577
  try dsimp only at h577_1 h577_2
  have hP : va_P D vwCl (wA kA mq q qc qp hq qs t cnt sv z1_577 x) H := hP
  have hD : va_D A (wA kA mq q qc qp hq qs t cnt sv z1_577 x) := hD
  refine lv_istore (lv' := [(15, .int (nI s1_577)), (7, .int (nI (rcT t))), (6, .int (nI z6)), (4, .int (nI k)), (3, .int (nI (ccT t))), (2, .int (nI 1)), (1, .ref mq), (0, .ref b), (8, .int (nI (adT t)))]) hx hb dL_law_580 hl (by decide) rfl (fun ls hl => ?_)
  refine lv_aload_n hx hb dL_law_582 rfl (lv_at hl 6 rfl) ?_
  refine lv_iload hx hb dL_law_583 (lv_at hl 0 rfl) ?_
  refine lv_iload hx hb dL_law_585 (lv_at hl 2 rfl) ?_
  refine lv_bipush (v := (nI 64)) hx hb dL_law_587 (by decide) ?_
  refine n_idiv (v := (nI (z6 / 64))) hx hb (nI_ne0 (by omega) (by omega)) (pk_div (by omega) (by omega) (by omega)) dL_law_589 ?_
  refine lv_iconst (v := (nI 4)) hx hb dL_law_590 (by decide) ?_
  refine n_irem (v := (nI ((z6 / 64) % 4))) hx hb (nI_ne0 (by omega) (by omega)) (pk_rem (by omega) (by omega) (by omega)) dL_law_591 ?_
  refine n_wSiX (As := [.ref mq, .int (nI s1_577), .int (nI ((z6 / 64) % 4))]) (rest := []) (wr := []) (ws' := fun u => (wA kA mq q qc qp hq qs t cnt sv u x)) hS0 (w_ar2 lQ D kA adK adV mq q qc qp hq qs t cnt sv z1_577 x s1_577 ((z6 / 64) % 4) H.size hnt (by first | assumption | omega) (by first | assumption | omega) (by first | assumption | omega) (sbI_are hok h577_2) (by omega) h0) (vx_cwSW 3 hts gL_law_L_adds rfl rfl rfl (by decide +kernel) ⟨Nat.le_of_ble_eq_true rfl, Nat.le_of_ble_eq_true rfl⟩) hP hD hS hE hXW hA hK hK (by simpa only [List.append_assoc, List.append_nil] using (List.Perm.of_eq (List.append_nil _).symm)) (fun u => List.Perm.symm (by simpa only [List.append_assoc, List.append_nil] using (List.Perm.of_eq (List.append_nil _).symm))) rfl rfl hl.1 (Nat.le_of_ble_eq_true rfl) dL_law_592 (rm1 (by omega) (by omega)) (fun r592 u592 H locs h592 hP hD hS => ?_)
  obtain ⟨z1_592, rfl⟩ : ∃ z, z = u592 := ⟨_, rfl⟩
  obtain ⟨rfl, h592_1⟩ := h592
  have hP : va_P D vwCl (wA kA mq q qc qp hq qs t cnt sv z1_592 x) H := hP
  have hD : va_D A (wA kA mq q qc qp hq qs t cnt sv z1_592 x) := hD
  refine lv_istore (lv' := [(16, .int (-2000002)), (15, .int (nI s1_577)), (7, .int (nI (rcT t))), (6, .int (nI z6)), (4, .int (nI k)), (3, .int (nI (ccT t))), (2, .int (nI 1)), (1, .ref mq), (0, .ref b), (8, .int (nI (adT t)))]) hx hb dL_law_595 hl (by decide) rfl (fun ls hl => ?_)
  refine lv_iload hx hb dL_law_597 (lv_at hl 2 rfl) ?_
  refine lv_bipush (v := (nI 20)) hx hb dL_law_599 (by decide) ?_
  refine n_icmp_ne (a := rcT t) (b := 20) (tgt := 630) hx hb (by omega) (by omega) dL_law_601 (by decide) (fun c601 => ?_) (fun c601 => ?_)
  · exact absurd h0 c601
  · refine lv_iload hx hb dL_law_604 (lv_at hl 0 rfl) ?_
    refine lv_ldc (v := (-2000002)) hx hb hown k19 dL_law_606 ?_
    refine lv_icmp_ne (tgt := 626) hx hb dL_law_608 (by decide) (fun c608 => ?_) (fun c608 => ?_)
    · exact absurd rfl c608
    · refine lv_aload_n hx hb dL_law_611 rfl (lv_at hl 7 rfl) ?_
      refine lv_bipush (v := (nI 10)) hx hb dL_law_612 (by decide) ?_
      refine n_wViE (b := mq) (As := [.int (nI 10)]) (rest := []) (wr := []) (ws' := fun u => (wA kA mq q qc qp hq qs t cnt sv u x)) hS0 (q_wh10 lQ D kA adK adV mq q qc qp hq qs t cnt sv z1_592 x H.size (by first | assumption | omega) (by first | assumption | omega)) (cwV 1 hts gL_law_X5_whole rfl rfl rfl (by decide +kernel) ⟨Nat.le_of_ble_eq_true rfl, Nat.le_of_ble_eq_true rfl⟩) hP hD hS hE hA hK hK (by simpa only [List.append_assoc, List.append_nil] using (List.Perm.of_eq (List.append_nil _).symm)) (fun u => List.Perm.symm (by simpa only [List.append_assoc, List.append_nil] using (List.Perm.of_eq (List.append_nil _).symm))) (q0 := 0) rfl rfl rfl rfl rfl hl.1 (Nat.le_of_ble_eq_true rfl) dL_law_614 (rm1 (by omega) (by omega)) (fun r614 u614 H locs h614 hP hD hS => ?_)
      obtain ⟨z1_614, rfl⟩ : ∃ z, z = u614 := ⟨_, rfl⟩
      obtain ⟨rfl, h614_1⟩ := h614
      have hP : va_P D vwCl (wA kA mq q qc qp hq qs t cnt sv z1_614 x) H := hP
      have hD : va_D A (wA kA mq q qc qp hq qs t cnt sv z1_614 x) := hD
      refine lv_iload hx hb dL_law_617 (lv_at hl 9 rfl) ?_
      refine n_icmp_ne (a := adT t) (b := adT t) (tgt := 626) hx hb (by omega) (by omega) dL_law_619 (by decide) (fun c619 => ?_) (fun c619 => ?_)
      · exact absurd rfl c619
      · refine lv_iconst (v := (nI 1)) hx hb dL_law_622 (by decide) ?_
        refine lv_goto (tgt := 679) hx hb dL_law_623 (by decide) ?_
        refine lv_istore_n (lv' := [(2, .int (nI 1)), (16, .int (-2000002)), (15, .int (nI s1_577)), (7, .int (nI (rcT t))), (6, .int (nI z6)), (4, .int (nI k)), (3, .int (nI (ccT t))), (1, .ref mq), (0, .ref b), (8, .int (nI (adT t)))]) hx hb dL_law_679 rfl hl (by decide) rfl (fun ls hl => ?_)
        have hP : va_P D vwCl (wA kA mq q qc qp hq qs t cnt sv z1_614 x) H := hP
        have hD : va_D A (wA kA mq q qc qp hq qs t cnt sv z1_614 x) := hD
        refine W.widen (k := (52 + 2 * k + 2)) (n := (13027 + 12 * k + 12)) (by omega) (by omega) ?_
        exact kk t cnt sv z1_614 hok (by assumption) hcn hcc0 (Nat.le_succ_of_le had) _ _ hP hD hS _ (lv_sub hl [0, 5, 4, 7, 8] rfl)
set_option maxHeartbeats 4000000 in
set_option maxRecDepth 100000 in
theorem law_addlt {pQ : Program} {lQ : Launch} {eQ : Env} {s : State} {mQ : MethodId} {below : List Frame} {meth : Method} {cQ : Code} {D : va_G} {kA : Nat → ClassId} {A : Nat → Prop} {b : Nat} {mq : Nat} {q : Nat → Nat} {qc : Nat → Nat} {qp : Nat → Nat} {hq : Nat → Nat} {qs : Nat → Nat} {x : SC9} {adK adV : Nat → Nat} {L : Nat} {zs : Nat → Int32} (hnt : lQ.stackTraces = false) (hx : pQ.tables.exec = Jvm.exec) (hb : cQ.code = cL_law) (hown : s.vm.findClass RL = some mQ.cls) (hts : ∀ w ∈ wsL_law, w.before #[Value.ref b] s = true) (hS0 : CallFix pQ mQ cQ cL_law 17 s #[Value.ref b] wsL_law RL) (hX : va_X b L zs s s.heap) (hbl : b < s.heap.size) (hbA : ¬ A b) (hA : ∀ q : Nat, s.heap.size ≤ q → A q) (hK : va_K D vwCl (tyK kA) s) (hE : evS adK adV A s s.heap) (hXW : xwS s) (hL : L ≤ 260) {k z6 : Nat} (hk9 : k < 22) (hz6 : z6 < 2147483648) (kk : lawJ pQ lQ eQ s mQ below meth cQ D kA A b mq q qc qp hq qs x k z6) {t : TCt} {cnt : Nat} {sv : Nat → TSt} {z : ZC} (hok : okT t) (hz : zOK t z) (hcn : cnt ≤ 4) (hcc0 : 0 < ccT t) (had : adT t ≤ k) (h0 : rcT t < 20) {H : Heap} {locs : List Loc} (hP : va_P D vwCl (wA kA mq q qc qp hq qs t cnt sv z x) H) (hD : va_D A (wA kA mq q qc qp hq qs t cnt sv z x)) (hS : va_S A s.heap H locs) {ls : Array Slot} (hl : lv_has ls 17 [(7, .int (nI (rcT t))), (6, .int (nI z6)), (4, .int (nI k)), (3, .int (nI (ccT t))), (2, .int (nI 1)), (1, .ref mq), (0, .ref b), (8, .int (nI (adT t)))]) : W pQ lQ eQ room_1 s mQ #[Value.ref b] below meth cQ H locs (52 + 2 * k) (13027 + 12 * k) (lw_Z below #[Value.ref b] s) (F0 mQ 574 ls []) := by
  have hcc := okT_cc hok
  have hrc := okT_rc hok
  have hnc := okT_nC hok
  have had9 := hok.2.2.2.1
  have hnp : 0 < nCs t := prodF_pos (okT_ac hok)
  refine lv_aload_n hx hb dL_law_574 rfl (lv_at hl 5 rfl) ?_
  refine lv_iload hx hb dL_law_575 (lv_at hl 1 rfl) ?_
  refine n_wSiE (As := [.ref mq, .int (nI z6)]) (rest := []) (wr := []) (ws' := fun u => (wA kA mq q qc qp hq qs t cnt sv u.1 x)) hS0 (c_L_setsBy lQ D kA adK adV mq q qc qp hq qs t cnt sv z x z6 H.size (by first | assumption | omega) (by first | assumption | omega) (by first | assumption | omega)) (va_cwS 2 hts gL_law_L_setsBy rfl rfl rfl (by decide +kernel) ⟨Nat.le_of_ble_eq_true rfl, Nat.le_of_ble_eq_true rfl⟩) hP hD hS hE hA hK hK (by simpa only [List.append_assoc, List.append_nil] using (List.Perm.of_eq (List.append_nil _).symm)) (fun u => List.Perm.symm (by simpa only [List.append_assoc, List.append_nil] using (List.Perm.of_eq (List.append_nil _).symm))) rfl rfl hl.1 (Nat.le_of_ble_eq_true rfl) dL_law_577 (rm1 (by omega) (by omega)) (fun r577 u577 H locs h577 hP hD hS => ?_)
  obtain ⟨z1_577, s1_577⟩ := u577
  obtain ⟨rfl, h577_1, h577_2⟩ := h577
  try dsimp only at h577_1 h577_2
  have hP : va_P D vwCl (wA kA mq q qc qp hq qs t cnt sv z1_577 x) H := hP
  have hD : va_D A (wA kA mq q qc qp hq qs t cnt sv z1_577 x) := hD
  refine lv_istore (lv' := [(15, .int (nI s1_577)), (7, .int (nI (rcT t))), (6, .int (nI z6)), (4, .int (nI k)), (3, .int (nI (ccT t))), (2, .int (nI 1)), (1, .ref mq), (0, .ref b), (8, .int (nI (adT t)))]) hx hb dL_law_580 hl (by decide) rfl (fun ls hl => ?_)
  refine lv_aload_n hx hb dL_law_582 rfl (lv_at hl 6 rfl) ?_
  refine lv_iload hx hb dL_law_583 (lv_at hl 0 rfl) ?_
  refine lv_iload hx hb dL_law_585 (lv_at hl 2 rfl) ?_
  refine lv_bipush (v := (nI 64)) hx hb dL_law_587 (by decide) ?_
  refine n_idiv (v := (nI (z6 / 64))) hx hb (nI_ne0 (by omega) (by omega)) (pk_div (by omega) (by omega) (by omega)) dL_law_589 ?_
  refine lv_iconst (v := (nI 4)) hx hb dL_law_590 (by decide) ?_
  refine n_irem (v := (nI ((z6 / 64) % 4))) hx hb (nI_ne0 (by omega) (by omega)) (pk_rem (by omega) (by omega) (by omega)) dL_law_591 ?_
  refine n_wSiX (As := [.ref mq, .int (nI s1_577), .int (nI ((z6 / 64) % 4))]) (rest := []) (wr := []) (ws' := fun u => (wA kA mq q qc qp hq qs (arO t s1_577 ((z6 / 64) % 4)) (cntF cnt) (savF cnt sv t) u x)) hS0 (w_ar0 lQ D kA adK adV mq q qc qp hq qs t cnt sv z1_577 x s1_577 ((z6 / 64) % 4) H.size hnt (by first | assumption | omega) (by first | assumption | omega) (by first | assumption | omega) (sbI_are hok h577_2) (sbI_lt hcc h577_2) (by omega) h0) (vx_cwSW 3 hts gL_law_L_adds rfl rfl rfl (by decide +kernel) ⟨Nat.le_of_ble_eq_true rfl, Nat.le_of_ble_eq_true rfl⟩) hP hD hS hE hXW hA hK hK (by simpa only [List.append_assoc, List.append_nil] using (List.Perm.of_eq (List.append_nil _).symm)) (fun u => List.Perm.symm (by simpa only [List.append_assoc, List.append_nil] using (List.Perm.of_eq (List.append_nil _).symm))) rfl rfl hl.1 (Nat.le_of_ble_eq_true rfl) dL_law_592 (rm1 (by omega) (by omega)) (fun r592 u592 H locs h592 hP hD hS => ?_)
  obtain ⟨z1_592, rfl⟩ : ∃ z, z = u592 := ⟨_, rfl⟩
  obtain ⟨rfl, h592_1⟩ := h592
  have hP : va_P D vwCl (wA kA mq q qc qp hq qs (arO t s1_577 ((z6 / 64) % 4)) (cntF cnt) (savF cnt sv t) z1_592 x) H := hP
  have hD : va_D A (wA kA mq q qc qp hq qs (arO t s1_577 ((z6 / 64) % 4)) (cntF cnt) (savF cnt sv t) z1_592 x) := hD
  refine lv_istore (lv' := [(16, .int (nI (adT t))), (15, .int (nI s1_577)), (7, .int (nI (rcT t))), (6, .int (nI z6)), (4, .int (nI k)), (3, .int (nI (ccT t))), (2, .int (nI 1)), (1, .ref mq), (0, .ref b), (8, .int (nI (adT t)))]) hx hb dL_law_595 hl (by decide) rfl (fun ls hl => ?_)
  refine lv_iload hx hb dL_law_597 (lv_at hl 2 rfl) ?_
  refine lv_bipush (v := (nI 20)) hx hb dL_law_599 (by decide) ?_
  refine n_icmp_ne (a := rcT t) (b := 20) (tgt := 630) hx hb (by omega) (by omega) dL_law_601 (by decide) (fun c601 => ?_) (fun c601 => ?_)
  · refine lv_iload hx hb dL_law_630 (lv_at hl 0 rfl) ?_
    refine lv_iload hx hb dL_law_632 (lv_at hl 9 rfl) ?_
    refine n_icmp_ne (a := adT t) (b := adT t) (tgt := 678) hx hb (by omega) (by omega) dL_law_634 (by decide) (fun c634 => ?_) (fun c634 => ?_)
    · exact absurd rfl c634
    · refine lv_aload_n hx hb dL_law_637 rfl (lv_at hl 7 rfl) ?_
      refine lv_bipush (v := (nI 10)) hx hb dL_law_638 (by decide) ?_
      refine n_wViE (b := mq) (As := [.int (nI 10)]) (rest := []) (wr := []) (ws' := fun u => (wA kA mq q qc qp hq qs (arO t s1_577 ((z6 / 64) % 4)) (cntF cnt) (savF cnt sv t) u x)) hS0 (q_wh10 lQ D kA adK adV mq q qc qp hq qs (arO t s1_577 ((z6 / 64) % 4)) (cntF cnt) (savF cnt sv t) z1_592 x H.size (okT_ar hok h0 (sbI_lt hcc h577_2) (sbI_are hok h577_2) (by omega) (by omega)) (by first | assumption | omega)) (cwV 1 hts gL_law_X5_whole rfl rfl rfl (by decide +kernel) ⟨Nat.le_of_ble_eq_true rfl, Nat.le_of_ble_eq_true rfl⟩) hP hD hS hE hA hK hK (by simpa only [List.append_assoc, List.append_nil] using (List.Perm.of_eq (List.append_nil _).symm)) (fun u => List.Perm.symm (by simpa only [List.append_assoc, List.append_nil] using (List.Perm.of_eq (List.append_nil _).symm))) (q0 := 0) rfl rfl rfl rfl rfl hl.1 (Nat.le_of_ble_eq_true rfl) dL_law_640 (rm1 (by omega) (by omega)) (fun r640 u640 H locs h640 hP hD hS => ?_)
      obtain ⟨z1_640, rfl⟩ : ∃ z, z = u640 := ⟨_, rfl⟩
      obtain ⟨rfl, h640_1⟩ := h640
      have hP : va_P D vwCl (wA kA mq q qc qp hq qs (arO t s1_577 ((z6 / 64) % 4)) (cntF cnt) (savF cnt sv t) z1_640 x) H := hP
      have hD : va_D A (wA kA mq q qc qp hq qs (arO t s1_577 ((z6 / 64) % 4)) (cntF cnt) (savF cnt sv t) z1_640 x) := hD
      refine lv_iload hx hb dL_law_643 (lv_at hl 9 rfl) ?_
      refine lv_iconst (v := (nI 1)) hx hb dL_law_645 (by decide) ?_
      refine n_iadd (v := (nI (adT t + 1))) hx hb (nI_add _ _) dL_law_646 ?_
      refine n_icmp_ne (a := adT (arO t s1_577 ((z6 / 64) % 4))) (b := adT t + 1) (tgt := 678) hx hb (show adT t + 1 < _ by omega) (by omega) dL_law_647 (by decide) (fun c647 => ?_) (fun c647 => ?_)
      · exact absurd rfl c647
      · refine lv_aload_n hx hb dL_law_650 rfl (lv_at hl 7 rfl) ?_
        refine lv_iload hx hb dL_law_651 (lv_at hl 9 rfl) ?_
        refine lv_iconst (v := (nI 0)) hx hb dL_law_653 (by decide) ?_
        refine n_wViE (b := mq) (As := [.int (nI (adT t)), .int (nI 0)]) (rest := []) (wr := []) (ws' := fun u => (wA kA mq q qc qp hq qs (arO t s1_577 ((z6 / 64) % 4)) (cntF cnt) (savF cnt sv t) u x)) hS0 (q_row0 lQ D kA adK adV mq q qc qp hq qs (arO t s1_577 ((z6 / 64) % 4)) (cntF cnt) (savF cnt sv t) z1_640 x (adT t) (rcT t) H.size (okT_ar hok h0 (sbI_lt hcc h577_2) (sbI_are hok h577_2) (by omega) (by omega)) (by first | assumption | omega) (Nat.lt_succ_self _) (ar_nm _ _ _).symm) (cwV 2 hts gL_law_X5_row rfl rfl rfl (by decide +kernel) ⟨Nat.le_of_ble_eq_true rfl, Nat.le_of_ble_eq_true rfl⟩) hP hD hS hE hA hK hK (by simpa only [List.append_assoc, List.append_nil] using (List.Perm.of_eq (List.append_nil _).symm)) (fun u => List.Perm.symm (by simpa only [List.append_assoc, List.append_nil] using (List.Perm.of_eq (List.append_nil _).symm))) (q0 := 0) rfl rfl rfl rfl rfl hl.1 (Nat.le_of_ble_eq_true rfl) dL_law_654 (rm1 (by omega) (by omega)) (fun r654 u654 H locs h654 hP hD hS => ?_)
        obtain ⟨z1_654, rfl⟩ : ∃ z, z = u654 := ⟨_, rfl⟩
        obtain ⟨rfl, h654_1⟩ := h654
        have hP : va_P D vwCl (wA kA mq q qc qp hq qs (arO t s1_577 ((z6 / 64) % 4)) (cntF cnt) (savF cnt sv t) z1_654 x) H := hP
        have hD : va_D A (wA kA mq q qc qp hq qs (arO t s1_577 ((z6 / 64) % 4)) (cntF cnt) (savF cnt sv t) z1_654 x) := hD
        refine lv_iload hx hb dL_law_657 (lv_at hl 2 rfl) ?_
        refine n_icmp_ne (a := rcT t) (b := rcT t) (tgt := 678) hx hb (by omega) (by omega) dL_law_659 (by decide) (fun c659 => ?_) (fun c659 => ?_)
        · exact absurd rfl c659
        · refine lv_aload_n hx hb dL_law_662 rfl (lv_at hl 7 rfl) ?_
          refine lv_iload hx hb dL_law_663 (lv_at hl 9 rfl) ?_
          refine lv_iconst (v := (nI 5)) hx hb dL_law_665 (by decide) ?_
          refine n_wViE (b := mq) (As := [.int (nI (adT t)), .int (nI 5)]) (rest := []) (wr := []) (ws' := fun u => (wA kA mq q qc qp hq qs (arO t s1_577 ((z6 / 64) % 4)) (cntF cnt) (savF cnt sv t) u x)) hS0 (q_row5 lQ D kA adK adV mq q qc qp hq qs (arO t s1_577 ((z6 / 64) % 4)) (cntF cnt) (savF cnt sv t) z1_654 x (adT t) (rcT t) H.size (okT_ar hok h0 (sbI_lt hcc h577_2) (sbI_are hok h577_2) (by omega) (by omega)) (by first | assumption | omega) (Nat.lt_succ_self _) (ar_nm _ _ _).symm) (cwV 2 hts gL_law_X5_row rfl rfl rfl (by decide +kernel) ⟨Nat.le_of_ble_eq_true rfl, Nat.le_of_ble_eq_true rfl⟩) hP hD hS hE hA hK hK (by simpa only [List.append_assoc, List.append_nil] using (List.Perm.of_eq (List.append_nil _).symm)) (fun u => List.Perm.symm (by simpa only [List.append_assoc, List.append_nil] using (List.Perm.of_eq (List.append_nil _).symm))) (q0 := 0) rfl rfl rfl rfl rfl hl.1 (Nat.le_of_ble_eq_true rfl) dL_law_666 (rm1 (by omega) (by omega)) (fun r666 u666 H locs h666 hP hD hS => ?_)
          obtain ⟨z1_666, rfl⟩ : ∃ z, z = u666 := ⟨_, rfl⟩
          obtain ⟨rfl, h666_1⟩ := h666
          have hP : va_P D vwCl (wA kA mq q qc qp hq qs (arO t s1_577 ((z6 / 64) % 4)) (cntF cnt) (savF cnt sv t) z1_666 x) H := hP
          have hD : va_D A (wA kA mq q qc qp hq qs (arO t s1_577 ((z6 / 64) % 4)) (cntF cnt) (savF cnt sv t) z1_666 x) := hD
          refine lv_iload hx hb dL_law_669 (lv_at hl 1 rfl) ?_
          refine n_icmp_ne (a := stT (arO t s1_577 ((z6 / 64) % 4)) (rcT t)) (b := s1_577) (tgt := 678) hx hb (by rw [ar_st]; have := sbI_lt hcc h577_2; omega) (by have := sbI_lt hcc h577_2; omega) dL_law_671 (by decide) (fun c671 => ?_) (fun c671 => ?_)
          · exact absurd (ar_st _ _ _) c671
          · refine lv_iconst (v := (nI 1)) hx hb dL_law_674 (by decide) ?_
            refine lv_goto (tgt := 679) hx hb dL_law_675 (by decide) ?_
            refine lv_istore_n (lv' := [(2, .int (nI 1)), (16, .int (nI (adT t))), (15, .int (nI s1_577)), (7, .int (nI (rcT t))), (6, .int (nI z6)), (4, .int (nI k)), (3, .int (nI (ccT t))), (1, .ref mq), (0, .ref b), (8, .int (nI (adT t)))]) hx hb dL_law_679 rfl hl (by decide) rfl (fun ls hl => ?_)
            have hP : va_P D vwCl (wA kA mq q qc qp hq qs (arO t s1_577 ((z6 / 64) % 4)) (cntF cnt) (savF cnt sv t) z1_666 x) H := hP
            have hD : va_D A (wA kA mq q qc qp hq qs (arO t s1_577 ((z6 / 64) % 4)) (cntF cnt) (savF cnt sv t) z1_666 x) := hD
            refine W.widen (k := (52 + 2 * k + 2)) (n := (13027 + 12 * k + 12)) (by omega) (by omega) ?_
            exact kk (arO t s1_577 ((z6 / 64) % 4)) (cntF cnt) (savF cnt sv t) z1_666 (okT_ar hok h0 (sbI_lt hcc h577_2) (sbI_are hok h577_2) (by omega) (by omega)) (by assumption) (cntF_le hcn) hcc0 (Nat.succ_le_succ had) _ _ hP hD hS _ (lv_sub hl [0, 5, 4, 7, 8] rfl)
  · exact absurd c601 (by omega)
set_option maxHeartbeats 4000000 in
set_option maxRecDepth 100000 in
theorem law_join {pQ : Program} {lQ : Launch} {eQ : Env} {s : State} {mQ : MethodId} {below : List Frame} {meth : Method} {cQ : Code} {D : va_G} {kA : Nat → ClassId} {A : Nat → Prop} {b : Nat} {mq : Nat} {q : Nat → Nat} {qc : Nat → Nat} {qp : Nat → Nat} {hq : Nat → Nat} {qs : Nat → Nat} {x : SC9} {adK adV : Nat → Nat} {L : Nat} {zs : Nat → Int32} (hnt : lQ.stackTraces = false) (hx : pQ.tables.exec = Jvm.exec) (hb : cQ.code = cL_law) (hown : s.vm.findClass RL = some mQ.cls) (hts : ∀ w ∈ wsL_law, w.before #[Value.ref b] s = true) (hS0 : CallFix pQ mQ cQ cL_law 17 s #[Value.ref b] wsL_law RL) (hX : va_X b L zs s s.heap) (hbl : b < s.heap.size) (hbA : ¬ A b) (hA : ∀ q : Nat, s.heap.size ≤ q → A q) (hK : va_K D vwCl (tyK kA) s) (hE : evS adK adV A s s.heap) (hXW : xwS s) (hL : L ≤ 260) {k z6 : Nat} (hk9 : k < 22) (hz6 : z6 < 2147483648) (kk : lawI pQ lQ eQ s mQ below meth cQ D kA A b mq q qc qp hq qs x (k + 1)) : lawJ pQ lQ eQ s mQ below meth cQ D kA A b mq q qc qp hq qs x k z6 := by
  intro t cnt sv z hok hz hcn hcc0 had H locs hP hD hS ls hl
  have hcc := okT_cc hok
  have hrc := okT_rc hok
  have hnc := okT_nC hok
  have had9 := hok.2.2.2.1
  have hnp : 0 < nCs t := prodF_pos (okT_ac hok)
  refine lv_aload_n hx hb dL_law_680 rfl (lv_at hl 3 rfl) ?_
  refine lv_iconst (v := (nI 0)) hx hb dL_law_681 (by decide) ?_
  refine n_wViE (b := mq) (As := [.int (nI 0)]) (rest := []) (wr := []) (ws' := fun u => (wA kA mq q qc qp hq qs t cnt sv u x)) hS0 (q_wh0 lQ D kA adK adV mq q qc qp hq qs t cnt sv z x H.size (by first | assumption | omega) (by first | assumption | omega)) (cwV 1 hts gL_law_X5_whole rfl rfl rfl (by decide +kernel) ⟨Nat.le_of_ble_eq_true rfl, Nat.le_of_ble_eq_true rfl⟩) hP hD hS hE hA hK hK (by simpa only [List.append_assoc, List.append_nil] using (List.Perm.of_eq (List.append_nil _).symm)) (fun u => List.Perm.symm (by simpa only [List.append_assoc, List.append_nil] using (List.Perm.of_eq (List.append_nil _).symm))) (q0 := 0) rfl rfl rfl rfl rfl hl.1 (Nat.le_of_ble_eq_true rfl) dL_law_682 (rm1 (by omega) (by omega)) (fun r682 u682 H locs h682 hP hD hS => ?_)
  obtain ⟨z1_682, rfl⟩ : ∃ z, z = u682 := ⟨_, rfl⟩
  obtain ⟨rfl, h682_1⟩ := h682
  have hP : va_P D vwCl (wA kA mq q qc qp hq qs t cnt sv z1_682 x) H := hP
  have hD : va_D A (wA kA mq q qc qp hq qs t cnt sv z1_682 x) := hD
  refine lv_istore_n (lv' := [(3, .int (nI (ccT t))), (2, .int (nI 1)), (4, .int (nI k)), (6, .int (nI z6)), (1, .ref mq), (0, .ref b)]) hx hb dL_law_685 rfl hl (by decide) rfl (fun ls hl => ?_)
  refine lv_iload_n hx hb dL_law_686 rfl (lv_at hl 1 rfl) ?_
  refine lv_if_eq (tgt := 731) hx hb dL_law_687 (by decide) (fun h => absurd h (by decide)) (fun _ => ?_)
  refine lv_iload_n hx hb dL_law_690 rfl (lv_at hl 0 rfl) ?_
  refine n_if_le (a := ccT t) (tgt := 731) hx hb (by omega) dL_law_691 (by decide) (fun c691 => ?_) (fun c691 => ?_)
  · exact absurd c691 (by omega)
  · refine lv_aload_n hx hb dL_law_694 rfl (lv_at hl 4 rfl) ?_
    refine lv_iload hx hb dL_law_695 (lv_at hl 3 rfl) ?_
    refine lv_bipush (v := (nI 8)) hx hb dL_law_697 (by decide) ?_
    refine n_idiv (v := (nI (z6 / 8))) hx hb (nI_ne0 (by omega) (by omega)) (pk_div (by omega) (by omega) (by omega)) dL_law_699 ?_
    refine lv_aload_n hx hb dL_law_700 rfl (lv_at hl 4 rfl) ?_
    refine lv_iconst (v := (nI 1)) hx hb dL_law_701 (by decide) ?_
    refine n_wViE (b := mq) (As := [.int (nI 1)]) (rest := [.int (nI (z6 / 8)), .ref mq]) (wr := []) (ws' := fun u => (wA kA mq q qc qp hq qs t cnt sv u x)) hS0 (q_wh1 lQ D kA adK adV mq q qc qp hq qs t cnt sv z1_682 x H.size (by first | assumption | omega) (by first | assumption | omega)) (cwV 1 hts gL_law_X5_whole rfl rfl rfl (by decide +kernel) ⟨Nat.le_of_ble_eq_true rfl, Nat.le_of_ble_eq_true rfl⟩) hP hD hS hE hA hK hK (by simpa only [List.append_assoc, List.append_nil] using (List.Perm.of_eq (List.append_nil _).symm)) (fun u => List.Perm.symm (by simpa only [List.append_assoc, List.append_nil] using (List.Perm.of_eq (List.append_nil _).symm))) (q0 := 0) rfl rfl rfl rfl rfl hl.1 (Nat.le_of_ble_eq_true rfl) dL_law_702 (rm1 (by omega) (by omega)) (fun r702 u702 H locs h702 hP hD hS => ?_)
    obtain ⟨z1_702, rfl⟩ : ∃ z, z = u702 := ⟨_, rfl⟩
    obtain ⟨rfl, h702_1⟩ := h702
    have hP : va_P D vwCl (wA kA mq q qc qp hq qs t cnt sv z1_702 x) H := hP
    have hD : va_D A (wA kA mq q qc qp hq qs t cnt sv z1_702 x) := hD
    refine n_irem (v := (nI ((z6 / 8) % (nCs t)))) hx hb (nI_ne0 (by omega) (by omega)) (pk_rem (by omega) (by omega) (by omega)) dL_law_705 ?_
    refine n_wSiE (As := [.ref mq, .int (nI ((z6 / 8) % (nCs t)))]) (rest := []) (wr := []) (ws' := fun u => (wA kA mq q qc qp hq qs t cnt sv u x)) hS0 (c_L_caseHolds lQ D kA adK adV mq q qc qp hq qs t cnt sv z1_702 x ((z6 / 8) % (nCs t)) H.size (by first | assumption | omega) (by first | assumption | omega) (Nat.mod_lt _ hnp)) (va_cwS 2 hts gL_law_L_caseHolds rfl rfl rfl (by decide +kernel) ⟨Nat.le_of_ble_eq_true rfl, Nat.le_of_ble_eq_true rfl⟩) hP hD hS hE hA hK hK (by simpa only [List.append_assoc, List.append_nil] using (List.Perm.of_eq (List.append_nil _).symm)) (fun u => List.Perm.symm (by simpa only [List.append_assoc, List.append_nil] using (List.Perm.of_eq (List.append_nil _).symm))) rfl rfl hl.1 (Nat.le_of_ble_eq_true rfl) dL_law_706 (rm1 (by omega) (by omega)) (fun r706 u706 H locs h706 hP hD hS => ?_)
    obtain ⟨z1_706, rfl⟩ : ∃ z, z = u706 := ⟨_, rfl⟩
    obtain ⟨rfl, h706_1⟩ := h706
    have hP : va_P D vwCl (wA kA mq q qc qp hq qs t cnt sv z1_706 x) H := hP
    have hD : va_D A (wA kA mq q qc qp hq qs t cnt sv z1_706 x) := hD
    refine lv_if_eq (tgt := 731) hx hb dL_law_709 (by decide) (fun h => absurd h (by decide)) (fun _ => ?_)
    refine lv_iload hx hb dL_law_712 (lv_at hl 2 rfl) ?_
    refine lv_bipush (v := (nI 6)) hx hb dL_law_714 (by decide) ?_
    refine n_irem (v := (nI (k % 6))) hx hb (nI_ne0 (by omega) (by omega)) (pk_rem (by omega) (by omega) (by omega)) dL_law_716 ?_
    refine n_if_gt (a := k % 6) (tgt := 727) hx hb (by omega) dL_law_717 (by decide) (fun c717 => ?_) (fun c717 => ?_)
    · refine lv_iconst (v := (nI 1)) hx hb dL_law_727 (by decide) ?_
      refine lv_goto (tgt := 732) hx hb dL_law_728 (by decide) ?_
      refine lv_istore_n (lv' := [(2, .int (nI 1)), (3, .int (nI (ccT t))), (4, .int (nI k)), (6, .int (nI z6)), (1, .ref mq), (0, .ref b)]) hx hb dL_law_732 rfl hl (by decide) rfl (fun ls hl => ?_)
      refine lv_iinc (v := (nI (k + 1))) (lv' := [(4, .int (nI (k + 1))), (2, .int (nI 1)), (3, .int (nI (ccT t))), (6, .int (nI z6)), (1, .ref mq), (0, .ref b)]) hx hb dL_law_733 hl (k := 2) rfl (nI_inc _) (by decide) rfl (fun ls hl => ?_)
      refine lv_goto (tgt := 113) hx hb dL_law_736 (by decide) ?_
      have hP : va_P D vwCl (wA kA mq q qc qp hq qs t cnt sv z1_706 x) H := hP
      have hD : va_D A (wA kA mq q qc qp hq qs t cnt sv z1_706 x) := hD
      refine W.widen (k := (52 + 2 * (k + 1))) (n := (13027 + 12 * (k + 1))) (by omega) (by omega) ?_
      exact kk t cnt sv z1_706 hok (by assumption) hcn hcc0 had _ _ hP hD hS _ (lv_sub hl [0, 2, 1, 4, 5] rfl)
    · refine lv_aload_n hx hb dL_law_720 rfl (lv_at hl 4 rfl) ?_
      refine n_wSiE (As := [.ref mq]) (rest := []) (wr := []) (ws' := fun u => (wA kA mq q qc qp hq qs t cnt sv u x)) hS0 (c_L_holds lQ D kA adK adV mq q qc qp hq qs t cnt sv z1_706 x H.size (by first | assumption | omega) (by first | assumption | omega)) (va_cwS 1 hts gL_law_L_holds rfl rfl rfl (by decide +kernel) ⟨Nat.le_of_ble_eq_true rfl, Nat.le_of_ble_eq_true rfl⟩) hP hD hS hE hA hK hK (by simpa only [List.append_assoc, List.append_nil] using (List.Perm.of_eq (List.append_nil _).symm)) (fun u => List.Perm.symm (by simpa only [List.append_assoc, List.append_nil] using (List.Perm.of_eq (List.append_nil _).symm))) rfl rfl hl.1 (Nat.le_of_ble_eq_true rfl) dL_law_721 (rm1 (by omega) (by omega)) (fun r721 u721 H locs h721 hP hD hS => ?_)
      obtain ⟨z1_721, rfl⟩ : ∃ z, z = u721 := ⟨_, rfl⟩
      obtain ⟨rfl, h721_1⟩ := h721
      have hP : va_P D vwCl (wA kA mq q qc qp hq qs t cnt sv z1_721 x) H := hP
      have hD : va_D A (wA kA mq q qc qp hq qs t cnt sv z1_721 x) := hD
      refine lv_if_eq (tgt := 731) hx hb dL_law_724 (by decide) (fun h => absurd h (by decide)) (fun _ => ?_)
      refine lv_iconst (v := (nI 1)) hx hb dL_law_727 (by decide) ?_
      refine lv_goto (tgt := 732) hx hb dL_law_728 (by decide) ?_
      refine lv_istore_n (lv' := [(2, .int (nI 1)), (3, .int (nI (ccT t))), (4, .int (nI k)), (6, .int (nI z6)), (1, .ref mq), (0, .ref b)]) hx hb dL_law_732 rfl hl (by decide) rfl (fun ls hl => ?_)
      refine lv_iinc (v := (nI (k + 1))) (lv' := [(4, .int (nI (k + 1))), (2, .int (nI 1)), (3, .int (nI (ccT t))), (6, .int (nI z6)), (1, .ref mq), (0, .ref b)]) hx hb dL_law_733 hl (k := 2) rfl (nI_inc _) (by decide) rfl (fun ls hl => ?_)
      refine lv_goto (tgt := 113) hx hb dL_law_736 (by decide) ?_
      have hP : va_P D vwCl (wA kA mq q qc qp hq qs t cnt sv z1_721 x) H := hP
      have hD : va_D A (wA kA mq q qc qp hq qs t cnt sv z1_721 x) := hD
      refine W.widen (k := (52 + 2 * (k + 1))) (n := (13027 + 12 * (k + 1))) (by omega) (by omega) ?_
      exact kk t cnt sv z1_721 hok (by assumption) hcn hcc0 had _ _ hP hD hS _ (lv_sub hl [0, 2, 1, 4, 5] rfl)
