section NLW
variable {p : Program} {l : Launch} {e : Env} {R : Room} {s : State} {m : MethodId} {args : Array Value} {below : List Frame} {meth : Method} {c : Code} {H : Heap} {locs : List Loc} {cells slots : Nat} {Q : State → Prop}
variable {cc : ByteArray} {pc : Nat} {ls : Array Slot} {rest : List Value} {D : va_G} {cl : List vw_C} {ws : va_W} {tys : List (ClassId × FieldType)} {a : Nat} {A : Nat → Prop} {H0 : Heap}
variable {y : MethodName} {bytes : ByteArray} {maxL nL mc ms n index : Nat} {ret : Option FieldType} {wsy : List Cond} {rm : Room} {Ts : List Cond} {own C : String} {b : Nat} {As st : List Value} {wc : va_W} {tysc : List (ClassId × FieldType)}
variable {adK adV : Nat → Nat}

theorem n_wSiE (hS0 : CallFix p m c cc nL s args Ts own) {S : Type} {post : Int32 → S → Prop} {w1 : S → va_W} (hM : Met l y wsy rm (wrE_Pc D cl adK adV As wc tysc H.size) (va_Qi post (wr_B D cl wc tysc H.size w1) (va_A wc H.size)) mc ms (va_A wc H.size)) (cw : CallB R s args own index y bytes maxL ret wsy rm mc ms n ∧ (Cond.static y).before args s = true) (hP : va_P D cl ws H) (hD : va_D A ws) (hS : va_S A s.heap H locs) (hE : evS adK adV A s s.heap) (hA : ∀ q, s.heap.size ≤ q → A q) (hK : va_K D cl tys s) (hKc : va_K D cl tysc s) {wr : va_W} {ws' : S → va_W} (hp : ws.Perm (wc ++ wr)) (hp' : ∀ u, (w1 u ++ wr).Perm (ws' u)) (hst : st = As.reverse ++ rest) (hn : As.length = n) (hls : ls.size = nL) (hroom : (rest.map fun v => v.category).sum ≤ 8) (hdg : decode cc pc = .ok (.invokestatic index, 3)) (hcs : cells + mc ≤ R.cells ∧ slots + ms ≤ R.slots) (kk : ∀ (r : Int32) (u : S) (H1 : Heap) (locs1 : List Loc), post r u → va_P D cl (ws' u) H1 → va_D A (ws' u) → va_S A s.heap H1 locs1 → W p l e R s m args below meth c H1 locs1 (cells + mc) (slots + ms) Q (F0 m (pc + 3) ls (.int r :: rest))) : W p l e R s m args below meth c H locs cells slots Q (F0 m pc ls st) := by
  subst hst
  have hnd : va_nds (wc ++ wr) := (hp.map _).nodup_iff.mp (va_D_nd hD)
  have hnd' : ((wc.map (fun q => q.1)) ++ (wr.map (fun q => q.1))).Nodup := by rw [← List.map_append]; exact hnd
  have hndc : va_nds wc := (List.nodup_append.mp hnd').1
  have hF : ∀ q, va_A wc H.size q → A q := by
    intro q h
    rcases va_A_mem.mp h with ⟨e, he⟩ | h
    · obtain ⟨k1, hk1⟩ := List.getElem?_of_mem (hp.mem_iff.mpr (List.mem_append_left _ he))
      exact hD.2 k1 _ hk1
    · exact hA q (Nat.le_trans hS.1 h)
  refine va_calli (va_runS (As := As) (rest := rest) hS0 hM cw ⟨wrE_blind, fun U hU hW => ⟨rfl, by rw [hU], by rw [hU]; exact hP.mem (fun q h => hp.mem_iff.mpr (List.mem_append_left _ h)), va_K.moved hW.alike hKc, va_D_of hndc (fun _ _ => trivial), evS.go hE hS hF hU hW⟩⟩ rfl hn hls rfl (lv_room hroom) hdg hcs) hS (fun q _ h => hF q h) hF (fun r u t H1 locs1 ht hvm hw hB hz1 hk1 hS1 => ?_)
  obtain ⟨hP1, hK1, hD1⟩ := hB
  rw [ht] at hP1
  obtain ⟨h1, h2⟩ := n_frame hP hD hp (hp' u) hk1 hF hP1 hD1
  exact kk r u H1 locs1 hw h1 h2 hS1
theorem n_wSiX {hh : List (Nat × Nat × Nat × Nat)} (hS0 : CallFix p m c cc nL s args Ts own) {S : Type} {post : Int32 → S → Prop} {w1 : S → va_W} (hM : Met l y wsy rm (wrX_Pc D cl adK adV As wc tysc H.size) (va_Qi post (wr_B D cl wc tysc H.size w1) (va_A wc H.size)) mc ms (va_A wc H.size)) (cw : vx_CSW R s args own index y bytes maxL ret hh wsy rm mc ms n) (hP : va_P D cl ws H) (hD : va_D A ws) (hS : va_S A s.heap H locs) (hE : evS adK adV A s s.heap) (hXW : xwS s) (hA : ∀ q, s.heap.size ≤ q → A q) (hK : va_K D cl tys s) (hKc : va_K D cl tysc s) {wr : va_W} {ws' : S → va_W} (hp : ws.Perm (wc ++ wr)) (hp' : ∀ u, (w1 u ++ wr).Perm (ws' u)) (hst : st = As.reverse ++ rest) (hn : As.length = n) (hls : ls.size = nL) (hroom : (rest.map fun v => v.category).sum ≤ 8) (hdg : decode cc pc = .ok (.invokestatic index, 3)) (hcs : cells + mc ≤ R.cells ∧ slots + ms ≤ R.slots) (kk : ∀ (r : Int32) (u : S) (H1 : Heap) (locs1 : List Loc), post r u → va_P D cl (ws' u) H1 → va_D A (ws' u) → va_S A s.heap H1 locs1 → W p l e R s m args below meth c H1 locs1 (cells + mc) (slots + ms) Q (F0 m (pc + 3) ls (.int r :: rest))) : W p l e R s m args below meth c H locs cells slots Q (F0 m pc ls st) := by
  subst hst
  have hnd : va_nds (wc ++ wr) := (hp.map _).nodup_iff.mp (va_D_nd hD)
  have hnd' : ((wc.map (fun q => q.1)) ++ (wr.map (fun q => q.1))).Nodup := by rw [← List.map_append]; exact hnd
  have hndc : va_nds wc := (List.nodup_append.mp hnd').1
  have hF : ∀ q, va_A wc H.size q → A q := by
    intro q h
    rcases va_A_mem.mp h with ⟨e, he⟩ | h
    · obtain ⟨k1, hk1⟩ := List.getElem?_of_mem (hp.mem_iff.mpr (List.mem_append_left _ he))
      exact hD.2 k1 _ hk1
    · exact hA q (Nat.le_trans hS.1 h)
  refine va_calli (vx_runSW (As := As) (rest := rest) hS0 hM cw ⟨wrX_blind, fun U hU hW => ⟨rfl, by rw [hU], by rw [hU]; exact hP.mem (fun q h => hp.mem_iff.mpr (List.mem_append_left _ h)), va_K.moved hW.alike hKc, va_D_of hndc (fun _ _ => trivial), evS.go hE hS hF hU hW, xwS.warm hW hXW⟩⟩ rfl hn hls rfl (lv_room hroom) hdg hcs) hS (fun q _ h => hF q h) hF (fun r u t H1 locs1 ht hvm hw hB hz1 hk1 hS1 => ?_)
  obtain ⟨hP1, hK1, hD1⟩ := hB
  rw [ht] at hP1
  obtain ⟨h1, h2⟩ := n_frame hP hD hp (hp' u) hk1 hF hP1 hD1
  exact kk r u H1 locs1 hw h1 h2 hS1
/-- a cell of the script: what reads it alone -/
theorem n_cX (hS0 : CallFix p m c cc nL s args Ts own) {post : Int32 → Prop} {b L : Nat} {xs : Nat → Int32} (hM : Met l y wsy rm (va_Pc As (fun U => va_X b L xs U U.heap ∧ b < U.heap.size)) (vp_Si post) 0 0 (fun _ => False)) (cw : CallB R s args own index y bytes maxL ret wsy rm 0 0 n ∧ (Cond.static y).before args s = true) (hX : va_X b L xs s s.heap) (hbl : b < s.heap.size) (hbA : ¬ A b) (hS : va_S A s.heap H locs) (hst : st = As.reverse ++ rest) (hn : As.length = n) (hls : ls.size = nL) (hroom : (rest.map fun v => v.category).sum ≤ 8) (hdg : decode cc pc = .ok (.invokestatic index, 3)) (hcs : cells ≤ R.cells ∧ slots ≤ R.slots) (kk : ∀ r : Int32, post r → W p l e R s m args below meth c H locs cells slots Q (F0 m (pc + 3) ls (.int r :: rest))) : W p l e R s m args below meth c H locs cells slots Q (F0 m pc ls st) := by
  subst hst
  exact vp_callSi (W.runS (As := As) (rest := rest) hS0 hM cw ⟨fun a U g mk q => ⟨q.1, va_X.moved (u := U) (U := U.calling g mk a) (Vm.Alike.refl U.vm) q.2.1, q.2.2⟩, fun U hU hW => ⟨rfl, by rw [hU]; exact (va_X.moved hW.alike hX).kept (hS.2.1 b hbl hbA), by rw [hU]; exact Nat.lt_of_lt_of_le hbl hS.1⟩⟩ rfl hn hls rfl (lv_room hroom) hdg hcs) kk
theorem n_sld (hx : p.tables.exec = Jvm.exec) (hb : c.code = cc) {b L : Nat} {xs : Nat → Int32} (hX : va_X b L xs s H0) (hbl : b < H0.size) (hbA : ¬ A b) (hS : va_S A H0 H locs) {i : Nat} (hi : i < L) (hL : L ≤ 2048) (hdg : decode cc pc = .ok (.iaload, 1)) (kk : W p l e R s m args below meth c H locs cells slots Q (F0 m (pc + 1) ls (.int (xs i) :: rest))) : W p l e R s m args below meth c H locs cells slots Q (F0 m pc ls (.int (nI i) :: .ref b :: rest)) := by
  refine va_sld hx hb hX hbl hbA hS (vp_in_nI hi (by omega)) hdg ?_
  rw [nI_clamp (by omega)]
  exact kk
end NLW
theorem b01_le (b : Bool) : b01 b ≤ 1 := by cases b <;> decide
theorem ax_of {t : TCt} {k : Nat} (h : nuT t (fiT t k) = none) : axT t k = 10 := by
  show actO (anT t) (fiT t k) = 10
  cases e : fiT t k with
  | none => rfl
  | some q => rw [e, nu_some (firstF_spec e).1] at h; cases h
theorem fi_num {t : TCt} {k q : Nat} (h : nuT t (fiT t k) = some q) : ∃ p, fiT t k = some p ∧ p < rcT t ∧ q = nmT t p := by
  cases e : fiT t k with
  | none => rw [e] at h; cases h
  | some p =>
    have hp := (firstF_spec e).1
    rw [e, nu_some hp] at h
    exact ⟨p, rfl, hp, (Option.some.inj h).symm⟩
theorem to_le {t : TCt} (h : okT t) {p : Nat} (hp : p < rcT t) : toT t p ≤ 1024 := by rw [to_T h hp]; exact Nat.le_trans (cntB_le _ _) (okT_nC h)
theorem ct_le {t : TCt} (h : okT t) (c : Nat) : ctT t c ≤ 20 := Nat.le_trans (cntB_le _ _) (okT_rc h)
theorem ho_s1 {t : TCt} {k : Nat} (h : ctT t k = 0) : hoT t (k + 1) = hoT t k + 1 := cntB_st (f := fun c => decide (fiT t c = none)) (decide_eq_true ((cnt_first (tlT t k) (rcT t)).mp h))
theorem ho_s0 {t : TCt} {k : Nat} (h : 0 < ctT t k) : hoT t (k + 1) = hoT t k := cntB_sf (f := fun c => decide (fiT t c = none)) (decide_eq_false (fun e => by have : ctT t k = 0 := (cnt_first (tlT t k) (rcT t)).mpr e; omega))

set_option maxHeartbeats 4000000 in
set_option maxRecDepth 100000 in
theorem c_L_has (lQ : Launch) (D : va_G) (kA : Nat → ClassId) (s0 : Nat) (k0 : Nat) (hs0 : s0 < 16) (hk0 : k0 < 4) : Met lQ yL_has wsL_has (rmN 0 0) (rd_Pc D vwCl [.int (nI s0), .int (nI k0)] [] (tyK kA)) (vp_Si (fun r : Int32 => r = (bI (hasN s0 k0)))) 0 0 (fun _ => False) := by
  refine Met.ofW (cc := cL_has) (maxL := 2) (ret := (some .boolean)) (by decide) rfl ?_
  intro pQ eQ s mQ args below meth cQ s₁ B hml hv
  obtain ⟨rfl, hP, hK⟩ := hv
  have hx := B.exec
  have hb := B.bytes
  have hr := B.returns
  have hts := atoms_spec (ws := wsL_has) B.pre
  have hown : s.vm.findClass RL = some mQ.cls := findClass_of_methodNamed B.named
  have hlocks : meth.locks = false := B.notSynchronized
  have hS0 : CallFix pQ mQ cQ cL_has 2 s ([.int (nI s0), .int (nI k0)] : List Value).toArray wsL_has RL := ⟨hx, hb, hml, hown, hts⟩
  skip
  have hl := lv_entry ([.int (nI s0), .int (nI k0)]) (n := 2) (Nat.le_of_ble_eq_true rfl)
  rw [lg_entry_eq]
  generalize (lg_sl ([.int (nI s0), .int (nI k0)]) ++ List.replicate (2 - (lg_sl ([.int (nI s0), .int (nI k0)])).length) Slot.unset).toArray = ls at hl ⊢
  have hl : lv_has ls 2 [(0, .int (nI s0)), (1, .int (nI k0))] := hl
  have hP : va_P D vwCl [] s.heap := hP
  refine lv_iload_n hx hb dL_has_0 rfl (lv_at hl 0 rfl) ?_
  refine lv_iload_n hx hb dL_has_1 rfl (lv_at hl 1 rfl) ?_
  refine n_ishr (v := (nI (s0 >>> k0))) hx hb (nN_shr (by omega) (by omega)) dL_has_2 ?_
  refine lv_iconst (v := (nI 1)) hx hb dL_has_3 (by decide) ?_
  refine n_iand (v := (nI ((s0 >>> k0) &&& 1))) hx hb (nN_and _ _) dL_has_4 ?_
  refine lv_iconst (v := (nI 1)) hx hb dL_has_5 (by decide) ?_
  refine n_icmp_ne (a := (s0 >>> k0) &&& 1) (b := 1) (tgt := 13) hx hb (Nat.lt_of_le_of_lt Nat.and_le_right (by decide)) (by decide) dL_has_6 (by decide) (fun c6 => ?_) (fun c6 => ?_)
  · refine lv_iconst (v := (nI 0)) hx hb dL_has_13 (by decide) ?_
    exact n_retz hx hb hr hlocks (post := fun r : Int32 => r = (bI (hasN s0 k0))) rfl (by unfold hasN; first | (rw [decide_eq_true c6]; rfl) | (rw [decide_eq_false c6]; rfl)) rfl dL_has_14
  · refine lv_iconst (v := (nI 1)) hx hb dL_has_9 (by decide) ?_
    refine lv_goto (tgt := 14) hx hb dL_has_10 (by decide) ?_
    exact n_retz hx hb hr hlocks (post := fun r : Int32 => r = (bI (hasN s0 k0))) rfl (by unfold hasN; first | (rw [decide_eq_true c6]; rfl) | (rw [decide_eq_false c6]; rfl)) rfl dL_has_14

set_option maxHeartbeats 4000000 in
set_option maxRecDepth 100000 in
theorem c_L_setsBy (lQ : Launch) (D : va_G) (kA : Nat → ClassId) (adK adV : Nat → Nat) (mq : Nat) (q : Nat → Nat) (qc : Nat → Nat) (qp : Nat → Nat) (hq : Nat → Nat) (qs : Nat → Nat) (t : TCt) (cnt : Nat) (sv : Nat → TSt) (z : ZC) (x : SC9) (y0 : Nat) (sz : Nat) (hok : okT t) (hz : zOK t z) (hy : y0 < 2147483648) : Met lQ yL_setsBy wsL_setsBy (rmN 7 154) (wrE_Pc D vwCl adK adV [.ref mq, .int (nI y0)] (wA kA mq q qc qp hq qs t cnt sv z x) (tyK kA) sz) (va_Qi (S := ZC × Nat) (fun (r : Int32) (u : ZC × Nat) => r = (nI u.2) ∧ zOK t u.1 ∧ sbI t (ccT t) u.2) (wr_B D vwCl (wA kA mq q qc qp hq qs t cnt sv z x) (tyK kA) sz (fun u => (wA kA mq q qc qp hq qs t cnt sv u.1 x))) (va_A (wA kA mq q qc qp hq qs t cnt sv z x) sz)) 0 0 (va_A (wA kA mq q qc qp hq qs t cnt sv z x) sz) := by
  refine Met.ofW (cc := cL_setsBy) (maxL := 7) (ret := (some .int)) (by decide) rfl ?_
  intro pQ eQ s mQ args below meth cQ s₁ B hml hv
  obtain ⟨rfl, hsz, hP, hK, hD0, hE⟩ := hv
  have hx := B.exec
  have hb := B.bytes
  have hr := B.returns
  have hts := atoms_spec (ws := wsL_setsBy) B.pre
  have hown : s.vm.findClass RL = some mQ.cls := findClass_of_methodNamed B.named
  have hlocks : meth.locks = false := B.notSynchronized
  have hS0 : CallFix pQ mQ cQ cL_setsBy 7 s ([.ref mq, .int (nI y0)] : List Value).toArray wsL_setsBy RL := ⟨hx, hb, hml, hown, hts⟩
  subst hsz
  have hD := hD0.self (sz := s.heap.size)
  generalize hAe : va_A (wA kA mq q qc qp hq qs t cnt sv z x) s.heap.size = A at hD hE ⊢
  have hA : ∀ q : Nat, s.heap.size ≤ q → A q := fun q h => by rw [← hAe]; exact Or.inr h
  have hS : va_S A s.heap s.heap [] := va_S.rf
  skip
  have hl := lv_entry ([.ref mq, .int (nI y0)]) (n := 7) (Nat.le_of_ble_eq_true rfl)
  rw [lg_entry_eq]
  generalize (lg_sl ([.ref mq, .int (nI y0)]) ++ List.replicate (7 - (lg_sl ([.ref mq, .int (nI y0)])).length) Slot.unset).toArray = ls at hl ⊢
  have hl : lv_has ls 7 [(0, .ref mq), (1, .int (nI y0))] := hl
  have hP : va_P D vwCl (wA kA mq q qc qp hq qs t cnt sv z x) s.heap := hP
  have hD : va_D A (wA kA mq q qc qp hq qs t cnt sv z x) := hD
  obtain ⟨tP, hZP, hTP⟩ := hE.1
  have hcc := okT_cc hok
  refine lv_iconst (v := (nI 0)) hx hb dL_setsBy_0 (by decide) ?_
  refine lv_istore_n (lv' := [(2, .int (nI 0)), (0, .ref mq), (1, .int (nI y0))]) hx hb dL_setsBy_1 rfl hl (by decide) rfl (fun ls hl => ?_)
  refine lv_iload_n hx hb dL_setsBy_2 rfl (lv_at hl 2 rfl) ?_
  refine lv_istore_n (lv' := [(3, .int (nI y0)), (2, .int (nI 0)), (0, .ref mq), (1, .int (nI y0))]) hx hb dL_setsBy_3 rfl hl (by decide) rfl (fun ls hl => ?_)
  refine lv_iconst (v := (nI 0)) hx hb dL_setsBy_4 (by decide) ?_
  refine lv_istore (lv' := [(4, .int (nI 0)), (3, .int (nI y0)), (2, .int (nI 0)), (0, .ref mq), (1, .int (nI y0))]) hx hb dL_setsBy_5 hl (by decide) rfl (fun ls hl => ?_)
  have L7 : ∀ (nQ : Nat) (i : Nat) (s0 : Nat) (w0 : Nat) (zy : ZC), ccT t - i < nQ → (i ≤ ccT t) → (sbI t i s0) → (w0 < 2147483648) → (zOK t zy) → ∀ (H : Heap) (locs : List Loc), va_P D vwCl (wA kA mq q qc qp hq qs t cnt sv zy x) H → va_D A (wA kA mq q qc qp hq qs t cnt sv zy x) → va_S A s.heap H locs → ∀ (ls : Array Slot), lv_has ls 7 [(4, .int (nI i)), (3, .int (nI w0)), (2, .int (nI s0)), (0, .ref mq), (1, .int (nI y0))] → W pQ lQ eQ (headSpec wsL_setsBy (rmN 7 154)).room s mQ ([.ref mq, .int (nI y0)] : List Value).toArray below meth cQ H locs 0 0 (MQ below (va_Qi (S := ZC × Nat) (fun (r : Int32) (u : ZC × Nat) => r = (nI u.2) ∧ zOK t u.1 ∧ sbI t (ccT t) u.2) (wr_B D vwCl (wA kA mq q qc qp hq qs t cnt sv z x) (tyK kA) s.heap.size (fun u => (wA kA mq q qc qp hq qs t cnt sv u.1 x))) A) ([.ref mq, .int (nI y0)] : List Value).toArray s 0 0 A) (F0 mQ 7 ls []) := by
    intro nQ
    induction nQ with
    | zero => intro i s0 w0 zy hn; exact absurd hn (Nat.not_lt_zero _)
    | succ nQ ih7 =>
      intro i s0 w0 zy hm7 hi hs hw hzy H locs hP hD hS ls hl
      refine lv_iload hx hb dL_setsBy_7 (lv_at hl 0 rfl) ?_
      refine lv_aload_n hx hb dL_setsBy_9 rfl (lv_at hl 3 rfl) ?_
      refine lv_iconst (v := (nI 0)) hx hb dL_setsBy_10 (by decide) ?_
      refine n_wViE (b := mq) (As := [.int (nI 0)]) (rest := [.int (nI i)]) (wr := []) (ws' := fun u => (wA kA mq q qc qp hq qs t cnt sv u x)) hS0 (q_wh0 lQ D kA adK adV mq q qc qp hq qs t cnt sv zy x H.size (by first | assumption | omega) (by first | assumption | omega)) (cwV 1 hts gL_setsBy_X5_whole rfl rfl rfl (by decide +kernel) ⟨Nat.le_of_ble_eq_true rfl, Nat.le_of_ble_eq_true rfl⟩) hP hD hS hE hA hK hK (by simpa only [List.append_assoc, List.append_nil] using (List.Perm.of_eq (List.append_nil _).symm)) (fun u => List.Perm.symm (by simpa only [List.append_assoc, List.append_nil] using (List.Perm.of_eq (List.append_nil _).symm))) (q0 := 0) rfl rfl rfl rfl rfl hl.1 (Nat.le_of_ble_eq_true rfl) dL_setsBy_11 ⟨Nat.le_refl _, Nat.le_refl _⟩ (fun r11 u11 H locs h11 hP hD hS => ?_)
      obtain ⟨z1_11, rfl⟩ : ∃ z, z = u11 := ⟨_, rfl⟩
      obtain ⟨rfl, h11_1⟩ := h11
      have hP : va_P D vwCl (wA kA mq q qc qp hq qs t cnt sv z1_11 x) H := hP
      have hD : va_D A (wA kA mq q qc qp hq qs t cnt sv z1_11 x) := hD
      refine n_icmp_ge (a := i) (b := ccT t) (tgt := 78) hx hb (by omega) (by omega) dL_setsBy_14 (by decide) (fun c14 => ?_) (fun c14 => ?_)
      · refine lv_iload_n hx hb dL_setsBy_78 rfl (lv_at hl 2 rfl) ?_
        have e9 : i = ccT t := by omega
        rw [e9] at hs
        exact n_wreti hx hb hr hlocks (post := fun (r : Int32) (u : ZC × Nat) => r = (nI u.2) ∧ zOK t u.1 ∧ sbI t (ccT t) u.2) (w1 := fun u => (wA kA mq q qc qp hq qs t cnt sv u.1 x)) (z1_11, s0) ⟨rfl, h11_1, hs⟩ hP hD hK hS hAe dL_setsBy_79
      · have hac9 := okT_ac hok i (by omega)
        have hful := ful_3 (acT t i) (by omega) hac9.1
        refine lv_iconst (v := (nI 1)) hx hb dL_setsBy_17 (by decide) ?_
        refine lv_aload_n hx hb dL_setsBy_18 rfl (lv_at hl 3 rfl) ?_
        refine lv_iload hx hb dL_setsBy_19 (lv_at hl 0 rfl) ?_
        refine lv_iconst (v := (nI 0)) hx hb dL_setsBy_21 (by decide) ?_
        refine n_wViE (b := mq) (As := [.int (nI i), .int (nI 0)]) (rest := [.int (nI 1)]) (wr := []) (ws' := fun u => (wA kA mq q qc qp hq qs t cnt sv u x)) hS0 (q_co0 lQ D kA adK adV mq q qc qp hq qs t cnt sv z1_11 x i H.size (by first | assumption | omega) (by first | assumption | omega) (by first | assumption | omega)) (cwV 2 hts gL_setsBy_X5_condition rfl rfl rfl (by decide +kernel) ⟨Nat.le_of_ble_eq_true rfl, Nat.le_of_ble_eq_true rfl⟩) hP hD hS hE hA hK hK (by simpa only [List.append_assoc, List.append_nil] using (List.Perm.of_eq (List.append_nil _).symm)) (fun u => List.Perm.symm (by simpa only [List.append_assoc, List.append_nil] using (List.Perm.of_eq (List.append_nil _).symm))) (q0 := 0) rfl rfl rfl rfl rfl hl.1 (Nat.le_of_ble_eq_true rfl) dL_setsBy_22 ⟨Nat.le_refl _, Nat.le_refl _⟩ (fun r22 u22 H locs h22 hP hD hS => ?_)
        obtain ⟨z1_22, rfl⟩ : ∃ z, z = u22 := ⟨_, rfl⟩
        obtain ⟨rfl, h22_1⟩ := h22
        have hP : va_P D vwCl (wA kA mq q qc qp hq qs t cnt sv z1_22 x) H := hP
        have hD : va_D A (wA kA mq q qc qp hq qs t cnt sv z1_22 x) := hD
        refine n_ishl (v := (nI (1 <<< (acT t i)))) hx hb (nN_shl _ (by omega)) dL_setsBy_25 ?_
        refine lv_iconst (v := (nI 1)) hx hb dL_setsBy_26 (by decide) ?_
        refine n_isub (v := (nI (fulN (acT t i)))) hx hb (pk_sub (one_shl _)) dL_setsBy_27 ?_
        refine lv_istore (lv' := [(5, .int (nI (fulN (acT t i)))), (4, .int (nI i)), (3, .int (nI w0)), (2, .int (nI s0)), (0, .ref mq), (1, .int (nI y0))]) hx hb dL_setsBy_28 hl (by decide) rfl (fun ls hl => ?_)
        refine lv_iload_n hx hb dL_setsBy_30 rfl (lv_at hl 2 rfl) ?_
        refine lv_iconst (v := (nI 3)) hx hb dL_setsBy_31 (by decide) ?_
        refine n_irem (v := (nI (w0 % 3))) hx hb (nI_ne0 (by omega) (by omega)) (pk_rem (by omega) (by omega) (by omega)) dL_setsBy_32 ?_
        refine n_if_ne (a := w0 % 3) (tgt := 41) hx hb (by omega) dL_setsBy_33 (by decide) (fun c33 => ?_) (fun c33 => ?_)
        · refine lv_iconst (v := (nI 1)) hx hb dL_setsBy_41 (by decide) ?_
          refine lv_iload_n hx hb dL_setsBy_42 rfl (lv_at hl 2 rfl) ?_
          refine lv_iconst (v := (nI 3)) hx hb dL_setsBy_43 (by decide) ?_
          refine n_idiv (v := (nI (w0 / 3))) hx hb (nI_ne0 (by omega) (by omega)) (pk_div (by omega) (by omega) (by omega)) dL_setsBy_44 ?_
          refine lv_iload hx hb dL_setsBy_45 (lv_at hl 0 rfl) ?_
          refine n_irem (v := (nI ((w0 / 3) % (fulN (acT t i))))) hx hb (nI_ne0 (by omega) (by omega)) (pk_rem (by omega) (by omega) (by omega)) dL_setsBy_47 ?_
          refine n_iadd (v := (nI (1 + ((w0 / 3) % (fulN (acT t i)))))) hx hb (nI_add _ _) dL_setsBy_48 ?_
          refine lv_istore (lv' := [(6, .int (nI (1 + ((w0 / 3) % (fulN (acT t i)))))), (5, .int (nI (fulN (acT t i)))), (4, .int (nI i)), (3, .int (nI w0)), (2, .int (nI s0)), (0, .ref mq), (1, .int (nI y0))]) hx hb dL_setsBy_49 hl (by decide) rfl (fun ls hl => ?_)
          refine lv_iload_n hx hb dL_setsBy_51 rfl (lv_at hl 4 rfl) ?_
          refine lv_iload hx hb dL_setsBy_52 (lv_at hl 0 rfl) ?_
          refine lv_iconst (v := (nI 4)) hx hb dL_setsBy_54 (by decide) ?_
          refine lv_iload hx hb dL_setsBy_55 (lv_at hl 2 rfl) ?_
          refine n_imul (v := (nI (4 * i))) hx hb (pk_mul _ _) dL_setsBy_57 ?_
          refine n_ishl (v := (nI ((1 + ((w0 / 3) % (fulN (acT t i)))) <<< (4 * i)))) hx hb (nN_shl _ (by omega)) dL_setsBy_58 ?_
          refine n_ior (v := (nI (s0 ||| ((1 + ((w0 / 3) % (fulN (acT t i)))) <<< (4 * i))))) hx hb (nN_or _ _) dL_setsBy_59 ?_
          refine lv_istore_n (lv' := [(2, .int (nI (s0 ||| ((1 + ((w0 / 3) % (fulN (acT t i)))) <<< (4 * i))))), (6, .int (nI (1 + ((w0 / 3) % (fulN (acT t i)))))), (5, .int (nI (fulN (acT t i)))), (4, .int (nI i)), (3, .int (nI w0)), (0, .ref mq), (1, .int (nI y0))]) hx hb dL_setsBy_60 rfl hl (by decide) rfl (fun ls hl => ?_)
          refine lv_iload_n hx hb dL_setsBy_61 rfl (lv_at hl 4 rfl) ?_
          refine lv_bipush (v := (nI 47)) hx hb dL_setsBy_62 (by decide) ?_
          refine n_idiv (v := (nI (w0 / 47))) hx hb (nI_ne0 (by omega) (by omega)) (pk_div (by omega) (by omega) (by omega)) dL_setsBy_64 ?_
          refine lv_bipush (v := (nI 7)) hx hb dL_setsBy_65 (by decide) ?_
          refine lv_iload hx hb dL_setsBy_67 (lv_at hl 3 rfl) ?_
          refine n_imul (v := (nI (7 * i))) hx hb (pk_mul _ _) dL_setsBy_69 ?_
          refine n_iadd (v := (nI ((w0 / 47) + (7 * i)))) hx hb (nI_add _ _) dL_setsBy_70 ?_
          refine lv_istore_n (lv' := [(3, .int (nI ((w0 / 47) + (7 * i)))), (2, .int (nI (s0 ||| ((1 + ((w0 / 3) % (fulN (acT t i)))) <<< (4 * i))))), (6, .int (nI (1 + ((w0 / 3) % (fulN (acT t i)))))), (5, .int (nI (fulN (acT t i)))), (4, .int (nI i)), (0, .ref mq), (1, .int (nI y0))]) hx hb dL_setsBy_71 rfl hl (by decide) rfl (fun ls hl => ?_)
          refine lv_iinc (v := (nI (i + 1))) (lv' := [(4, .int (nI (i + 1))), (3, .int (nI ((w0 / 47) + (7 * i)))), (2, .int (nI (s0 ||| ((1 + ((w0 / 3) % (fulN (acT t i)))) <<< (4 * i))))), (6, .int (nI (1 + ((w0 / 3) % (fulN (acT t i)))))), (5, .int (nI (fulN (acT t i)))), (0, .ref mq), (1, .int (nI y0))]) hx hb dL_setsBy_72 hl (k := 4) rfl (nI_inc _) (by decide) rfl (fun ls hl => ?_)
          refine lv_goto (tgt := 7) hx hb dL_setsBy_75 (by decide) ?_
          exact ih7 (i + 1) (s0 ||| ((1 + ((w0 / 3) % (fulN (acT t i)))) <<< (4 * i))) ((w0 / 47) + (7 * i)) z1_22 (by omega) (by first | assumption | omega) (sbI_s hac9 hs (sb_set (l := w0 / 3) hac9 (by first | exact Or.inl rfl | exact Or.inr rfl))) (by first | assumption | omega) (by first | assumption | omega) _ _ hP hD hS _ (lv_sub hl [0, 1, 2, 5, 6] rfl)
        · refine lv_iload hx hb dL_setsBy_36 (lv_at hl 0 rfl) ?_
          refine lv_goto (tgt := 49) hx hb dL_setsBy_38 (by decide) ?_
          refine lv_istore (lv' := [(6, .int (nI (fulN (acT t i)))), (5, .int (nI (fulN (acT t i)))), (4, .int (nI i)), (3, .int (nI w0)), (2, .int (nI s0)), (0, .ref mq), (1, .int (nI y0))]) hx hb dL_setsBy_49 hl (by decide) rfl (fun ls hl => ?_)
          refine lv_iload_n hx hb dL_setsBy_51 rfl (lv_at hl 4 rfl) ?_
          refine lv_iload hx hb dL_setsBy_52 (lv_at hl 0 rfl) ?_
          refine lv_iconst (v := (nI 4)) hx hb dL_setsBy_54 (by decide) ?_
          refine lv_iload hx hb dL_setsBy_55 (lv_at hl 2 rfl) ?_
          refine n_imul (v := (nI (4 * i))) hx hb (pk_mul _ _) dL_setsBy_57 ?_
          refine n_ishl (v := (nI ((fulN (acT t i)) <<< (4 * i)))) hx hb (nN_shl _ (by omega)) dL_setsBy_58 ?_
          refine n_ior (v := (nI (s0 ||| ((fulN (acT t i)) <<< (4 * i))))) hx hb (nN_or _ _) dL_setsBy_59 ?_
          refine lv_istore_n (lv' := [(2, .int (nI (s0 ||| ((fulN (acT t i)) <<< (4 * i))))), (6, .int (nI (fulN (acT t i)))), (5, .int (nI (fulN (acT t i)))), (4, .int (nI i)), (3, .int (nI w0)), (0, .ref mq), (1, .int (nI y0))]) hx hb dL_setsBy_60 rfl hl (by decide) rfl (fun ls hl => ?_)
          refine lv_iload_n hx hb dL_setsBy_61 rfl (lv_at hl 4 rfl) ?_
          refine lv_bipush (v := (nI 47)) hx hb dL_setsBy_62 (by decide) ?_
          refine n_idiv (v := (nI (w0 / 47))) hx hb (nI_ne0 (by omega) (by omega)) (pk_div (by omega) (by omega) (by omega)) dL_setsBy_64 ?_
          refine lv_bipush (v := (nI 7)) hx hb dL_setsBy_65 (by decide) ?_
          refine lv_iload hx hb dL_setsBy_67 (lv_at hl 3 rfl) ?_
          refine n_imul (v := (nI (7 * i))) hx hb (pk_mul _ _) dL_setsBy_69 ?_
          refine n_iadd (v := (nI ((w0 / 47) + (7 * i)))) hx hb (nI_add _ _) dL_setsBy_70 ?_
          refine lv_istore_n (lv' := [(3, .int (nI ((w0 / 47) + (7 * i)))), (2, .int (nI (s0 ||| ((fulN (acT t i)) <<< (4 * i))))), (6, .int (nI (fulN (acT t i)))), (5, .int (nI (fulN (acT t i)))), (4, .int (nI i)), (0, .ref mq), (1, .int (nI y0))]) hx hb dL_setsBy_71 rfl hl (by decide) rfl (fun ls hl => ?_)
          refine lv_iinc (v := (nI (i + 1))) (lv' := [(4, .int (nI (i + 1))), (3, .int (nI ((w0 / 47) + (7 * i)))), (2, .int (nI (s0 ||| ((fulN (acT t i)) <<< (4 * i))))), (6, .int (nI (fulN (acT t i)))), (5, .int (nI (fulN (acT t i)))), (0, .ref mq), (1, .int (nI y0))]) hx hb dL_setsBy_72 hl (k := 4) rfl (nI_inc _) (by decide) rfl (fun ls hl => ?_)
          refine lv_goto (tgt := 7) hx hb dL_setsBy_75 (by decide) ?_
          exact ih7 (i + 1) (s0 ||| ((fulN (acT t i)) <<< (4 * i))) ((w0 / 47) + (7 * i)) z1_22 (by omega) (by first | assumption | omega) (sbI_s hac9 hs (sb_set (l := w0 / 3) hac9 (by first | exact Or.inl rfl | exact Or.inr rfl))) (by first | assumption | omega) (by first | assumption | omega) _ _ hP hD hS _ (lv_sub hl [0, 1, 2, 5, 6] rfl)
  exact L7 ((ccT t - 0) + 1) 0 0 y0 z (Nat.lt_succ_self _) (by first | assumption | omega) (sbI_0 t) (by first | assumption | omega) (by first | assumption | omega) _ _ hP hD hS _ (lv_sub hl [0, 1, 2, 3, 4] rfl)

set_option maxHeartbeats 4000000 in
set_option maxRecDepth 100000 in
theorem c_L_caseHolds (lQ : Launch) (D : va_G) (kA : Nat → ClassId) (adK adV : Nat → Nat) (mq : Nat) (q : Nat → Nat) (qc : Nat → Nat) (qp : Nat → Nat) (hq : Nat → Nat) (qs : Nat → Nat) (t : TCt) (cnt : Nat) (sv : Nat → TSt) (z : ZC) (x : SC9) (k : Nat) (sz : Nat) (hok : okT t) (hz : zOK t z) (hk : k < nCs t) : Met lQ yL_caseHolds wsL_caseHolds (rmN 7 154) (wrE_Pc D vwCl adK adV [.ref mq, .int (nI k)] (wA kA mq q qc qp hq qs t cnt sv z x) (tyK kA) sz) (va_Qi (S := ZC) (fun (r : Int32) (u : ZC) => r = (bI true) ∧ zOK t u) (wr_B D vwCl (wA kA mq q qc qp hq qs t cnt sv z x) (tyK kA) sz (fun u => (wA kA mq q qc qp hq qs t cnt sv u x))) (va_A (wA kA mq q qc qp hq qs t cnt sv z x) sz)) 0 0 (va_A (wA kA mq q qc qp hq qs t cnt sv z x) sz) := by
  refine Met.ofW (cc := cL_caseHolds) (maxL := 12) (ret := (some .boolean)) (by decide) rfl ?_
  intro pQ eQ s mQ args below meth cQ s₁ B hml hv
  obtain ⟨rfl, hsz, hP, hK, hD0, hE⟩ := hv
  have hx := B.exec
  have hb := B.bytes
  have hr := B.returns
  have hts := atoms_spec (ws := wsL_caseHolds) B.pre
  have hown : s.vm.findClass RL = some mQ.cls := findClass_of_methodNamed B.named
  have hlocks : meth.locks = false := B.notSynchronized
  have hS0 : CallFix pQ mQ cQ cL_caseHolds 12 s ([.ref mq, .int (nI k)] : List Value).toArray wsL_caseHolds RL := ⟨hx, hb, hml, hown, hts⟩
  subst hsz
  have hD := hD0.self (sz := s.heap.size)
  generalize hAe : va_A (wA kA mq q qc qp hq qs t cnt sv z x) s.heap.size = A at hD hE ⊢
  have hA : ∀ q : Nat, s.heap.size ≤ q → A q := fun q h => by rw [← hAe]; exact Or.inr h
  have hS : va_S A s.heap s.heap [] := va_S.rf
  skip
  have hl := lv_entry ([.ref mq, .int (nI k)]) (n := 12) (Nat.le_of_ble_eq_true rfl)
  rw [lg_entry_eq]
  generalize (lg_sl ([.ref mq, .int (nI k)]) ++ List.replicate (12 - (lg_sl ([.ref mq, .int (nI k)])).length) Slot.unset).toArray = ls at hl ⊢
  have hl : lv_has ls 12 [(0, .ref mq), (1, .int (nI k))] := hl
  have hP : va_P D vwCl (wA kA mq q qc qp hq qs t cnt sv z x) s.heap := hP
  have hD : va_D A (wA kA mq q qc qp hq qs t cnt sv z x) := hD
  obtain ⟨tP, hZP, hTP⟩ := hE.1
  have hcc := okT_cc hok
  have hrc := okT_rc hok
  have hnc := okT_nC hok
  refine lv_iconst (v := (nI 1)) hx hb dL_caseHolds_0 (by decide) ?_
  refine lv_istore_n (lv' := [(2, .int (nI 1)), (0, .ref mq), (1, .int (nI k))]) hx hb dL_caseHolds_1 rfl hl (by decide) rfl (fun ls hl => ?_)
  refine lv_iconst (v := (nI 0)) hx hb dL_caseHolds_2 (by decide) ?_
  refine lv_istore_n (lv' := [(3, .int (nI 0)), (2, .int (nI 1)), (0, .ref mq), (1, .int (nI k))]) hx hb dL_caseHolds_3 rfl hl (by decide) rfl (fun ls hl => ?_)
  refine lv_iconst (v := (nI 0)) hx hb dL_caseHolds_4 (by decide) ?_
  refine lv_istore (lv' := [(4, .int (nI 0)), (3, .int (nI 0)), (2, .int (nI 1)), (0, .ref mq), (1, .int (nI k))]) hx hb dL_caseHolds_5 hl (by decide) rfl (fun ls hl => ?_)
  have L7 : ∀ (nQ : Nat) (i : Nat) (sp : Nat) (sm : Nat) (zy : ZC), ccT t - i < nQ → (i ≤ ccT t) → (sp = prodF (acT t) i) → (sm = k % prodF (acT t) i) → (zOK t zy) → ∀ (H : Heap) (locs : List Loc), va_P D vwCl (wA kA mq q qc qp hq qs t cnt sv zy x) H → va_D A (wA kA mq q qc qp hq qs t cnt sv zy x) → va_S A s.heap H locs → ∀ (ls : Array Slot), lv_has ls 12 [(4, .int (nI i)), (3, .int (nI sm)), (2, .int (nI sp)), (0, .ref mq), (1, .int (nI k))] → W pQ lQ eQ (headSpec wsL_caseHolds (rmN 7 154)).room s mQ ([.ref mq, .int (nI k)] : List Value).toArray below meth cQ H locs 0 0 (MQ below (va_Qi (S := ZC) (fun (r : Int32) (u : ZC) => r = (bI true) ∧ zOK t u) (wr_B D vwCl (wA kA mq q qc qp hq qs t cnt sv z x) (tyK kA) s.heap.size (fun u => (wA kA mq q qc qp hq qs t cnt sv u x))) A) ([.ref mq, .int (nI k)] : List Value).toArray s 0 0 A) (F0 mQ 7 ls []) := by
    intro nQ
    induction nQ with
    | zero => intro i sp sm zy hn; exact absurd hn (Nat.not_lt_zero _)
    | succ nQ ih7 =>
      intro i sp sm zy hm7 hi hsp hsm hzy H locs hP hD hS ls hl
      refine lv_iload hx hb dL_caseHolds_7 (lv_at hl 0 rfl) ?_
      refine lv_aload_n hx hb dL_caseHolds_9 rfl (lv_at hl 3 rfl) ?_
      refine lv_iconst (v := (nI 0)) hx hb dL_caseHolds_10 (by decide) ?_
      refine n_wViE (b := mq) (As := [.int (nI 0)]) (rest := [.int (nI i)]) (wr := []) (ws' := fun u => (wA kA mq q qc qp hq qs t cnt sv u x)) hS0 (q_wh0 lQ D kA adK adV mq q qc qp hq qs t cnt sv zy x H.size (by first | assumption | omega) (by first | assumption | omega)) (cwV 1 hts gL_caseHolds_X5_whole rfl rfl rfl (by decide +kernel) ⟨Nat.le_of_ble_eq_true rfl, Nat.le_of_ble_eq_true rfl⟩) hP hD hS hE hA hK hK (by simpa only [List.append_assoc, List.append_nil] using (List.Perm.of_eq (List.append_nil _).symm)) (fun u => List.Perm.symm (by simpa only [List.append_assoc, List.append_nil] using (List.Perm.of_eq (List.append_nil _).symm))) (q0 := 0) rfl rfl rfl rfl rfl hl.1 (Nat.le_of_ble_eq_true rfl) dL_caseHolds_11 ⟨Nat.le_refl _, Nat.le_refl _⟩ (fun r11 u11 H locs h11 hP hD hS => ?_)
      obtain ⟨z1_11, rfl⟩ : ∃ z, z = u11 := ⟨_, rfl⟩
      obtain ⟨rfl, h11_1⟩ := h11
      have hP : va_P D vwCl (wA kA mq q qc qp hq qs t cnt sv z1_11 x) H := hP
      have hD : va_D A (wA kA mq q qc qp hq qs t cnt sv z1_11 x) := hD
      refine n_icmp_ge (a := i) (b := ccT t) (tgt := 45) hx hb (by omega) (by omega) dL_caseHolds_14 (by decide) (fun c14 => ?_) (fun c14 => ?_)
      · have e9 : i = ccT t := by omega
        have hsm9 : sm = k := by rw [hsm, e9]; exact Nat.mod_eq_of_lt hk
        refine lv_iconst (v := (nI 0)) hx hb dL_caseHolds_45 (by decide) ?_
        refine lv_istore (lv' := [(4, .int (nI 0)), (3, .int (nI sm)), (2, .int (nI sp)), (0, .ref mq), (1, .int (nI k))]) hx hb dL_caseHolds_46 hl (by decide) rfl (fun ls hl => ?_)
        refine lv_iconst (v := (oI none)) hx hb dL_caseHolds_48 (by decide) ?_
        refine lv_istore (lv' := [(5, .int (oI none)), (4, .int (nI 0)), (3, .int (nI sm)), (2, .int (nI sp)), (0, .ref mq), (1, .int (nI k))]) hx hb dL_caseHolds_49 hl (by decide) rfl (fun ls hl => ?_)
        refine lv_iconst (v := (oI none)) hx hb dL_caseHolds_51 (by decide) ?_
        refine lv_istore (lv' := [(6, .int (oI none)), (5, .int (oI none)), (4, .int (nI 0)), (3, .int (nI sm)), (2, .int (nI sp)), (0, .ref mq), (1, .int (nI k))]) hx hb dL_caseHolds_52 hl (by decide) rfl (fun ls hl => ?_)
        refine lv_iconst (v := (nI 0)) hx hb dL_caseHolds_54 (by decide) ?_
        refine lv_istore (lv' := [(7, .int (nI 0)), (6, .int (oI none)), (5, .int (oI none)), (4, .int (nI 0)), (3, .int (nI sm)), (2, .int (nI sp)), (0, .ref mq), (1, .int (nI k))]) hx hb dL_caseHolds_55 hl (by decide) rfl (fun ls hl => ?_)
        refine lv_iconst (v := (nI 0)) hx hb dL_caseHolds_57 (by decide) ?_
        refine lv_istore (lv' := [(8, .int (nI 0)), (7, .int (nI 0)), (6, .int (oI none)), (5, .int (oI none)), (4, .int (nI 0)), (3, .int (nI sm)), (2, .int (nI sp)), (0, .ref mq), (1, .int (nI k))]) hx hb dL_caseHolds_58 hl (by decide) rfl (fun ls hl => ?_)
        have L60 : ∀ (nQ : Nat) (p0 : Nat) (n : Nat) (fi : Option Nat) (se : Option Nat) (cf : Bool) (zy : ZC), rcT t - p0 < nQ → (p0 ≤ rcT t) → (n = cntB (tlT t k) p0) → (fi = nuT t (firstF (tlT t k) p0)) → (se = nuT t (secF (tlT t k) p0)) → (cf = cfB (tlT t k) (anT t) p0) → (zOK t zy) → ∀ (H : Heap) (locs : List Loc), va_P D vwCl (wA kA mq q qc qp hq qs t cnt sv zy x) H → va_D A (wA kA mq q qc qp hq qs t cnt sv zy x) → va_S A s.heap H locs → ∀ (ls : Array Slot), lv_has ls 12 [(8, .int (nI p0)), (7, .int (bI cf)), (6, .int (oI se)), (5, .int (oI fi)), (4, .int (nI n)), (3, .int (nI sm)), (2, .int (nI sp)), (0, .ref mq), (1, .int (nI k))] → W pQ lQ eQ (headSpec wsL_caseHolds (rmN 7 154)).room s mQ ([.ref mq, .int (nI k)] : List Value).toArray below meth cQ H locs 0 0 (MQ below (va_Qi (S := ZC) (fun (r : Int32) (u : ZC) => r = (bI true) ∧ zOK t u) (wr_B D vwCl (wA kA mq q qc qp hq qs t cnt sv z x) (tyK kA) s.heap.size (fun u => (wA kA mq q qc qp hq qs t cnt sv u x))) A) ([.ref mq, .int (nI k)] : List Value).toArray s 0 0 A) (F0 mQ 60 ls []) := by
          intro nQ
          induction nQ with
          | zero => intro p0 n fi se cf zy hn; exact absurd hn (Nat.not_lt_zero _)
          | succ nQ ih60 =>
            intro p0 n fi se cf zy hm60 hp0 hn hfi hse hcf hzy H locs hP hD hS ls hl
            refine lv_iload hx hb dL_caseHolds_60 (lv_at hl 0 rfl) ?_
            refine lv_aload_n hx hb dL_caseHolds_62 rfl (lv_at hl 7 rfl) ?_
            refine lv_iconst (v := (nI 2)) hx hb dL_caseHolds_63 (by decide) ?_
            refine n_wViE (b := mq) (As := [.int (nI 2)]) (rest := [.int (nI p0)]) (wr := []) (ws' := fun u => (wA kA mq q qc qp hq qs t cnt sv u x)) hS0 (q_wh2 lQ D kA adK adV mq q qc qp hq qs t cnt sv zy x H.size (by first | assumption | omega) (by first | assumption | omega)) (cwV 1 hts gL_caseHolds_X5_whole rfl rfl rfl (by decide +kernel) ⟨Nat.le_of_ble_eq_true rfl, Nat.le_of_ble_eq_true rfl⟩) hP hD hS hE hA hK hK (by simpa only [List.append_assoc, List.append_nil] using (List.Perm.of_eq (List.append_nil _).symm)) (fun u => List.Perm.symm (by simpa only [List.append_assoc, List.append_nil] using (List.Perm.of_eq (List.append_nil _).symm))) (q0 := 0) rfl rfl rfl rfl rfl hl.1 (Nat.le_of_ble_eq_true rfl) dL_caseHolds_64 ⟨Nat.le_refl _, Nat.le_refl _⟩ (fun r64 u64 H locs h64 hP hD hS => ?_)
            obtain ⟨z1_64, rfl⟩ : ∃ z, z = u64 := ⟨_, rfl⟩
            obtain ⟨rfl, h64_1⟩ := h64
            have hP : va_P D vwCl (wA kA mq q qc qp hq qs t cnt sv z1_64 x) H := hP
            have hD : va_D A (wA kA mq q qc qp hq qs t cnt sv z1_64 x) := hD
            refine n_icmp_ge (a := p0) (b := rcT t) (tgt := 208) hx hb (by omega) (by omega) dL_caseHolds_67 (by decide) (fun c67 => ?_) (fun c67 => ?_)
            · have e7 : p0 = rcT t := by omega
              rw [e7] at hn hfi hse hcf
              have hn7 : n ≤ 20 := by rw [hn]; exact Nat.le_trans (cntB_le _ _) hrc
              refine lv_iload_n hx hb dL_caseHolds_208 rfl (lv_at hl 5 rfl) ?_
              refine lv_iload_n hx hb dL_caseHolds_209 rfl (lv_at hl 8 rfl) ?_
              refine n_icmp_ne (a := sm) (b := k) (tgt := 269) hx hb (by rw [hsm9]; omega) (by omega) dL_caseHolds_210 (by decide) (fun c210 => ?_) (fun c210 => ?_)
              · exact absurd hsm9 c210
              · refine lv_aload_n hx hb dL_caseHolds_213 rfl (lv_at hl 7 rfl) ?_
                refine lv_iload_n hx hb dL_caseHolds_214 rfl (lv_at hl 8 rfl) ?_
                refine lv_iconst (v := (nI 0)) hx hb dL_caseHolds_215 (by decide) ?_
                refine n_wViE (b := mq) (As := [.int (nI k), .int (nI 0)]) (rest := []) (wr := []) (ws' := fun u => (wA kA mq q qc qp hq qs t cnt sv u x)) hS0 (q_ca0 lQ D kA adK adV mq q qc qp hq qs t cnt sv z1_64 x k H.size (by first | assumption | omega) (by first | assumption | omega) (by first | assumption | omega)) (cwV 2 hts gL_caseHolds_X5_caseOf rfl rfl rfl (by decide +kernel) ⟨Nat.le_of_ble_eq_true rfl, Nat.le_of_ble_eq_true rfl⟩) hP hD hS hE hA hK hK (by simpa only [List.append_assoc, List.append_nil] using (List.Perm.of_eq (List.append_nil _).symm)) (fun u => List.Perm.symm (by simpa only [List.append_assoc, List.append_nil] using (List.Perm.of_eq (List.append_nil _).symm))) (q0 := 0) rfl rfl rfl rfl rfl hl.1 (Nat.le_of_ble_eq_true rfl) dL_caseHolds_216 ⟨Nat.le_refl _, Nat.le_refl _⟩ (fun r216 u216 H locs h216 hP hD hS => ?_)
                obtain ⟨z1_216, rfl⟩ : ∃ z, z = u216 := ⟨_, rfl⟩
                obtain ⟨rfl, h216_1⟩ := h216
                have hP : va_P D vwCl (wA kA mq q qc qp hq qs t cnt sv z1_216 x) H := hP
                have hD : va_D A (wA kA mq q qc qp hq qs t cnt sv z1_216 x) := hD
                refine lv_iload hx hb dL_caseHolds_219 (lv_at hl 3 rfl) ?_
                refine lv_icmp_ne (tgt := 269) hx hb dL_caseHolds_221 (by decide) (fun c221 => ?_) (fun c221 => ?_)
                · exact absurd (congrArg oI hfi.symm) c221
                · refine lv_aload_n hx hb dL_caseHolds_224 rfl (lv_at hl 7 rfl) ?_
                  refine lv_iload_n hx hb dL_caseHolds_225 rfl (lv_at hl 8 rfl) ?_
                  refine lv_iconst (v := (nI 4)) hx hb dL_caseHolds_226 (by decide) ?_
                  refine n_wViE (b := mq) (As := [.int (nI k), .int (nI 4)]) (rest := []) (wr := []) (ws' := fun u => (wA kA mq q qc qp hq qs t cnt sv u x)) hS0 (q_ca4 lQ D kA adK adV mq q qc qp hq qs t cnt sv z1_216 x k H.size (by first | assumption | omega) (by first | assumption | omega) (by first | assumption | omega)) (cwV 2 hts gL_caseHolds_X5_caseOf rfl rfl rfl (by decide +kernel) ⟨Nat.le_of_ble_eq_true rfl, Nat.le_of_ble_eq_true rfl⟩) hP hD hS hE hA hK hK (by simpa only [List.append_assoc, List.append_nil] using (List.Perm.of_eq (List.append_nil _).symm)) (fun u => List.Perm.symm (by simpa only [List.append_assoc, List.append_nil] using (List.Perm.of_eq (List.append_nil _).symm))) (q0 := 0) rfl rfl rfl rfl rfl hl.1 (Nat.le_of_ble_eq_true rfl) dL_caseHolds_227 ⟨Nat.le_refl _, Nat.le_refl _⟩ (fun r227 u227 H locs h227 hP hD hS => ?_)
                  obtain ⟨z1_227, rfl⟩ : ∃ z, z = u227 := ⟨_, rfl⟩
                  obtain ⟨rfl, h227_1⟩ := h227
                  have hP : va_P D vwCl (wA kA mq q qc qp hq qs t cnt sv z1_227 x) H := hP
                  have hD : va_D A (wA kA mq q qc qp hq qs t cnt sv z1_227 x) := hD
                  refine lv_iload hx hb dL_caseHolds_230 (lv_at hl 2 rfl) ?_
                  refine lv_icmp_ne (tgt := 269) hx hb dL_caseHolds_232 (by decide) (fun c232 => ?_) (fun c232 => ?_)
                  · exact absurd (congrArg oI hse.symm) c232
                  · refine lv_aload_n hx hb dL_caseHolds_235 rfl (lv_at hl 7 rfl) ?_
                    refine lv_iload_n hx hb dL_caseHolds_236 rfl (lv_at hl 8 rfl) ?_
                    refine lv_iconst (v := (nI 2)) hx hb dL_caseHolds_237 (by decide) ?_
                    refine n_wViE (b := mq) (As := [.int (nI k), .int (nI 2)]) (rest := []) (wr := []) (ws' := fun u => (wA kA mq q qc qp hq qs t cnt sv u x)) hS0 (q_ca2 lQ D kA adK adV mq q qc qp hq qs t cnt sv z1_227 x k H.size (by first | assumption | omega) (by first | assumption | omega) (by first | assumption | omega)) (cwV 2 hts gL_caseHolds_X5_caseOf rfl rfl rfl (by decide +kernel) ⟨Nat.le_of_ble_eq_true rfl, Nat.le_of_ble_eq_true rfl⟩) hP hD hS hE hA hK hK (by simpa only [List.append_assoc, List.append_nil] using (List.Perm.of_eq (List.append_nil _).symm)) (fun u => List.Perm.symm (by simpa only [List.append_assoc, List.append_nil] using (List.Perm.of_eq (List.append_nil _).symm))) (q0 := 0) rfl rfl rfl rfl rfl hl.1 (Nat.le_of_ble_eq_true rfl) dL_caseHolds_238 ⟨Nat.le_refl _, Nat.le_refl _⟩ (fun r238 u238 H locs h238 hP hD hS => ?_)
                    obtain ⟨z1_238, rfl⟩ : ∃ z, z = u238 := ⟨_, rfl⟩
                    obtain ⟨rfl, h238_1⟩ := h238
                    have hP : va_P D vwCl (wA kA mq q qc qp hq qs t cnt sv z1_238 x) H := hP
                    have hD : va_D A (wA kA mq q qc qp hq qs t cnt sv z1_238 x) := hD
                    refine lv_iload hx hb dL_caseHolds_241 (lv_at hl 4 rfl) ?_
                    refine n_icmp_ne (a := ctT t k) (b := n) (tgt := 269) hx hb (by have := ct_le hok k; omega) (by omega) dL_caseHolds_243 (by decide) (fun c243 => ?_) (fun c243 => ?_)
                    · exact absurd hn.symm c243
                    · refine lv_aload_n hx hb dL_caseHolds_246 rfl (lv_at hl 7 rfl) ?_
                      refine lv_iload_n hx hb dL_caseHolds_247 rfl (lv_at hl 8 rfl) ?_
                      refine lv_iconst (v := (nI 3)) hx hb dL_caseHolds_248 (by decide) ?_
                      refine n_wViE (b := mq) (As := [.int (nI k), .int (nI 3)]) (rest := []) (wr := []) (ws' := fun u => (wA kA mq q qc qp hq qs t cnt sv u x)) hS0 (q_ca3 lQ D kA adK adV mq q qc qp hq qs t cnt sv z1_238 x k H.size (by first | assumption | omega) (by first | assumption | omega) (by first | assumption | omega)) (cwV 2 hts gL_caseHolds_X5_caseOf rfl rfl rfl (by decide +kernel) ⟨Nat.le_of_ble_eq_true rfl, Nat.le_of_ble_eq_true rfl⟩) hP hD hS hE hA hK hK (by simpa only [List.append_assoc, List.append_nil] using (List.Perm.of_eq (List.append_nil _).symm)) (fun u => List.Perm.symm (by simpa only [List.append_assoc, List.append_nil] using (List.Perm.of_eq (List.append_nil _).symm))) (q0 := 0) rfl rfl rfl rfl rfl hl.1 (Nat.le_of_ble_eq_true rfl) dL_caseHolds_249 ⟨Nat.le_refl _, Nat.le_refl _⟩ (fun r249 u249 H locs h249 hP hD hS => ?_)
                      obtain ⟨z1_249, rfl⟩ : ∃ z, z = u249 := ⟨_, rfl⟩
                      obtain ⟨rfl, h249_1⟩ := h249
                      have hP : va_P D vwCl (wA kA mq q qc qp hq qs t cnt sv z1_249 x) H := hP
                      have hD : va_D A (wA kA mq q qc qp hq qs t cnt sv z1_249 x) := hD
                      refine lv_iload hx hb dL_caseHolds_252 (lv_at hl 1 rfl) ?_
                      refine n_ifb_eq (b := cf) (tgt := 261) hx hb dL_caseHolds_254 (by decide) (fun c254 => ?_) (fun c254 => ?_)
                      · refine lv_iconst (v := (nI 0)) hx hb dL_caseHolds_261 (by decide) ?_
                        refine n_icmp_ne (a := b01 (cfT t k)) (b := 0) (tgt := 269) hx hb (Nat.lt_of_le_of_lt (b01_le _) (by decide)) (by decide) dL_caseHolds_262 (by decide) (fun c262 => ?_) (fun c262 => ?_)
                        · exact absurd (by rw [show cfT t k = cf from hcf.symm, c254]; rfl) c262
                        · refine lv_iconst (v := (nI 1)) hx hb dL_caseHolds_265 (by decide) ?_
                          refine lv_goto (tgt := 270) hx hb dL_caseHolds_266 (by decide) ?_
                          refine lv_istore (lv' := [(8, .int (nI 1)), (7, .int (bI cf)), (6, .int (oI se)), (5, .int (oI fi)), (4, .int (nI n)), (3, .int (nI sm)), (2, .int (nI sp)), (0, .ref mq), (1, .int (nI k))]) hx hb dL_caseHolds_270 hl (by decide) rfl (fun ls hl => ?_)
                          refine lv_iload hx hb dL_caseHolds_272 (lv_at hl 0 rfl) ?_
                          refine lv_if_eq (tgt := 307) hx hb dL_caseHolds_274 (by decide) (fun h => absurd h (by decide)) (fun _ => ?_)
                          refine lv_aload_n hx hb dL_caseHolds_277 rfl (lv_at hl 7 rfl) ?_
                          refine lv_iload_n hx hb dL_caseHolds_278 rfl (lv_at hl 8 rfl) ?_
                          refine lv_iconst (v := (nI 1)) hx hb dL_caseHolds_279 (by decide) ?_
                          refine n_wViE (b := mq) (As := [.int (nI k), .int (nI 1)]) (rest := []) (wr := []) (ws' := fun u => (wA kA mq q qc qp hq qs t cnt sv u x)) hS0 (q_ca1 lQ D kA adK adV mq q qc qp hq qs t cnt sv z1_249 x k H.size (by first | assumption | omega) (by first | assumption | omega) (by first | assumption | omega)) (cwV 2 hts gL_caseHolds_X5_caseOf rfl rfl rfl (by decide +kernel) ⟨Nat.le_of_ble_eq_true rfl, Nat.le_of_ble_eq_true rfl⟩) hP hD hS hE hA hK hK (by simpa only [List.append_assoc, List.append_nil] using (List.Perm.of_eq (List.append_nil _).symm)) (fun u => List.Perm.symm (by simpa only [List.append_assoc, List.append_nil] using (List.Perm.of_eq (List.append_nil _).symm))) (q0 := 0) rfl rfl rfl rfl rfl hl.1 (Nat.le_of_ble_eq_true rfl) dL_caseHolds_280 ⟨Nat.le_refl _, Nat.le_refl _⟩ (fun r280 u280 H locs h280 hP hD hS => ?_)
                          obtain ⟨z1_280, rfl⟩ : ∃ z, z = u280 := ⟨_, rfl⟩
                          obtain ⟨rfl, h280_1⟩ := h280
                          have hP : va_P D vwCl (wA kA mq q qc qp hq qs t cnt sv z1_280 x) H := hP
                          have hD : va_D A (wA kA mq q qc qp hq qs t cnt sv z1_280 x) := hD
                          refine lv_iload hx hb dL_caseHolds_283 (lv_at hl 3 rfl) ?_
                          refine n_ifo_ge (o := fi) (tgt := 293) hx hb (fun q h => Nat.lt_trans (nu_b hok q (hfi.symm.trans h)) (by decide)) dL_caseHolds_285 (by decide) (fun q285 c285 => ?_) (fun c285 => ?_)
                          · have hl : lv_has ls 12 [(8, .int (nI 1)), (7, .int (bI cf)), (6, .int (oI se)), (5, .int (nI q285)), (4, .int (nI n)), (3, .int (nI sm)), (2, .int (nI sp)), (0, .ref mq), (1, .int (nI k))] := by rw [c285] at hl; exact hl
                            obtain ⟨p9, hp9, hp8, hp7⟩ := fi_num (hfi.symm.trans c285)
                            refine lv_aload_n hx hb dL_caseHolds_293 rfl (lv_at hl 7 rfl) ?_
                            refine lv_iload hx hb dL_caseHolds_294 (lv_at hl 3 rfl) ?_
                            refine lv_iconst (v := (nI 1)) hx hb dL_caseHolds_296 (by decide) ?_
                            refine n_wViE (b := mq) (As := [.int (nI q285), .int (nI 1)]) (rest := [.int (nI (axT t k))]) (wr := []) (ws' := fun u => (wA kA mq q qc qp hq qs t cnt sv u x)) hS0 (q_row1 lQ D kA adK adV mq q qc qp hq qs t cnt sv z1_280 x q285 p9 H.size (by first | assumption | omega) (by first | assumption | omega) (by first | assumption | omega) hp7) (cwV 2 hts gL_caseHolds_X5_row rfl rfl rfl (by decide +kernel) ⟨Nat.le_of_ble_eq_true rfl, Nat.le_of_ble_eq_true rfl⟩) hP hD hS hE hA hK hK (by simpa only [List.append_assoc, List.append_nil] using (List.Perm.of_eq (List.append_nil _).symm)) (fun u => List.Perm.symm (by simpa only [List.append_assoc, List.append_nil] using (List.Perm.of_eq (List.append_nil _).symm))) (q0 := 0) rfl rfl rfl rfl rfl hl.1 (Nat.le_of_ble_eq_true rfl) dL_caseHolds_297 ⟨Nat.le_refl _, Nat.le_refl _⟩ (fun r297 u297 H locs h297 hP hD hS => ?_)
                            obtain ⟨z1_297, rfl⟩ : ∃ z, z = u297 := ⟨_, rfl⟩
                            obtain ⟨rfl, h297_1⟩ := h297
                            have hP : va_P D vwCl (wA kA mq q qc qp hq qs t cnt sv z1_297 x) H := hP
                            have hD : va_D A (wA kA mq q qc qp hq qs t cnt sv z1_297 x) := hD
                            refine n_icmp_ne (a := axT t k) (b := anT t p9) (tgt := 307) hx hb (Nat.lt_trans (okT_ax hok k) (by decide)) (by first | decide | (have := okT_an hok p9 hp8; omega)) dL_caseHolds_300 (by decide) (fun c300 => ?_) (fun c300 => ?_)
                            · exact absurd (by first | exact ax_of (hfi.symm.trans c285) | (show actO (anT t) (fiT t k) = _; rw [hp9]; rfl)) c300
                            · refine lv_iconst (v := (nI 1)) hx hb dL_caseHolds_303 (by decide) ?_
                              refine lv_goto (tgt := 308) hx hb dL_caseHolds_304 (by decide) ?_
                              exact n_wretz hx hb hr hlocks (post := fun (r : Int32) (u : ZC) => r = (bI true) ∧ zOK t u) (w1 := fun u => (wA kA mq q qc qp hq qs t cnt sv u x)) rfl z1_297 ⟨rfl, by assumption⟩ hP hD hK hS hAe dL_caseHolds_308
                          · have hl : lv_has ls 12 [(8, .int (nI 1)), (7, .int (bI cf)), (6, .int (oI se)), (5, .int (oI none)), (4, .int (nI n)), (3, .int (nI sm)), (2, .int (nI sp)), (0, .ref mq), (1, .int (nI k))] := by rw [c285] at hl; exact hl
                            refine lv_bipush (v := (nI 10)) hx hb dL_caseHolds_288 (by decide) ?_
                            refine lv_goto (tgt := 300) hx hb dL_caseHolds_290 (by decide) ?_
                            refine n_icmp_ne (a := axT t k) (b := 10) (tgt := 307) hx hb (Nat.lt_trans (okT_ax hok k) (by decide)) (by first | decide | (have := okT_an hok p9 hp8; omega)) dL_caseHolds_300 (by decide) (fun c300 => ?_) (fun c300 => ?_)
                            · exact absurd (by first | exact ax_of (hfi.symm.trans c285) | (show actO (anT t) (fiT t k) = _; rw [hp9]; rfl)) c300
                            · refine lv_iconst (v := (nI 1)) hx hb dL_caseHolds_303 (by decide) ?_
                              refine lv_goto (tgt := 308) hx hb dL_caseHolds_304 (by decide) ?_
                              exact n_wretz hx hb hr hlocks (post := fun (r : Int32) (u : ZC) => r = (bI true) ∧ zOK t u) (w1 := fun u => (wA kA mq q qc qp hq qs t cnt sv u x)) rfl z1_280 ⟨rfl, by assumption⟩ hP hD hK hS hAe dL_caseHolds_308
                      · refine lv_iconst (v := (nI 1)) hx hb dL_caseHolds_257 (by decide) ?_
                        refine lv_goto (tgt := 262) hx hb dL_caseHolds_258 (by decide) ?_
                        refine n_icmp_ne (a := b01 (cfT t k)) (b := 1) (tgt := 269) hx hb (Nat.lt_of_le_of_lt (b01_le _) (by decide)) (by decide) dL_caseHolds_262 (by decide) (fun c262 => ?_) (fun c262 => ?_)
                        · exact absurd (by rw [show cfT t k = cf from hcf.symm, c254]; rfl) c262
                        · refine lv_iconst (v := (nI 1)) hx hb dL_caseHolds_265 (by decide) ?_
                          refine lv_goto (tgt := 270) hx hb dL_caseHolds_266 (by decide) ?_
                          refine lv_istore (lv' := [(8, .int (nI 1)), (7, .int (bI cf)), (6, .int (oI se)), (5, .int (oI fi)), (4, .int (nI n)), (3, .int (nI sm)), (2, .int (nI sp)), (0, .ref mq), (1, .int (nI k))]) hx hb dL_caseHolds_270 hl (by decide) rfl (fun ls hl => ?_)
                          refine lv_iload hx hb dL_caseHolds_272 (lv_at hl 0 rfl) ?_
                          refine lv_if_eq (tgt := 307) hx hb dL_caseHolds_274 (by decide) (fun h => absurd h (by decide)) (fun _ => ?_)
                          refine lv_aload_n hx hb dL_caseHolds_277 rfl (lv_at hl 7 rfl) ?_
                          refine lv_iload_n hx hb dL_caseHolds_278 rfl (lv_at hl 8 rfl) ?_
                          refine lv_iconst (v := (nI 1)) hx hb dL_caseHolds_279 (by decide) ?_
                          refine n_wViE (b := mq) (As := [.int (nI k), .int (nI 1)]) (rest := []) (wr := []) (ws' := fun u => (wA kA mq q qc qp hq qs t cnt sv u x)) hS0 (q_ca1 lQ D kA adK adV mq q qc qp hq qs t cnt sv z1_249 x k H.size (by first | assumption | omega) (by first | assumption | omega) (by first | assumption | omega)) (cwV 2 hts gL_caseHolds_X5_caseOf rfl rfl rfl (by decide +kernel) ⟨Nat.le_of_ble_eq_true rfl, Nat.le_of_ble_eq_true rfl⟩) hP hD hS hE hA hK hK (by simpa only [List.append_assoc, List.append_nil] using (List.Perm.of_eq (List.append_nil _).symm)) (fun u => List.Perm.symm (by simpa only [List.append_assoc, List.append_nil] using (List.Perm.of_eq (List.append_nil _).symm))) (q0 := 0) rfl rfl rfl rfl rfl hl.1 (Nat.le_of_ble_eq_true rfl) dL_caseHolds_280 ⟨Nat.le_refl _, Nat.le_refl _⟩ (fun r280 u280 H locs h280 hP hD hS => ?_)
                          obtain ⟨z1_280, rfl⟩ : ∃ z, z = u280 := ⟨_, rfl⟩
                          obtain ⟨rfl, h280_1⟩ := h280
                          have hP : va_P D vwCl (wA kA mq q qc qp hq qs t cnt sv z1_280 x) H := hP
                          have hD : va_D A (wA kA mq q qc qp hq qs t cnt sv z1_280 x) := hD
                          refine lv_iload hx hb dL_caseHolds_283 (lv_at hl 3 rfl) ?_
                          refine n_ifo_ge (o := fi) (tgt := 293) hx hb (fun q h => Nat.lt_trans (nu_b hok q (hfi.symm.trans h)) (by decide)) dL_caseHolds_285 (by decide) (fun q285 c285 => ?_) (fun c285 => ?_)
                          · have hl : lv_has ls 12 [(8, .int (nI 1)), (7, .int (bI cf)), (6, .int (oI se)), (5, .int (nI q285)), (4, .int (nI n)), (3, .int (nI sm)), (2, .int (nI sp)), (0, .ref mq), (1, .int (nI k))] := by rw [c285] at hl; exact hl
                            obtain ⟨p9, hp9, hp8, hp7⟩ := fi_num (hfi.symm.trans c285)
                            refine lv_aload_n hx hb dL_caseHolds_293 rfl (lv_at hl 7 rfl) ?_
                            refine lv_iload hx hb dL_caseHolds_294 (lv_at hl 3 rfl) ?_
                            refine lv_iconst (v := (nI 1)) hx hb dL_caseHolds_296 (by decide) ?_
                            refine n_wViE (b := mq) (As := [.int (nI q285), .int (nI 1)]) (rest := [.int (nI (axT t k))]) (wr := []) (ws' := fun u => (wA kA mq q qc qp hq qs t cnt sv u x)) hS0 (q_row1 lQ D kA adK adV mq q qc qp hq qs t cnt sv z1_280 x q285 p9 H.size (by first | assumption | omega) (by first | assumption | omega) (by first | assumption | omega) hp7) (cwV 2 hts gL_caseHolds_X5_row rfl rfl rfl (by decide +kernel) ⟨Nat.le_of_ble_eq_true rfl, Nat.le_of_ble_eq_true rfl⟩) hP hD hS hE hA hK hK (by simpa only [List.append_assoc, List.append_nil] using (List.Perm.of_eq (List.append_nil _).symm)) (fun u => List.Perm.symm (by simpa only [List.append_assoc, List.append_nil] using (List.Perm.of_eq (List.append_nil _).symm))) (q0 := 0) rfl rfl rfl rfl rfl hl.1 (Nat.le_of_ble_eq_true rfl) dL_caseHolds_297 ⟨Nat.le_refl _, Nat.le_refl _⟩ (fun r297 u297 H locs h297 hP hD hS => ?_)
                            obtain ⟨z1_297, rfl⟩ : ∃ z, z = u297 := ⟨_, rfl⟩
                            obtain ⟨rfl, h297_1⟩ := h297
                            have hP : va_P D vwCl (wA kA mq q qc qp hq qs t cnt sv z1_297 x) H := hP
                            have hD : va_D A (wA kA mq q qc qp hq qs t cnt sv z1_297 x) := hD
                            refine n_icmp_ne (a := axT t k) (b := anT t p9) (tgt := 307) hx hb (Nat.lt_trans (okT_ax hok k) (by decide)) (by first | decide | (have := okT_an hok p9 hp8; omega)) dL_caseHolds_300 (by decide) (fun c300 => ?_) (fun c300 => ?_)
                            · exact absurd (by first | exact ax_of (hfi.symm.trans c285) | (show actO (anT t) (fiT t k) = _; rw [hp9]; rfl)) c300
                            · refine lv_iconst (v := (nI 1)) hx hb dL_caseHolds_303 (by decide) ?_
                              refine lv_goto (tgt := 308) hx hb dL_caseHolds_304 (by decide) ?_
                              exact n_wretz hx hb hr hlocks (post := fun (r : Int32) (u : ZC) => r = (bI true) ∧ zOK t u) (w1 := fun u => (wA kA mq q qc qp hq qs t cnt sv u x)) rfl z1_297 ⟨rfl, by assumption⟩ hP hD hK hS hAe dL_caseHolds_308
                          · have hl : lv_has ls 12 [(8, .int (nI 1)), (7, .int (bI cf)), (6, .int (oI se)), (5, .int (oI none)), (4, .int (nI n)), (3, .int (nI sm)), (2, .int (nI sp)), (0, .ref mq), (1, .int (nI k))] := by rw [c285] at hl; exact hl
                            refine lv_bipush (v := (nI 10)) hx hb dL_caseHolds_288 (by decide) ?_
                            refine lv_goto (tgt := 300) hx hb dL_caseHolds_290 (by decide) ?_
                            refine n_icmp_ne (a := axT t k) (b := 10) (tgt := 307) hx hb (Nat.lt_trans (okT_ax hok k) (by decide)) (by first | decide | (have := okT_an hok p9 hp8; omega)) dL_caseHolds_300 (by decide) (fun c300 => ?_) (fun c300 => ?_)
                            · exact absurd (by first | exact ax_of (hfi.symm.trans c285) | (show actO (anT t) (fiT t k) = _; rw [hp9]; rfl)) c300
                            · refine lv_iconst (v := (nI 1)) hx hb dL_caseHolds_303 (by decide) ?_
                              refine lv_goto (tgt := 308) hx hb dL_caseHolds_304 (by decide) ?_
                              exact n_wretz hx hb hr hlocks (post := fun (r : Int32) (u : ZC) => r = (bI true) ∧ zOK t u) (w1 := fun u => (wA kA mq q qc qp hq qs t cnt sv u x)) rfl z1_280 ⟨rfl, by assumption⟩ hP hD hK hS hAe dL_caseHolds_308
            · have hn8 : n ≤ p0 := by rw [hn]; exact cntB_le _ _
              refine lv_aload_n hx hb dL_caseHolds_70 rfl (lv_at hl 7 rfl) ?_
              refine lv_iload hx hb dL_caseHolds_71 (lv_at hl 0 rfl) ?_
              refine n_wViE (b := mq) (As := [.int (nI p0)]) (rest := []) (wr := []) (ws' := fun u => (wA kA mq q qc qp hq qs t cnt sv u x)) hS0 (q_ra lQ D kA adK adV mq q qc qp hq qs t cnt sv z1_64 x p0 H.size (by first | assumption | omega) (by first | assumption | omega) (by first | assumption | omega)) (cwV 1 hts gL_caseHolds_X5_rowAt rfl rfl rfl (by decide +kernel) ⟨Nat.le_of_ble_eq_true rfl, Nat.le_of_ble_eq_true rfl⟩) hP hD hS hE hA hK hK (by simpa only [List.append_assoc, List.append_nil] using (List.Perm.of_eq (List.append_nil _).symm)) (fun u => List.Perm.symm (by simpa only [List.append_assoc, List.append_nil] using (List.Perm.of_eq (List.append_nil _).symm))) (q0 := 0) rfl rfl rfl rfl rfl hl.1 (Nat.le_of_ble_eq_true rfl) dL_caseHolds_73 ⟨Nat.le_refl _, Nat.le_refl _⟩ (fun r73 u73 H locs h73 hP hD hS => ?_)
              obtain ⟨z1_73, rfl⟩ : ∃ z, z = u73 := ⟨_, rfl⟩
              obtain ⟨rfl, h73_1⟩ := h73
              have hP : va_P D vwCl (wA kA mq q qc qp hq qs t cnt sv z1_73 x) H := hP
              have hD : va_D A (wA kA mq q qc qp hq qs t cnt sv z1_73 x) := hD
              refine lv_istore (lv' := [(9, .int (nI (nmT t p0))), (8, .int (nI p0)), (7, .int (bI cf)), (6, .int (oI se)), (5, .int (oI fi)), (4, .int (nI n)), (3, .int (nI sm)), (2, .int (nI sp)), (0, .ref mq), (1, .int (nI k))]) hx hb dL_caseHolds_76 hl (by decide) rfl (fun ls hl => ?_)
              refine lv_iconst (v := (nI 1)) hx hb dL_caseHolds_78 (by decide) ?_
              refine lv_istore (lv' := [(10, .int (nI 1)), (9, .int (nI (nmT t p0))), (8, .int (nI p0)), (7, .int (bI cf)), (6, .int (oI se)), (5, .int (oI fi)), (4, .int (nI n)), (3, .int (nI sm)), (2, .int (nI sp)), (0, .ref mq), (1, .int (nI k))]) hx hb dL_caseHolds_79 hl (by decide) rfl (fun ls hl => ?_)
              refine lv_iconst (v := (nI 0)) hx hb dL_caseHolds_81 (by decide) ?_
              refine lv_istore (lv' := [(11, .int (nI 0)), (10, .int (nI 1)), (9, .int (nI (nmT t p0))), (8, .int (nI p0)), (7, .int (bI cf)), (6, .int (oI se)), (5, .int (oI fi)), (4, .int (nI n)), (3, .int (nI sm)), (2, .int (nI sp)), (0, .ref mq), (1, .int (nI k))]) hx hb dL_caseHolds_82 hl (by decide) rfl (fun ls hl => ?_)
              have L84 : ∀ (nQ : Nat) (i0 : Nat) (tb : Bool) (zw : ZC), ccT t - i0 < nQ → (i0 ≤ ccT t) → (tb = telB t k p0 i0) → (zOK t zw) → ∀ (H : Heap) (locs : List Loc), va_P D vwCl (wA kA mq q qc qp hq qs t cnt sv zw x) H → va_D A (wA kA mq q qc qp hq qs t cnt sv zw x) → va_S A s.heap H locs → ∀ (ls : Array Slot), lv_has ls 12 [(11, .int (nI i0)), (10, .int (bI tb)), (9, .int (nI (nmT t p0))), (8, .int (nI p0)), (7, .int (bI cf)), (6, .int (oI se)), (5, .int (oI fi)), (4, .int (nI n)), (3, .int (nI sm)), (2, .int (nI sp)), (0, .ref mq), (1, .int (nI k))] → W pQ lQ eQ (headSpec wsL_caseHolds (rmN 7 154)).room s mQ ([.ref mq, .int (nI k)] : List Value).toArray below meth cQ H locs 0 0 (MQ below (va_Qi (S := ZC) (fun (r : Int32) (u : ZC) => r = (bI true) ∧ zOK t u) (wr_B D vwCl (wA kA mq q qc qp hq qs t cnt sv z x) (tyK kA) s.heap.size (fun u => (wA kA mq q qc qp hq qs t cnt sv u x))) A) ([.ref mq, .int (nI k)] : List Value).toArray s 0 0 A) (F0 mQ 84 ls []) := by
                intro nQ
                induction nQ with
                | zero => intro i0 tb zw hn; exact absurd hn (Nat.not_lt_zero _)
                | succ nQ ih84 =>
                  intro i0 tb zw hm84 hi0 htb hzw H locs hP hD hS ls hl
                  refine lv_iload hx hb dL_caseHolds_84 (lv_at hl 0 rfl) ?_
                  refine lv_aload_n hx hb dL_caseHolds_86 rfl (lv_at hl 10 rfl) ?_
                  refine lv_iconst (v := (nI 0)) hx hb dL_caseHolds_87 (by decide) ?_
                  refine n_wViE (b := mq) (As := [.int (nI 0)]) (rest := [.int (nI i0)]) (wr := []) (ws' := fun u => (wA kA mq q qc qp hq qs t cnt sv u x)) hS0 (q_wh0 lQ D kA adK adV mq q qc qp hq qs t cnt sv zw x H.size (by first | assumption | omega) (by first | assumption | omega)) (cwV 1 hts gL_caseHolds_X5_whole rfl rfl rfl (by decide +kernel) ⟨Nat.le_of_ble_eq_true rfl, Nat.le_of_ble_eq_true rfl⟩) hP hD hS hE hA hK hK (by simpa only [List.append_assoc, List.append_nil] using (List.Perm.of_eq (List.append_nil _).symm)) (fun u => List.Perm.symm (by simpa only [List.append_assoc, List.append_nil] using (List.Perm.of_eq (List.append_nil _).symm))) (q0 := 0) rfl rfl rfl rfl rfl hl.1 (Nat.le_of_ble_eq_true rfl) dL_caseHolds_88 ⟨Nat.le_refl _, Nat.le_refl _⟩ (fun r88 u88 H locs h88 hP hD hS => ?_)
                  obtain ⟨z1_88, rfl⟩ : ∃ z, z = u88 := ⟨_, rfl⟩
                  obtain ⟨rfl, h88_1⟩ := h88
                  have hP : va_P D vwCl (wA kA mq q qc qp hq qs t cnt sv z1_88 x) H := hP
                  have hD : va_D A (wA kA mq q qc qp hq qs t cnt sv z1_88 x) := hD
                  refine n_icmp_ge (a := i0) (b := ccT t) (tgt := 133) hx hb (by omega) (by omega) dL_caseHolds_91 (by decide) (fun c91 => ?_) (fun c91 => ?_)
                  · have e8 : i0 = ccT t := by omega
                    rw [e8, telB_T hok] at htb
                    refine lv_iload hx hb dL_caseHolds_133 (lv_at hl 1 rfl) ?_
                    refine n_ifb_ne (b := tb) (tgt := 141) hx hb dL_caseHolds_135 (by decide) (fun c135 => ?_) (fun c135 => ?_)
                    · have hf := htb.symm.trans c135
                      refine lv_iload hx hb dL_caseHolds_141 (lv_at hl 7 rfl) ?_
                      refine n_if_ne (a := n) (tgt := 151) hx hb (by omega) dL_caseHolds_143 (by decide) (fun c143 => ?_) (fun c143 => ?_)
                      · obtain ⟨q9, hq9, hq8⟩ := fi_ex (show 0 < cntB (tlT t k) p0 by rw [← hn]; exact c143)
                        have hfi9 : fi = some (nmT t q9) := by rw [hfi, hq9]; exact nu_some (by omega)
                        refine lv_iload hx hb dL_caseHolds_151 (lv_at hl 6 rfl) ?_
                        refine lv_istore (lv' := [(5, .int (oI fi)), (11, .int (nI i0)), (10, .int (bI tb)), (9, .int (nI (nmT t p0))), (8, .int (nI p0)), (7, .int (bI cf)), (6, .int (oI se)), (4, .int (nI n)), (3, .int (nI sm)), (2, .int (nI sp)), (0, .ref mq), (1, .int (nI k))]) hx hb dL_caseHolds_153 hl (by decide) rfl (fun ls hl => ?_)
                        refine lv_iload hx hb dL_caseHolds_155 (lv_at hl 7 rfl) ?_
                        refine lv_iconst (v := (nI 1)) hx hb dL_caseHolds_157 (by decide) ?_
                        refine n_icmp_ne (a := n) (b := 1) (tgt := 166) hx hb (by omega) (by omega) dL_caseHolds_158 (by decide) (fun c158 => ?_) (fun c158 => ?_)
                        · refine lv_iload hx hb dL_caseHolds_166 (lv_at hl 6 rfl) ?_
                          refine lv_istore (lv' := [(6, .int (oI se)), (5, .int (oI fi)), (11, .int (nI i0)), (10, .int (bI tb)), (9, .int (nI (nmT t p0))), (8, .int (nI p0)), (7, .int (bI cf)), (4, .int (nI n)), (3, .int (nI sm)), (2, .int (nI sp)), (0, .ref mq), (1, .int (nI k))]) hx hb dL_caseHolds_168 hl (by decide) rfl (fun ls hl => ?_)
                          refine lv_iload hx hb dL_caseHolds_170 (lv_at hl 6 rfl) ?_
                          refine n_ifb_ne (b := cf) (tgt := 192) hx hb dL_caseHolds_172 (by decide) (fun c172 => ?_) (fun c172 => ?_)
                          · refine lv_iconst (v := (nI 1)) hx hb dL_caseHolds_192 (by decide) ?_
                            refine lv_goto (tgt := 197) hx hb dL_caseHolds_193 (by decide) ?_
                            refine lv_istore (lv' := [(7, .int (nI 1)), (6, .int (oI se)), (5, .int (oI fi)), (11, .int (nI i0)), (10, .int (bI tb)), (9, .int (nI (nmT t p0))), (8, .int (nI p0)), (4, .int (nI n)), (3, .int (nI sm)), (2, .int (nI sp)), (0, .ref mq), (1, .int (nI k))]) hx hb dL_caseHolds_197 hl (by decide) rfl (fun ls hl => ?_)
                            refine lv_iinc (v := (nI (n + 1))) (lv' := [(4, .int (nI (n + 1))), (7, .int (nI 1)), (6, .int (oI se)), (5, .int (oI fi)), (11, .int (nI i0)), (10, .int (bI tb)), (9, .int (nI (nmT t p0))), (8, .int (nI p0)), (3, .int (nI sm)), (2, .int (nI sp)), (0, .ref mq), (1, .int (nI k))]) hx hb dL_caseHolds_199 hl (k := 7) rfl (nI_inc _) (by decide) rfl (fun ls hl => ?_)
                            refine lv_iinc (v := (nI (p0 + 1))) (lv' := [(8, .int (nI (p0 + 1))), (4, .int (nI (n + 1))), (7, .int (nI 1)), (6, .int (oI se)), (5, .int (oI fi)), (11, .int (nI i0)), (10, .int (bI tb)), (9, .int (nI (nmT t p0))), (3, .int (nI sm)), (2, .int (nI sp)), (0, .ref mq), (1, .int (nI k))]) hx hb dL_caseHolds_202 hl (k := 7) rfl (nI_inc _) (by decide) rfl (fun ls hl => ?_)
                            refine lv_goto (tgt := 60) hx hb dL_caseHolds_205 (by decide) ?_
                            exact ih60 (p0 + 1) (n + 1) fi se true z1_88 (by omega) (by first | assumption | omega) (by first | (rw [cntB_st hf, ← hn]; done) | (rw [cntB_sf hf, ← hn])) (by first | (rw [fs_skip hf]; exact hfi) | (rw [fs_none hq0, if_pos hf]; exact (nu_some (by omega)).symm) | (rw [fs_some hq9, ← hq9]; exact hfi)) (by first | (rw [se_skip hf]; exact hse) | (rw [se_not (by rw [← hn]; exact c158)]; exact hse) | (rw [se_one hf (by rw [← hn]; exact c158)]; exact (nu_some (by omega)).symm)) (by first | (rw [cf_skip hf]; exact hcf) | exact (cf_true (hcf.symm.trans c172)).symm | (rw [cf_none hq0]; exact c172.symm.trans hcf) | (rw [cf_some hf hq9, ← hcf, c172, decide_eq_false (fun h => h c189)]; rfl) | (rw [cf_some hf hq9, ← hcf, c172, decide_eq_true c189]; rfl)) (by first | assumption | omega) _ _ hP hD hS _ (lv_sub hl [0, 2, 3, 4, 1, 8, 9, 10, 11] rfl)
                          · refine lv_aload_n hx hb dL_caseHolds_175 rfl (lv_at hl 10 rfl) ?_
                            refine lv_iload hx hb dL_caseHolds_176 (lv_at hl 4 rfl) ?_
                            refine lv_iconst (v := (nI 1)) hx hb dL_caseHolds_178 (by decide) ?_
                            refine n_wViE (b := mq) (As := [.int (nI (nmT t p0)), .int (nI 1)]) (rest := []) (wr := []) (ws' := fun u => (wA kA mq q qc qp hq qs t cnt sv u x)) hS0 (q_row1 lQ D kA adK adV mq q qc qp hq qs t cnt sv z1_88 x (nmT t p0) p0 H.size (by first | assumption | omega) (by first | assumption | omega) (by first | assumption | omega) rfl) (cwV 2 hts gL_caseHolds_X5_row rfl rfl rfl (by decide +kernel) ⟨Nat.le_of_ble_eq_true rfl, Nat.le_of_ble_eq_true rfl⟩) hP hD hS hE hA hK hK (by simpa only [List.append_assoc, List.append_nil] using (List.Perm.of_eq (List.append_nil _).symm)) (fun u => List.Perm.symm (by simpa only [List.append_assoc, List.append_nil] using (List.Perm.of_eq (List.append_nil _).symm))) (q0 := 0) rfl rfl rfl rfl rfl hl.1 (Nat.le_of_ble_eq_true rfl) dL_caseHolds_179 ⟨Nat.le_refl _, Nat.le_refl _⟩ (fun r179 u179 H locs h179 hP hD hS => ?_)
                            obtain ⟨z1_179, rfl⟩ : ∃ z, z = u179 := ⟨_, rfl⟩
                            obtain ⟨rfl, h179_1⟩ := h179
                            have hP : va_P D vwCl (wA kA mq q qc qp hq qs t cnt sv z1_179 x) H := hP
                            have hD : va_D A (wA kA mq q qc qp hq qs t cnt sv z1_179 x) := hD
                            refine lv_aload_n hx hb dL_caseHolds_182 rfl (lv_at hl 10 rfl) ?_
                            refine lv_iload hx hb dL_caseHolds_183 (lv_at hl 1 rfl) ?_
                            rw [show oI fi = nI (nmT t q9) by rw [hfi9]; rfl]
                            show W pQ lQ eQ (headSpec wsL_caseHolds (rmN 7 154)).room s mQ ([.ref mq, .int (nI k)] : List Value).toArray below meth cQ H locs 0 0 (MQ below (va_Qi (S := ZC) (fun (r : Int32) (u : ZC) => r = (bI true) ∧ zOK t u) (wr_B D vwCl (wA kA mq q qc qp hq qs t cnt sv z x) (tyK kA) s.heap.size (fun u => (wA kA mq q qc qp hq qs t cnt sv u x))) A) ([.ref mq, .int (nI k)] : List Value).toArray s 0 0 A) (F0 mQ 185 ls [.int (nI (nmT t q9)), .ref mq, .int (nI (anT t p0))])
                            refine lv_iconst (v := (nI 1)) hx hb dL_caseHolds_185 (by decide) ?_
                            refine n_wViE (b := mq) (As := [.int (nI (nmT t q9)), .int (nI 1)]) (rest := [.int (nI (anT t p0))]) (wr := []) (ws' := fun u => (wA kA mq q qc qp hq qs t cnt sv u x)) hS0 (q_row1 lQ D kA adK adV mq q qc qp hq qs t cnt sv z1_179 x (nmT t q9) q9 H.size (by first | assumption | omega) (by first | assumption | omega) (by first | assumption | omega) rfl) (cwV 2 hts gL_caseHolds_X5_row rfl rfl rfl (by decide +kernel) ⟨Nat.le_of_ble_eq_true rfl, Nat.le_of_ble_eq_true rfl⟩) hP hD hS hE hA hK hK (by simpa only [List.append_assoc, List.append_nil] using (List.Perm.of_eq (List.append_nil _).symm)) (fun u => List.Perm.symm (by simpa only [List.append_assoc, List.append_nil] using (List.Perm.of_eq (List.append_nil _).symm))) (q0 := 0) rfl rfl rfl rfl rfl hl.1 (Nat.le_of_ble_eq_true rfl) dL_caseHolds_186 ⟨Nat.le_refl _, Nat.le_refl _⟩ (fun r186 u186 H locs h186 hP hD hS => ?_)
                            obtain ⟨z1_186, rfl⟩ : ∃ z, z = u186 := ⟨_, rfl⟩
                            obtain ⟨rfl, h186_1⟩ := h186
                            have hP : va_P D vwCl (wA kA mq q qc qp hq qs t cnt sv z1_186 x) H := hP
                            have hD : va_D A (wA kA mq q qc qp hq qs t cnt sv z1_186 x) := hD
                            refine n_icmp_eq (a := anT t p0) (b := anT t q9) (tgt := 196) hx hb (by have := okT_an hok p0 (by omega); omega) (by first | (have := okT_an hok q9 (by omega); omega) | (have := okT_an hok p0 (by omega); omega)) dL_caseHolds_189 (by decide) (fun c189 => ?_) (fun c189 => ?_)
                            · refine lv_iconst (v := (nI 0)) hx hb dL_caseHolds_196 (by decide) ?_
                              refine lv_istore (lv' := [(7, .int (nI 0)), (6, .int (oI se)), (5, .int (oI fi)), (11, .int (nI i0)), (10, .int (bI tb)), (9, .int (nI (nmT t p0))), (8, .int (nI p0)), (4, .int (nI n)), (3, .int (nI sm)), (2, .int (nI sp)), (0, .ref mq), (1, .int (nI k))]) hx hb dL_caseHolds_197 hl (by decide) rfl (fun ls hl => ?_)
                              refine lv_iinc (v := (nI (n + 1))) (lv' := [(4, .int (nI (n + 1))), (7, .int (nI 0)), (6, .int (oI se)), (5, .int (oI fi)), (11, .int (nI i0)), (10, .int (bI tb)), (9, .int (nI (nmT t p0))), (8, .int (nI p0)), (3, .int (nI sm)), (2, .int (nI sp)), (0, .ref mq), (1, .int (nI k))]) hx hb dL_caseHolds_199 hl (k := 7) rfl (nI_inc _) (by decide) rfl (fun ls hl => ?_)
                              refine lv_iinc (v := (nI (p0 + 1))) (lv' := [(8, .int (nI (p0 + 1))), (4, .int (nI (n + 1))), (7, .int (nI 0)), (6, .int (oI se)), (5, .int (oI fi)), (11, .int (nI i0)), (10, .int (bI tb)), (9, .int (nI (nmT t p0))), (3, .int (nI sm)), (2, .int (nI sp)), (0, .ref mq), (1, .int (nI k))]) hx hb dL_caseHolds_202 hl (k := 7) rfl (nI_inc _) (by decide) rfl (fun ls hl => ?_)
                              refine lv_goto (tgt := 60) hx hb dL_caseHolds_205 (by decide) ?_
                              exact ih60 (p0 + 1) (n + 1) fi se false z1_186 (by omega) (by first | assumption | omega) (by first | (rw [cntB_st hf, ← hn]; done) | (rw [cntB_sf hf, ← hn])) (by first | (rw [fs_skip hf]; exact hfi) | (rw [fs_none hq0, if_pos hf]; exact (nu_some (by omega)).symm) | (rw [fs_some hq9, ← hq9]; exact hfi)) (by first | (rw [se_skip hf]; exact hse) | (rw [se_not (by rw [← hn]; exact c158)]; exact hse) | (rw [se_one hf (by rw [← hn]; exact c158)]; exact (nu_some (by omega)).symm)) (by first | (rw [cf_skip hf]; exact hcf) | exact (cf_true (hcf.symm.trans c172)).symm | (rw [cf_none hq0]; exact c172.symm.trans hcf) | (rw [cf_some hf hq9, ← hcf, c172, decide_eq_false (fun h => h c189)]; rfl) | (rw [cf_some hf hq9, ← hcf, c172, decide_eq_true c189]; rfl)) (by first | assumption | omega) _ _ hP hD hS _ (lv_sub hl [0, 2, 3, 4, 1, 8, 9, 10, 11] rfl)
                            · refine lv_iconst (v := (nI 1)) hx hb dL_caseHolds_192 (by decide) ?_
                              refine lv_goto (tgt := 197) hx hb dL_caseHolds_193 (by decide) ?_
                              refine lv_istore (lv' := [(7, .int (nI 1)), (6, .int (oI se)), (5, .int (oI fi)), (11, .int (nI i0)), (10, .int (bI tb)), (9, .int (nI (nmT t p0))), (8, .int (nI p0)), (4, .int (nI n)), (3, .int (nI sm)), (2, .int (nI sp)), (0, .ref mq), (1, .int (nI k))]) hx hb dL_caseHolds_197 hl (by decide) rfl (fun ls hl => ?_)
                              refine lv_iinc (v := (nI (n + 1))) (lv' := [(4, .int (nI (n + 1))), (7, .int (nI 1)), (6, .int (oI se)), (5, .int (oI fi)), (11, .int (nI i0)), (10, .int (bI tb)), (9, .int (nI (nmT t p0))), (8, .int (nI p0)), (3, .int (nI sm)), (2, .int (nI sp)), (0, .ref mq), (1, .int (nI k))]) hx hb dL_caseHolds_199 hl (k := 7) rfl (nI_inc _) (by decide) rfl (fun ls hl => ?_)
                              refine lv_iinc (v := (nI (p0 + 1))) (lv' := [(8, .int (nI (p0 + 1))), (4, .int (nI (n + 1))), (7, .int (nI 1)), (6, .int (oI se)), (5, .int (oI fi)), (11, .int (nI i0)), (10, .int (bI tb)), (9, .int (nI (nmT t p0))), (3, .int (nI sm)), (2, .int (nI sp)), (0, .ref mq), (1, .int (nI k))]) hx hb dL_caseHolds_202 hl (k := 7) rfl (nI_inc _) (by decide) rfl (fun ls hl => ?_)
                              refine lv_goto (tgt := 60) hx hb dL_caseHolds_205 (by decide) ?_
                              exact ih60 (p0 + 1) (n + 1) fi se true z1_186 (by omega) (by first | assumption | omega) (by first | (rw [cntB_st hf, ← hn]; done) | (rw [cntB_sf hf, ← hn])) (by first | (rw [fs_skip hf]; exact hfi) | (rw [fs_none hq0, if_pos hf]; exact (nu_some (by omega)).symm) | (rw [fs_some hq9, ← hq9]; exact hfi)) (by first | (rw [se_skip hf]; exact hse) | (rw [se_not (by rw [← hn]; exact c158)]; exact hse) | (rw [se_one hf (by rw [← hn]; exact c158)]; exact (nu_some (by omega)).symm)) (by first | (rw [cf_skip hf]; exact hcf) | exact (cf_true (hcf.symm.trans c172)).symm | (rw [cf_none hq0]; exact c172.symm.trans hcf) | (rw [cf_some hf hq9, ← hcf, c172, decide_eq_false (fun h => h c189)]; rfl) | (rw [cf_some hf hq9, ← hcf, c172, decide_eq_true c189]; rfl)) (by first | assumption | omega) _ _ hP hD hS _ (lv_sub hl [0, 2, 3, 4, 1, 8, 9, 10, 11] rfl)
                        · refine lv_iload hx hb dL_caseHolds_161 (lv_at hl 3 rfl) ?_
                          refine lv_goto (tgt := 168) hx hb dL_caseHolds_163 (by decide) ?_
                          refine lv_istore (lv' := [(6, .int (nI (nmT t p0))), (5, .int (oI fi)), (11, .int (nI i0)), (10, .int (bI tb)), (9, .int (nI (nmT t p0))), (8, .int (nI p0)), (7, .int (bI cf)), (4, .int (nI n)), (3, .int (nI sm)), (2, .int (nI sp)), (0, .ref mq), (1, .int (nI k))]) hx hb dL_caseHolds_168 hl (by decide) rfl (fun ls hl => ?_)
                          refine lv_iload hx hb dL_caseHolds_170 (lv_at hl 6 rfl) ?_
                          refine n_ifb_ne (b := cf) (tgt := 192) hx hb dL_caseHolds_172 (by decide) (fun c172 => ?_) (fun c172 => ?_)
                          · refine lv_iconst (v := (nI 1)) hx hb dL_caseHolds_192 (by decide) ?_
                            refine lv_goto (tgt := 197) hx hb dL_caseHolds_193 (by decide) ?_
                            refine lv_istore (lv' := [(7, .int (nI 1)), (6, .int (nI (nmT t p0))), (5, .int (oI fi)), (11, .int (nI i0)), (10, .int (bI tb)), (9, .int (nI (nmT t p0))), (8, .int (nI p0)), (4, .int (nI n)), (3, .int (nI sm)), (2, .int (nI sp)), (0, .ref mq), (1, .int (nI k))]) hx hb dL_caseHolds_197 hl (by decide) rfl (fun ls hl => ?_)
                            refine lv_iinc (v := (nI (n + 1))) (lv' := [(4, .int (nI (n + 1))), (7, .int (nI 1)), (6, .int (nI (nmT t p0))), (5, .int (oI fi)), (11, .int (nI i0)), (10, .int (bI tb)), (9, .int (nI (nmT t p0))), (8, .int (nI p0)), (3, .int (nI sm)), (2, .int (nI sp)), (0, .ref mq), (1, .int (nI k))]) hx hb dL_caseHolds_199 hl (k := 7) rfl (nI_inc _) (by decide) rfl (fun ls hl => ?_)
                            refine lv_iinc (v := (nI (p0 + 1))) (lv' := [(8, .int (nI (p0 + 1))), (4, .int (nI (n + 1))), (7, .int (nI 1)), (6, .int (nI (nmT t p0))), (5, .int (oI fi)), (11, .int (nI i0)), (10, .int (bI tb)), (9, .int (nI (nmT t p0))), (3, .int (nI sm)), (2, .int (nI sp)), (0, .ref mq), (1, .int (nI k))]) hx hb dL_caseHolds_202 hl (k := 7) rfl (nI_inc _) (by decide) rfl (fun ls hl => ?_)
                            refine lv_goto (tgt := 60) hx hb dL_caseHolds_205 (by decide) ?_
                            exact ih60 (p0 + 1) (n + 1) fi (some (nmT t p0)) true z1_88 (by omega) (by first | assumption | omega) (by first | (rw [cntB_st hf, ← hn]; done) | (rw [cntB_sf hf, ← hn])) (by first | (rw [fs_skip hf]; exact hfi) | (rw [fs_none hq0, if_pos hf]; exact (nu_some (by omega)).symm) | (rw [fs_some hq9, ← hq9]; exact hfi)) (by first | (rw [se_skip hf]; exact hse) | (rw [se_not (by rw [← hn]; exact c158)]; exact hse) | (rw [se_one hf (by rw [← hn]; exact c158)]; exact (nu_some (by omega)).symm)) (by first | (rw [cf_skip hf]; exact hcf) | exact (cf_true (hcf.symm.trans c172)).symm | (rw [cf_none hq0]; exact c172.symm.trans hcf) | (rw [cf_some hf hq9, ← hcf, c172, decide_eq_false (fun h => h c189)]; rfl) | (rw [cf_some hf hq9, ← hcf, c172, decide_eq_true c189]; rfl)) (by first | assumption | omega) _ _ hP hD hS _ (lv_sub hl [0, 2, 3, 4, 1, 8, 9, 10, 11] rfl)
                          · refine lv_aload_n hx hb dL_caseHolds_175 rfl (lv_at hl 10 rfl) ?_
                            refine lv_iload hx hb dL_caseHolds_176 (lv_at hl 4 rfl) ?_
                            refine lv_iconst (v := (nI 1)) hx hb dL_caseHolds_178 (by decide) ?_
                            refine n_wViE (b := mq) (As := [.int (nI (nmT t p0)), .int (nI 1)]) (rest := []) (wr := []) (ws' := fun u => (wA kA mq q qc qp hq qs t cnt sv u x)) hS0 (q_row1 lQ D kA adK adV mq q qc qp hq qs t cnt sv z1_88 x (nmT t p0) p0 H.size (by first | assumption | omega) (by first | assumption | omega) (by first | assumption | omega) rfl) (cwV 2 hts gL_caseHolds_X5_row rfl rfl rfl (by decide +kernel) ⟨Nat.le_of_ble_eq_true rfl, Nat.le_of_ble_eq_true rfl⟩) hP hD hS hE hA hK hK (by simpa only [List.append_assoc, List.append_nil] using (List.Perm.of_eq (List.append_nil _).symm)) (fun u => List.Perm.symm (by simpa only [List.append_assoc, List.append_nil] using (List.Perm.of_eq (List.append_nil _).symm))) (q0 := 0) rfl rfl rfl rfl rfl hl.1 (Nat.le_of_ble_eq_true rfl) dL_caseHolds_179 ⟨Nat.le_refl _, Nat.le_refl _⟩ (fun r179 u179 H locs h179 hP hD hS => ?_)
                            obtain ⟨z1_179, rfl⟩ : ∃ z, z = u179 := ⟨_, rfl⟩
                            obtain ⟨rfl, h179_1⟩ := h179
                            have hP : va_P D vwCl (wA kA mq q qc qp hq qs t cnt sv z1_179 x) H := hP
                            have hD : va_D A (wA kA mq q qc qp hq qs t cnt sv z1_179 x) := hD
                            refine lv_aload_n hx hb dL_caseHolds_182 rfl (lv_at hl 10 rfl) ?_
                            refine lv_iload hx hb dL_caseHolds_183 (lv_at hl 1 rfl) ?_
                            rw [show oI fi = nI (nmT t q9) by rw [hfi9]; rfl]
                            show W pQ lQ eQ (headSpec wsL_caseHolds (rmN 7 154)).room s mQ ([.ref mq, .int (nI k)] : List Value).toArray below meth cQ H locs 0 0 (MQ below (va_Qi (S := ZC) (fun (r : Int32) (u : ZC) => r = (bI true) ∧ zOK t u) (wr_B D vwCl (wA kA mq q qc qp hq qs t cnt sv z x) (tyK kA) s.heap.size (fun u => (wA kA mq q qc qp hq qs t cnt sv u x))) A) ([.ref mq, .int (nI k)] : List Value).toArray s 0 0 A) (F0 mQ 185 ls [.int (nI (nmT t q9)), .ref mq, .int (nI (anT t p0))])
                            refine lv_iconst (v := (nI 1)) hx hb dL_caseHolds_185 (by decide) ?_
                            refine n_wViE (b := mq) (As := [.int (nI (nmT t q9)), .int (nI 1)]) (rest := [.int (nI (anT t p0))]) (wr := []) (ws' := fun u => (wA kA mq q qc qp hq qs t cnt sv u x)) hS0 (q_row1 lQ D kA adK adV mq q qc qp hq qs t cnt sv z1_179 x (nmT t q9) q9 H.size (by first | assumption | omega) (by first | assumption | omega) (by first | assumption | omega) rfl) (cwV 2 hts gL_caseHolds_X5_row rfl rfl rfl (by decide +kernel) ⟨Nat.le_of_ble_eq_true rfl, Nat.le_of_ble_eq_true rfl⟩) hP hD hS hE hA hK hK (by simpa only [List.append_assoc, List.append_nil] using (List.Perm.of_eq (List.append_nil _).symm)) (fun u => List.Perm.symm (by simpa only [List.append_assoc, List.append_nil] using (List.Perm.of_eq (List.append_nil _).symm))) (q0 := 0) rfl rfl rfl rfl rfl hl.1 (Nat.le_of_ble_eq_true rfl) dL_caseHolds_186 ⟨Nat.le_refl _, Nat.le_refl _⟩ (fun r186 u186 H locs h186 hP hD hS => ?_)
                            obtain ⟨z1_186, rfl⟩ : ∃ z, z = u186 := ⟨_, rfl⟩
                            obtain ⟨rfl, h186_1⟩ := h186
                            have hP : va_P D vwCl (wA kA mq q qc qp hq qs t cnt sv z1_186 x) H := hP
                            have hD : va_D A (wA kA mq q qc qp hq qs t cnt sv z1_186 x) := hD
                            refine n_icmp_eq (a := anT t p0) (b := anT t q9) (tgt := 196) hx hb (by have := okT_an hok p0 (by omega); omega) (by first | (have := okT_an hok q9 (by omega); omega) | (have := okT_an hok p0 (by omega); omega)) dL_caseHolds_189 (by decide) (fun c189 => ?_) (fun c189 => ?_)
                            · refine lv_iconst (v := (nI 0)) hx hb dL_caseHolds_196 (by decide) ?_
                              refine lv_istore (lv' := [(7, .int (nI 0)), (6, .int (nI (nmT t p0))), (5, .int (oI fi)), (11, .int (nI i0)), (10, .int (bI tb)), (9, .int (nI (nmT t p0))), (8, .int (nI p0)), (4, .int (nI n)), (3, .int (nI sm)), (2, .int (nI sp)), (0, .ref mq), (1, .int (nI k))]) hx hb dL_caseHolds_197 hl (by decide) rfl (fun ls hl => ?_)
                              refine lv_iinc (v := (nI (n + 1))) (lv' := [(4, .int (nI (n + 1))), (7, .int (nI 0)), (6, .int (nI (nmT t p0))), (5, .int (oI fi)), (11, .int (nI i0)), (10, .int (bI tb)), (9, .int (nI (nmT t p0))), (8, .int (nI p0)), (3, .int (nI sm)), (2, .int (nI sp)), (0, .ref mq), (1, .int (nI k))]) hx hb dL_caseHolds_199 hl (k := 7) rfl (nI_inc _) (by decide) rfl (fun ls hl => ?_)
                              refine lv_iinc (v := (nI (p0 + 1))) (lv' := [(8, .int (nI (p0 + 1))), (4, .int (nI (n + 1))), (7, .int (nI 0)), (6, .int (nI (nmT t p0))), (5, .int (oI fi)), (11, .int (nI i0)), (10, .int (bI tb)), (9, .int (nI (nmT t p0))), (3, .int (nI sm)), (2, .int (nI sp)), (0, .ref mq), (1, .int (nI k))]) hx hb dL_caseHolds_202 hl (k := 7) rfl (nI_inc _) (by decide) rfl (fun ls hl => ?_)
                              refine lv_goto (tgt := 60) hx hb dL_caseHolds_205 (by decide) ?_
                              exact ih60 (p0 + 1) (n + 1) fi (some (nmT t p0)) false z1_186 (by omega) (by first | assumption | omega) (by first | (rw [cntB_st hf, ← hn]; done) | (rw [cntB_sf hf, ← hn])) (by first | (rw [fs_skip hf]; exact hfi) | (rw [fs_none hq0, if_pos hf]; exact (nu_some (by omega)).symm) | (rw [fs_some hq9, ← hq9]; exact hfi)) (by first | (rw [se_skip hf]; exact hse) | (rw [se_not (by rw [← hn]; exact c158)]; exact hse) | (rw [se_one hf (by rw [← hn]; exact c158)]; exact (nu_some (by omega)).symm)) (by first | (rw [cf_skip hf]; exact hcf) | exact (cf_true (hcf.symm.trans c172)).symm | (rw [cf_none hq0]; exact c172.symm.trans hcf) | (rw [cf_some hf hq9, ← hcf, c172, decide_eq_false (fun h => h c189)]; rfl) | (rw [cf_some hf hq9, ← hcf, c172, decide_eq_true c189]; rfl)) (by first | assumption | omega) _ _ hP hD hS _ (lv_sub hl [0, 2, 3, 4, 1, 8, 9, 10, 11] rfl)
                            · refine lv_iconst (v := (nI 1)) hx hb dL_caseHolds_192 (by decide) ?_
                              refine lv_goto (tgt := 197) hx hb dL_caseHolds_193 (by decide) ?_
                              refine lv_istore (lv' := [(7, .int (nI 1)), (6, .int (nI (nmT t p0))), (5, .int (oI fi)), (11, .int (nI i0)), (10, .int (bI tb)), (9, .int (nI (nmT t p0))), (8, .int (nI p0)), (4, .int (nI n)), (3, .int (nI sm)), (2, .int (nI sp)), (0, .ref mq), (1, .int (nI k))]) hx hb dL_caseHolds_197 hl (by decide) rfl (fun ls hl => ?_)
                              refine lv_iinc (v := (nI (n + 1))) (lv' := [(4, .int (nI (n + 1))), (7, .int (nI 1)), (6, .int (nI (nmT t p0))), (5, .int (oI fi)), (11, .int (nI i0)), (10, .int (bI tb)), (9, .int (nI (nmT t p0))), (8, .int (nI p0)), (3, .int (nI sm)), (2, .int (nI sp)), (0, .ref mq), (1, .int (nI k))]) hx hb dL_caseHolds_199 hl (k := 7) rfl (nI_inc _) (by decide) rfl (fun ls hl => ?_)
                              refine lv_iinc (v := (nI (p0 + 1))) (lv' := [(8, .int (nI (p0 + 1))), (4, .int (nI (n + 1))), (7, .int (nI 1)), (6, .int (nI (nmT t p0))), (5, .int (oI fi)), (11, .int (nI i0)), (10, .int (bI tb)), (9, .int (nI (nmT t p0))), (3, .int (nI sm)), (2, .int (nI sp)), (0, .ref mq), (1, .int (nI k))]) hx hb dL_caseHolds_202 hl (k := 7) rfl (nI_inc _) (by decide) rfl (fun ls hl => ?_)
                              refine lv_goto (tgt := 60) hx hb dL_caseHolds_205 (by decide) ?_
                              exact ih60 (p0 + 1) (n + 1) fi (some (nmT t p0)) true z1_186 (by omega) (by first | assumption | omega) (by first | (rw [cntB_st hf, ← hn]; done) | (rw [cntB_sf hf, ← hn])) (by first | (rw [fs_skip hf]; exact hfi) | (rw [fs_none hq0, if_pos hf]; exact (nu_some (by omega)).symm) | (rw [fs_some hq9, ← hq9]; exact hfi)) (by first | (rw [se_skip hf]; exact hse) | (rw [se_not (by rw [← hn]; exact c158)]; exact hse) | (rw [se_one hf (by rw [← hn]; exact c158)]; exact (nu_some (by omega)).symm)) (by first | (rw [cf_skip hf]; exact hcf) | exact (cf_true (hcf.symm.trans c172)).symm | (rw [cf_none hq0]; exact c172.symm.trans hcf) | (rw [cf_some hf hq9, ← hcf, c172, decide_eq_false (fun h => h c189)]; rfl) | (rw [cf_some hf hq9, ← hcf, c172, decide_eq_true c189]; rfl)) (by first | assumption | omega) _ _ hP hD hS _ (lv_sub hl [0, 2, 3, 4, 1, 8, 9, 10, 11] rfl)
                      · have hq0 := (cnt_first (tlT t k) p0).mp (hn.symm.trans c143)
                        refine lv_iload hx hb dL_caseHolds_146 (lv_at hl 2 rfl) ?_
                        refine lv_goto (tgt := 153) hx hb dL_caseHolds_148 (by decide) ?_
                        refine lv_istore (lv' := [(5, .int (nI (nmT t p0))), (11, .int (nI i0)), (10, .int (bI tb)), (9, .int (nI (nmT t p0))), (8, .int (nI p0)), (7, .int (bI cf)), (6, .int (oI se)), (4, .int (nI n)), (3, .int (nI sm)), (2, .int (nI sp)), (0, .ref mq), (1, .int (nI k))]) hx hb dL_caseHolds_153 hl (by decide) rfl (fun ls hl => ?_)
                        refine lv_iload hx hb dL_caseHolds_155 (lv_at hl 7 rfl) ?_
                        refine lv_iconst (v := (nI 1)) hx hb dL_caseHolds_157 (by decide) ?_
                        refine n_icmp_ne (a := n) (b := 1) (tgt := 166) hx hb (by omega) (by omega) dL_caseHolds_158 (by decide) (fun c158 => ?_) (fun c158 => ?_)
                        · refine lv_iload hx hb dL_caseHolds_166 (lv_at hl 6 rfl) ?_
                          refine lv_istore (lv' := [(6, .int (oI se)), (5, .int (nI (nmT t p0))), (11, .int (nI i0)), (10, .int (bI tb)), (9, .int (nI (nmT t p0))), (8, .int (nI p0)), (7, .int (bI cf)), (4, .int (nI n)), (3, .int (nI sm)), (2, .int (nI sp)), (0, .ref mq), (1, .int (nI k))]) hx hb dL_caseHolds_168 hl (by decide) rfl (fun ls hl => ?_)
                          refine lv_iload hx hb dL_caseHolds_170 (lv_at hl 6 rfl) ?_
                          refine n_ifb_ne (b := cf) (tgt := 192) hx hb dL_caseHolds_172 (by decide) (fun c172 => ?_) (fun c172 => ?_)
                          · refine lv_iconst (v := (nI 1)) hx hb dL_caseHolds_192 (by decide) ?_
                            refine lv_goto (tgt := 197) hx hb dL_caseHolds_193 (by decide) ?_
                            refine lv_istore (lv' := [(7, .int (nI 1)), (6, .int (oI se)), (5, .int (nI (nmT t p0))), (11, .int (nI i0)), (10, .int (bI tb)), (9, .int (nI (nmT t p0))), (8, .int (nI p0)), (4, .int (nI n)), (3, .int (nI sm)), (2, .int (nI sp)), (0, .ref mq), (1, .int (nI k))]) hx hb dL_caseHolds_197 hl (by decide) rfl (fun ls hl => ?_)
                            refine lv_iinc (v := (nI (n + 1))) (lv' := [(4, .int (nI (n + 1))), (7, .int (nI 1)), (6, .int (oI se)), (5, .int (nI (nmT t p0))), (11, .int (nI i0)), (10, .int (bI tb)), (9, .int (nI (nmT t p0))), (8, .int (nI p0)), (3, .int (nI sm)), (2, .int (nI sp)), (0, .ref mq), (1, .int (nI k))]) hx hb dL_caseHolds_199 hl (k := 7) rfl (nI_inc _) (by decide) rfl (fun ls hl => ?_)
                            refine lv_iinc (v := (nI (p0 + 1))) (lv' := [(8, .int (nI (p0 + 1))), (4, .int (nI (n + 1))), (7, .int (nI 1)), (6, .int (oI se)), (5, .int (nI (nmT t p0))), (11, .int (nI i0)), (10, .int (bI tb)), (9, .int (nI (nmT t p0))), (3, .int (nI sm)), (2, .int (nI sp)), (0, .ref mq), (1, .int (nI k))]) hx hb dL_caseHolds_202 hl (k := 7) rfl (nI_inc _) (by decide) rfl (fun ls hl => ?_)
                            refine lv_goto (tgt := 60) hx hb dL_caseHolds_205 (by decide) ?_
                            exact ih60 (p0 + 1) (n + 1) (some (nmT t p0)) se true z1_88 (by omega) (by first | assumption | omega) (by first | (rw [cntB_st hf, ← hn]; done) | (rw [cntB_sf hf, ← hn])) (by first | (rw [fs_skip hf]; exact hfi) | (rw [fs_none hq0, if_pos hf]; exact (nu_some (by omega)).symm) | (rw [fs_some hq9, ← hq9]; exact hfi)) (by first | (rw [se_skip hf]; exact hse) | (rw [se_not (by rw [← hn]; exact c158)]; exact hse) | (rw [se_one hf (by rw [← hn]; exact c158)]; exact (nu_some (by omega)).symm)) (by first | (rw [cf_skip hf]; exact hcf) | exact (cf_true (hcf.symm.trans c172)).symm | (rw [cf_none hq0]; exact c172.symm.trans hcf) | (rw [cf_some hf hq9, ← hcf, c172, decide_eq_false (fun h => h c189)]; rfl) | (rw [cf_some hf hq9, ← hcf, c172, decide_eq_true c189]; rfl)) (by first | assumption | omega) _ _ hP hD hS _ (lv_sub hl [0, 2, 3, 4, 1, 8, 9, 10, 11] rfl)
                          · refine lv_aload_n hx hb dL_caseHolds_175 rfl (lv_at hl 10 rfl) ?_
                            refine lv_iload hx hb dL_caseHolds_176 (lv_at hl 4 rfl) ?_
                            refine lv_iconst (v := (nI 1)) hx hb dL_caseHolds_178 (by decide) ?_
                            refine n_wViE (b := mq) (As := [.int (nI (nmT t p0)), .int (nI 1)]) (rest := []) (wr := []) (ws' := fun u => (wA kA mq q qc qp hq qs t cnt sv u x)) hS0 (q_row1 lQ D kA adK adV mq q qc qp hq qs t cnt sv z1_88 x (nmT t p0) p0 H.size (by first | assumption | omega) (by first | assumption | omega) (by first | assumption | omega) rfl) (cwV 2 hts gL_caseHolds_X5_row rfl rfl rfl (by decide +kernel) ⟨Nat.le_of_ble_eq_true rfl, Nat.le_of_ble_eq_true rfl⟩) hP hD hS hE hA hK hK (by simpa only [List.append_assoc, List.append_nil] using (List.Perm.of_eq (List.append_nil _).symm)) (fun u => List.Perm.symm (by simpa only [List.append_assoc, List.append_nil] using (List.Perm.of_eq (List.append_nil _).symm))) (q0 := 0) rfl rfl rfl rfl rfl hl.1 (Nat.le_of_ble_eq_true rfl) dL_caseHolds_179 ⟨Nat.le_refl _, Nat.le_refl _⟩ (fun r179 u179 H locs h179 hP hD hS => ?_)
                            obtain ⟨z1_179, rfl⟩ : ∃ z, z = u179 := ⟨_, rfl⟩
                            obtain ⟨rfl, h179_1⟩ := h179
                            have hP : va_P D vwCl (wA kA mq q qc qp hq qs t cnt sv z1_179 x) H := hP
                            have hD : va_D A (wA kA mq q qc qp hq qs t cnt sv z1_179 x) := hD
                            refine lv_aload_n hx hb dL_caseHolds_182 rfl (lv_at hl 10 rfl) ?_
                            refine lv_iload hx hb dL_caseHolds_183 (lv_at hl 1 rfl) ?_
                            refine lv_iconst (v := (nI 1)) hx hb dL_caseHolds_185 (by decide) ?_
                            refine n_wViE (b := mq) (As := [.int (nI (nmT t p0)), .int (nI 1)]) (rest := [.int (nI (anT t p0))]) (wr := []) (ws' := fun u => (wA kA mq q qc qp hq qs t cnt sv u x)) hS0 (q_row1 lQ D kA adK adV mq q qc qp hq qs t cnt sv z1_179 x (nmT t p0) p0 H.size (by first | assumption | omega) (by first | assumption | omega) (by first | assumption | omega) rfl) (cwV 2 hts gL_caseHolds_X5_row rfl rfl rfl (by decide +kernel) ⟨Nat.le_of_ble_eq_true rfl, Nat.le_of_ble_eq_true rfl⟩) hP hD hS hE hA hK hK (by simpa only [List.append_assoc, List.append_nil] using (List.Perm.of_eq (List.append_nil _).symm)) (fun u => List.Perm.symm (by simpa only [List.append_assoc, List.append_nil] using (List.Perm.of_eq (List.append_nil _).symm))) (q0 := 0) rfl rfl rfl rfl rfl hl.1 (Nat.le_of_ble_eq_true rfl) dL_caseHolds_186 ⟨Nat.le_refl _, Nat.le_refl _⟩ (fun r186 u186 H locs h186 hP hD hS => ?_)
                            obtain ⟨z1_186, rfl⟩ : ∃ z, z = u186 := ⟨_, rfl⟩
                            obtain ⟨rfl, h186_1⟩ := h186
                            have hP : va_P D vwCl (wA kA mq q qc qp hq qs t cnt sv z1_186 x) H := hP
                            have hD : va_D A (wA kA mq q qc qp hq qs t cnt sv z1_186 x) := hD
                            refine n_icmp_eq (a := anT t p0) (b := anT t p0) (tgt := 196) hx hb (by have := okT_an hok p0 (by omega); omega) (by first | (have := okT_an hok q9 (by omega); omega) | (have := okT_an hok p0 (by omega); omega)) dL_caseHolds_189 (by decide) (fun c189 => ?_) (fun c189 => ?_)
                            · refine lv_iconst (v := (nI 0)) hx hb dL_caseHolds_196 (by decide) ?_
                              refine lv_istore (lv' := [(7, .int (nI 0)), (6, .int (oI se)), (5, .int (nI (nmT t p0))), (11, .int (nI i0)), (10, .int (bI tb)), (9, .int (nI (nmT t p0))), (8, .int (nI p0)), (4, .int (nI n)), (3, .int (nI sm)), (2, .int (nI sp)), (0, .ref mq), (1, .int (nI k))]) hx hb dL_caseHolds_197 hl (by decide) rfl (fun ls hl => ?_)
                              refine lv_iinc (v := (nI (n + 1))) (lv' := [(4, .int (nI (n + 1))), (7, .int (nI 0)), (6, .int (oI se)), (5, .int (nI (nmT t p0))), (11, .int (nI i0)), (10, .int (bI tb)), (9, .int (nI (nmT t p0))), (8, .int (nI p0)), (3, .int (nI sm)), (2, .int (nI sp)), (0, .ref mq), (1, .int (nI k))]) hx hb dL_caseHolds_199 hl (k := 7) rfl (nI_inc _) (by decide) rfl (fun ls hl => ?_)
                              refine lv_iinc (v := (nI (p0 + 1))) (lv' := [(8, .int (nI (p0 + 1))), (4, .int (nI (n + 1))), (7, .int (nI 0)), (6, .int (oI se)), (5, .int (nI (nmT t p0))), (11, .int (nI i0)), (10, .int (bI tb)), (9, .int (nI (nmT t p0))), (3, .int (nI sm)), (2, .int (nI sp)), (0, .ref mq), (1, .int (nI k))]) hx hb dL_caseHolds_202 hl (k := 7) rfl (nI_inc _) (by decide) rfl (fun ls hl => ?_)
                              refine lv_goto (tgt := 60) hx hb dL_caseHolds_205 (by decide) ?_
                              exact ih60 (p0 + 1) (n + 1) (some (nmT t p0)) se false z1_186 (by omega) (by first | assumption | omega) (by first | (rw [cntB_st hf, ← hn]; done) | (rw [cntB_sf hf, ← hn])) (by first | (rw [fs_skip hf]; exact hfi) | (rw [fs_none hq0, if_pos hf]; exact (nu_some (by omega)).symm) | (rw [fs_some hq9, ← hq9]; exact hfi)) (by first | (rw [se_skip hf]; exact hse) | (rw [se_not (by rw [← hn]; exact c158)]; exact hse) | (rw [se_one hf (by rw [← hn]; exact c158)]; exact (nu_some (by omega)).symm)) (by first | (rw [cf_skip hf]; exact hcf) | exact (cf_true (hcf.symm.trans c172)).symm | (rw [cf_none hq0]; exact c172.symm.trans hcf) | (rw [cf_some hf hq9, ← hcf, c172, decide_eq_false (fun h => h c189)]; rfl) | (rw [cf_some hf hq9, ← hcf, c172, decide_eq_true c189]; rfl)) (by first | assumption | omega) _ _ hP hD hS _ (lv_sub hl [0, 2, 3, 4, 1, 8, 9, 10, 11] rfl)
                            · exact absurd rfl c189
                        · exact absurd c158 (by omega)
                    · have hf := htb.symm.trans c135
                      refine lv_goto (tgt := 202) hx hb dL_caseHolds_138 (by decide) ?_
                      refine lv_iinc (v := (nI (p0 + 1))) (lv' := [(8, .int (nI (p0 + 1))), (11, .int (nI i0)), (10, .int (bI tb)), (9, .int (nI (nmT t p0))), (7, .int (bI cf)), (6, .int (oI se)), (5, .int (oI fi)), (4, .int (nI n)), (3, .int (nI sm)), (2, .int (nI sp)), (0, .ref mq), (1, .int (nI k))]) hx hb dL_caseHolds_202 hl (k := 3) rfl (nI_inc _) (by decide) rfl (fun ls hl => ?_)
                      refine lv_goto (tgt := 60) hx hb dL_caseHolds_205 (by decide) ?_
                      exact ih60 (p0 + 1) n fi se cf z1_88 (by omega) (by first | assumption | omega) (by first | (rw [cntB_st hf, ← hn]; done) | (rw [cntB_sf hf, ← hn])) (by first | (rw [fs_skip hf]; exact hfi) | (rw [fs_none hq0, if_pos hf]; exact (nu_some (by omega)).symm) | (rw [fs_some hq9, ← hq9]; exact hfi)) (by first | (rw [se_skip hf]; exact hse) | (rw [se_not (by rw [← hn]; exact c158)]; exact hse) | (rw [se_one hf (by rw [← hn]; exact c158)]; exact (nu_some (by omega)).symm)) (by first | (rw [cf_skip hf]; exact hcf) | exact (cf_true (hcf.symm.trans c172)).symm | (rw [cf_none hq0]; exact c172.symm.trans hcf) | (rw [cf_some hf hq9, ← hcf, c172, decide_eq_false (fun h => h c189)]; rfl) | (rw [cf_some hf hq9, ← hcf, c172, decide_eq_true c189]; rfl)) (by first | assumption | omega) _ _ hP hD hS _ (lv_sub hl [0, 4, 5, 6, 7, 8, 9, 10, 11] rfl)
                  · refine lv_iload hx hb dL_caseHolds_94 (lv_at hl 1 rfl) ?_
                    refine n_ifb_eq (b := tb) (tgt := 124) hx hb dL_caseHolds_96 (by decide) (fun c96 => ?_) (fun c96 => ?_)
                    · refine lv_iconst (v := (nI 0)) hx hb dL_caseHolds_124 (by decide) ?_
                      refine lv_istore (lv' := [(10, .int (nI 0)), (11, .int (nI i0)), (9, .int (nI (nmT t p0))), (8, .int (nI p0)), (7, .int (bI cf)), (6, .int (oI se)), (5, .int (oI fi)), (4, .int (nI n)), (3, .int (nI sm)), (2, .int (nI sp)), (0, .ref mq), (1, .int (nI k))]) hx hb dL_caseHolds_125 hl (by decide) rfl (fun ls hl => ?_)
                      refine lv_iinc (v := (nI (i0 + 1))) (lv' := [(11, .int (nI (i0 + 1))), (10, .int (nI 0)), (9, .int (nI (nmT t p0))), (8, .int (nI p0)), (7, .int (bI cf)), (6, .int (oI se)), (5, .int (oI fi)), (4, .int (nI n)), (3, .int (nI sm)), (2, .int (nI sp)), (0, .ref mq), (1, .int (nI k))]) hx hb dL_caseHolds_127 hl (k := 1) rfl (nI_inc _) (by decide) rfl (fun ls hl => ?_)
                      refine lv_goto (tgt := 84) hx hb dL_caseHolds_130 (by decide) ?_
                      exact ih84 (i0 + 1) false z1_88 (by omega) (by first | assumption | omega) (by rw [telB_s, ← htb]; first | (rw [c96, c117]; rfl) | (rw [c96]; rfl)) (by first | assumption | omega) _ _ hP hD hS _ (lv_sub hl [0, 1, 2, 3, 4, 5, 6, 7, 8, 9, 10, 11] rfl)
                    · refine lv_aload_n hx hb dL_caseHolds_99 rfl (lv_at hl 10 rfl) ?_
                      refine lv_iload hx hb dL_caseHolds_100 (lv_at hl 2 rfl) ?_
                      refine lv_iload hx hb dL_caseHolds_102 (lv_at hl 0 rfl) ?_
                      refine n_wViE (b := mq) (As := [.int (nI (nmT t p0)), .int (nI i0)]) (rest := []) (wr := []) (ws' := fun u => (wA kA mq q qc qp hq qs t cnt sv u x)) hS0 (q_ans lQ D kA adK adV mq q qc qp hq qs t cnt sv z1_88 x (nmT t p0) i0 p0 H.size (by first | assumption | omega) (by first | assumption | omega) (by first | assumption | omega) rfl (by first | assumption | omega)) (cwV 2 hts gL_caseHolds_X5_answers rfl rfl rfl (by decide +kernel) ⟨Nat.le_of_ble_eq_true rfl, Nat.le_of_ble_eq_true rfl⟩) hP hD hS hE hA hK hK (by simpa only [List.append_assoc, List.append_nil] using (List.Perm.of_eq (List.append_nil _).symm)) (fun u => List.Perm.symm (by simpa only [List.append_assoc, List.append_nil] using (List.Perm.of_eq (List.append_nil _).symm))) (q0 := 0) rfl rfl rfl rfl rfl hl.1 (Nat.le_of_ble_eq_true rfl) dL_caseHolds_104 ⟨Nat.le_refl _, Nat.le_refl _⟩ (fun r104 u104 H locs h104 hP hD hS => ?_)
                      obtain ⟨z1_104, rfl⟩ : ∃ z, z = u104 := ⟨_, rfl⟩
                      obtain ⟨rfl, h104_1⟩ := h104
                      have hP : va_P D vwCl (wA kA mq q qc qp hq qs t cnt sv z1_104 x) H := hP
                      have hD : va_D A (wA kA mq q qc qp hq qs t cnt sv z1_104 x) := hD
                      refine lv_aload_n hx hb dL_caseHolds_107 rfl (lv_at hl 10 rfl) ?_
                      refine lv_iload_n hx hb dL_caseHolds_108 rfl (lv_at hl 11 rfl) ?_
                      refine lv_iload hx hb dL_caseHolds_109 (lv_at hl 0 rfl) ?_
                      refine n_wViE (b := mq) (As := [.int (nI k), .int (nI i0)]) (rest := [.int (nI (nibN (stT t p0) i0))]) (wr := []) (ws' := fun u => (wA kA mq q qc qp hq qs t cnt sv u x)) hS0 (q_ao lQ D kA adK adV mq q qc qp hq qs t cnt sv z1_104 x k i0 H.size (by first | assumption | omega) (by first | assumption | omega) (by first | assumption | omega) (by first | assumption | omega)) (cwV 2 hts gL_caseHolds_X5_answerOf rfl rfl rfl (by decide +kernel) ⟨Nat.le_of_ble_eq_true rfl, Nat.le_of_ble_eq_true rfl⟩) hP hD hS hE hA hK hK (by simpa only [List.append_assoc, List.append_nil] using (List.Perm.of_eq (List.append_nil _).symm)) (fun u => List.Perm.symm (by simpa only [List.append_assoc, List.append_nil] using (List.Perm.of_eq (List.append_nil _).symm))) (q0 := 0) rfl rfl rfl rfl rfl hl.1 (Nat.le_of_ble_eq_true rfl) dL_caseHolds_111 ⟨Nat.le_refl _, Nat.le_refl _⟩ (fun r111 u111 H locs h111 hP hD hS => ?_)
                      obtain ⟨z1_111, rfl⟩ : ∃ z, z = u111 := ⟨_, rfl⟩
                      obtain ⟨rfl, h111_1⟩ := h111
                      have hP : va_P D vwCl (wA kA mq q qc qp hq qs t cnt sv z1_111 x) H := hP
                      have hD : va_D A (wA kA mq q qc qp hq qs t cnt sv z1_111 x) := hD
                      refine n_cS (As := [.int (nI (nibN (stT t p0) i0)), .int (nI (digF (acT t) i0 k))]) (rest := []) (wc := []) hS0 (c_L_has lQ D kA (nibN (stT t p0) i0) (digF (acT t) i0 k) (nibN_lt _ _) (Nat.lt_of_lt_of_le (digF_lt (by have := (okT_ac hok i0 (by omega)).1; omega)) (okT_ac hok i0 (by omega)).2)) (va_cwS 2 hts gL_caseHolds_L_has rfl rfl rfl (by decide +kernel) ⟨Nat.le_of_ble_eq_true rfl, Nat.le_of_ble_eq_true rfl⟩) (hP.mem (ws' := []) (fun qQ h => absurd h List.not_mem_nil)) hK rfl rfl hl.1 (Nat.le_of_ble_eq_true rfl) dL_caseHolds_114 ⟨Nat.le_refl _, Nat.le_refl _⟩ (fun r114 h114 => ?_)
                      subst h114
                      refine n_ifb_eq (b := hasN (nibN (stT t p0) i0) (digF (acT t) i0 k)) (tgt := 124) hx hb dL_caseHolds_117 (by decide) (fun c117 => ?_) (fun c117 => ?_)
                      · refine lv_iconst (v := (nI 0)) hx hb dL_caseHolds_124 (by decide) ?_
                        refine lv_istore (lv' := [(10, .int (nI 0)), (11, .int (nI i0)), (9, .int (nI (nmT t p0))), (8, .int (nI p0)), (7, .int (bI cf)), (6, .int (oI se)), (5, .int (oI fi)), (4, .int (nI n)), (3, .int (nI sm)), (2, .int (nI sp)), (0, .ref mq), (1, .int (nI k))]) hx hb dL_caseHolds_125 hl (by decide) rfl (fun ls hl => ?_)
                        refine lv_iinc (v := (nI (i0 + 1))) (lv' := [(11, .int (nI (i0 + 1))), (10, .int (nI 0)), (9, .int (nI (nmT t p0))), (8, .int (nI p0)), (7, .int (bI cf)), (6, .int (oI se)), (5, .int (oI fi)), (4, .int (nI n)), (3, .int (nI sm)), (2, .int (nI sp)), (0, .ref mq), (1, .int (nI k))]) hx hb dL_caseHolds_127 hl (k := 1) rfl (nI_inc _) (by decide) rfl (fun ls hl => ?_)
                        refine lv_goto (tgt := 84) hx hb dL_caseHolds_130 (by decide) ?_
                        exact ih84 (i0 + 1) false z1_111 (by omega) (by first | assumption | omega) (by rw [telB_s, ← htb]; first | (rw [c96, c117]; rfl) | (rw [c96]; rfl)) (by first | assumption | omega) _ _ hP hD hS _ (lv_sub hl [0, 1, 2, 3, 4, 5, 6, 7, 8, 9, 10, 11] rfl)
                      · refine lv_iconst (v := (nI 1)) hx hb dL_caseHolds_120 (by decide) ?_
                        refine lv_goto (tgt := 125) hx hb dL_caseHolds_121 (by decide) ?_
                        refine lv_istore (lv' := [(10, .int (nI 1)), (11, .int (nI i0)), (9, .int (nI (nmT t p0))), (8, .int (nI p0)), (7, .int (bI cf)), (6, .int (oI se)), (5, .int (oI fi)), (4, .int (nI n)), (3, .int (nI sm)), (2, .int (nI sp)), (0, .ref mq), (1, .int (nI k))]) hx hb dL_caseHolds_125 hl (by decide) rfl (fun ls hl => ?_)
                        refine lv_iinc (v := (nI (i0 + 1))) (lv' := [(11, .int (nI (i0 + 1))), (10, .int (nI 1)), (9, .int (nI (nmT t p0))), (8, .int (nI p0)), (7, .int (bI cf)), (6, .int (oI se)), (5, .int (oI fi)), (4, .int (nI n)), (3, .int (nI sm)), (2, .int (nI sp)), (0, .ref mq), (1, .int (nI k))]) hx hb dL_caseHolds_127 hl (k := 1) rfl (nI_inc _) (by decide) rfl (fun ls hl => ?_)
                        refine lv_goto (tgt := 84) hx hb dL_caseHolds_130 (by decide) ?_
                        exact ih84 (i0 + 1) true z1_111 (by omega) (by first | assumption | omega) (by rw [telB_s, ← htb]; first | (rw [c96, c117]; rfl) | (rw [c96]; rfl)) (by first | assumption | omega) _ _ hP hD hS _ (lv_sub hl [0, 1, 2, 3, 4, 5, 6, 7, 8, 9, 10, 11] rfl)
              exact L84 ((ccT t - 0) + 1) 0 true z1_73 (Nat.lt_succ_self _) (by first | assumption | omega) rfl (by first | assumption | omega) _ _ hP hD hS _ (lv_sub hl [0, 1, 2, 3, 4, 5, 6, 7, 8, 9, 10, 11] rfl)
        exact L60 ((rcT t - 0) + 1) 0 0 none none false z1_11 (Nat.lt_succ_self _) (by first | assumption | omega) rfl rfl rfl rfl (by first | assumption | omega) _ _ hP hD hS _ (lv_sub hl [0, 1, 2, 3, 4, 5, 6, 7, 8] rfl)
      · refine lv_iload_n hx hb dL_caseHolds_17 rfl (lv_at hl 1 rfl) ?_
        refine lv_iload_n hx hb dL_caseHolds_18 rfl (lv_at hl 2 rfl) ?_
        refine lv_aload_n hx hb dL_caseHolds_19 rfl (lv_at hl 3 rfl) ?_
        refine lv_iload_n hx hb dL_caseHolds_20 rfl (lv_at hl 4 rfl) ?_
        refine lv_iload hx hb dL_caseHolds_21 (lv_at hl 0 rfl) ?_
        refine n_wViE (b := mq) (As := [.int (nI k), .int (nI i)]) (rest := [.int (nI sp), .int (nI sm)]) (wr := []) (ws' := fun u => (wA kA mq q qc qp hq qs t cnt sv u x)) hS0 (q_ao lQ D kA adK adV mq q qc qp hq qs t cnt sv z1_11 x k i H.size (by first | assumption | omega) (by first | assumption | omega) (by first | assumption | omega) (by first | assumption | omega)) (cwV 2 hts gL_caseHolds_X5_answerOf rfl rfl rfl (by decide +kernel) ⟨Nat.le_of_ble_eq_true rfl, Nat.le_of_ble_eq_true rfl⟩) hP hD hS hE hA hK hK (by simpa only [List.append_assoc, List.append_nil] using (List.Perm.of_eq (List.append_nil _).symm)) (fun u => List.Perm.symm (by simpa only [List.append_assoc, List.append_nil] using (List.Perm.of_eq (List.append_nil _).symm))) (q0 := 0) rfl rfl rfl rfl rfl hl.1 (Nat.le_of_ble_eq_true rfl) dL_caseHolds_23 ⟨Nat.le_refl _, Nat.le_refl _⟩ (fun r23 u23 H locs h23 hP hD hS => ?_)
        obtain ⟨z1_23, rfl⟩ : ∃ z, z = u23 := ⟨_, rfl⟩
        obtain ⟨rfl, h23_1⟩ := h23
        have hP : va_P D vwCl (wA kA mq q qc qp hq qs t cnt sv z1_23 x) H := hP
        have hD : va_D A (wA kA mq q qc qp hq qs t cnt sv z1_23 x) := hD
        refine n_imul (v := (nI (sp * (digF (acT t) i k)))) hx hb (pk_mul _ _) dL_caseHolds_26 ?_
        refine n_iadd (v := (nI (sm + (sp * (digF (acT t) i k))))) hx hb (nI_add _ _) dL_caseHolds_27 ?_
        refine lv_istore_n (lv' := [(3, .int (nI (sm + (sp * (digF (acT t) i k))))), (4, .int (nI i)), (2, .int (nI sp)), (0, .ref mq), (1, .int (nI k))]) hx hb dL_caseHolds_28 rfl hl (by decide) rfl (fun ls hl => ?_)
        refine lv_iload_n hx hb dL_caseHolds_29 rfl (lv_at hl 2 rfl) ?_
        refine lv_aload_n hx hb dL_caseHolds_30 rfl (lv_at hl 3 rfl) ?_
        refine lv_iload hx hb dL_caseHolds_31 (lv_at hl 1 rfl) ?_
        refine lv_iconst (v := (nI 0)) hx hb dL_caseHolds_33 (by decide) ?_
        refine n_wViE (b := mq) (As := [.int (nI i), .int (nI 0)]) (rest := [.int (nI sp)]) (wr := []) (ws' := fun u => (wA kA mq q qc qp hq qs t cnt sv u x)) hS0 (q_co0 lQ D kA adK adV mq q qc qp hq qs t cnt sv z1_23 x i H.size (by first | assumption | omega) (by first | assumption | omega) (by first | assumption | omega)) (cwV 2 hts gL_caseHolds_X5_condition rfl rfl rfl (by decide +kernel) ⟨Nat.le_of_ble_eq_true rfl, Nat.le_of_ble_eq_true rfl⟩) hP hD hS hE hA hK hK (by simpa only [List.append_assoc, List.append_nil] using (List.Perm.of_eq (List.append_nil _).symm)) (fun u => List.Perm.symm (by simpa only [List.append_assoc, List.append_nil] using (List.Perm.of_eq (List.append_nil _).symm))) (q0 := 0) rfl rfl rfl rfl rfl hl.1 (Nat.le_of_ble_eq_true rfl) dL_caseHolds_34 ⟨Nat.le_refl _, Nat.le_refl _⟩ (fun r34 u34 H locs h34 hP hD hS => ?_)
        obtain ⟨z1_34, rfl⟩ : ∃ z, z = u34 := ⟨_, rfl⟩
        obtain ⟨rfl, h34_1⟩ := h34
        have hP : va_P D vwCl (wA kA mq q qc qp hq qs t cnt sv z1_34 x) H := hP
        have hD : va_D A (wA kA mq q qc qp hq qs t cnt sv z1_34 x) := hD
        refine n_imul (v := (nI (sp * (acT t i)))) hx hb (pk_mul _ _) dL_caseHolds_37 ?_
        refine lv_istore_n (lv' := [(2, .int (nI (sp * (acT t i)))), (3, .int (nI (sm + (sp * (digF (acT t) i k))))), (4, .int (nI i)), (0, .ref mq), (1, .int (nI k))]) hx hb dL_caseHolds_38 rfl hl (by decide) rfl (fun ls hl => ?_)
        refine lv_iinc (v := (nI (i + 1))) (lv' := [(4, .int (nI (i + 1))), (2, .int (nI (sp * (acT t i)))), (3, .int (nI (sm + (sp * (digF (acT t) i k))))), (0, .ref mq), (1, .int (nI k))]) hx hb dL_caseHolds_39 hl (k := 2) rfl (nI_inc _) (by decide) rfl (fun ls hl => ?_)
        refine lv_goto (tgt := 7) hx hb dL_caseHolds_42 (by decide) ?_
        exact ih7 (i + 1) (sp * (acT t i)) (sm + (sp * (digF (acT t) i k))) z1_34 (by omega) (by first | assumption | omega) (by rw [hsp, prodF_s]) (by rw [hsm, hsp, nCs_s]) (by first | assumption | omega) _ _ hP hD hS _ (lv_sub hl [0, 2, 1, 3, 4] rfl)
  exact L7 ((ccT t - 0) + 1) 0 1 0 z (Nat.lt_succ_self _) (by first | assumption | omega) rfl (show 0 = k % 1 from (Nat.mod_one _).symm) (by first | assumption | omega) _ _ hP hD hS _ (lv_sub hl [0, 1, 2, 3, 4] rfl)

set_option maxHeartbeats 4000000 in
set_option maxRecDepth 100000 in
theorem c_L_holds (lQ : Launch) (D : va_G) (kA : Nat → ClassId) (adK adV : Nat → Nat) (mq : Nat) (q : Nat → Nat) (qc : Nat → Nat) (qp : Nat → Nat) (hq : Nat → Nat) (qs : Nat → Nat) (t : TCt) (cnt : Nat) (sv : Nat → TSt) (z : ZC) (x : SC9) (sz : Nat) (hok : okT t) (hz : zOK t z) : Met lQ yL_holds wsL_holds (rmN 7 154) (wrE_Pc D vwCl adK adV [.ref mq] (wA kA mq q qc qp hq qs t cnt sv z x) (tyK kA) sz) (va_Qi (S := ZC) (fun (r : Int32) (u : ZC) => r = (bI true) ∧ zOK t u) (wr_B D vwCl (wA kA mq q qc qp hq qs t cnt sv z x) (tyK kA) sz (fun u => (wA kA mq q qc qp hq qs t cnt sv u x))) (va_A (wA kA mq q qc qp hq qs t cnt sv z x) sz)) 0 0 (va_A (wA kA mq q qc qp hq qs t cnt sv z x) sz) := by
  refine Met.ofW (cc := cL_holds) (maxL := 13) (ret := (some .boolean)) (by decide) rfl ?_
  intro pQ eQ s mQ args below meth cQ s₁ B hml hv
  obtain ⟨rfl, hsz, hP, hK, hD0, hE⟩ := hv
  have hx := B.exec
  have hb := B.bytes
  have hr := B.returns
  have hts := atoms_spec (ws := wsL_holds) B.pre
  have hown : s.vm.findClass RL = some mQ.cls := findClass_of_methodNamed B.named
  have hlocks : meth.locks = false := B.notSynchronized
  have hS0 : CallFix pQ mQ cQ cL_holds 13 s ([.ref mq] : List Value).toArray wsL_holds RL := ⟨hx, hb, hml, hown, hts⟩
  subst hsz
  have hD := hD0.self (sz := s.heap.size)
  generalize hAe : va_A (wA kA mq q qc qp hq qs t cnt sv z x) s.heap.size = A at hD hE ⊢
  have hA : ∀ q : Nat, s.heap.size ≤ q → A q := fun q h => by rw [← hAe]; exact Or.inr h
  have hS : va_S A s.heap s.heap [] := va_S.rf
  skip
  have hl := lv_entry ([.ref mq]) (n := 13) (Nat.le_of_ble_eq_true rfl)
  rw [lg_entry_eq]
  generalize (lg_sl ([.ref mq]) ++ List.replicate (13 - (lg_sl ([.ref mq])).length) Slot.unset).toArray = ls at hl ⊢
  have hl : lv_has ls 13 [(0, .ref mq)] := hl
  have hP : va_P D vwCl (wA kA mq q qc qp hq qs t cnt sv z x) s.heap := hP
  have hD : va_D A (wA kA mq q qc qp hq qs t cnt sv z x) := hD
  obtain ⟨tP, hZP, hTP⟩ := hE.1
  have hcc := okT_cc hok
  have hrc := okT_rc hok
  have hnc := okT_nC hok
  have had9 := hok.2.2.2.1
  refine lv_iconst (v := (nI 1)) hx hb dL_holds_0 (by decide) ?_
  refine lv_istore_n (lv' := [(1, .int (nI 1)), (0, .ref mq)]) hx hb dL_holds_1 rfl hl (by decide) rfl (fun ls hl => ?_)
  refine lv_iconst (v := (nI 0)) hx hb dL_holds_2 (by decide) ?_
  refine lv_istore_n (lv' := [(2, .int (nI 0)), (1, .int (nI 1)), (0, .ref mq)]) hx hb dL_holds_3 rfl hl (by decide) rfl (fun ls hl => ?_)
  have L4 : ∀ (nQ : Nat) (i : Nat) (cs : Nat) (zy : ZC), ccT t - i < nQ → (i ≤ ccT t) → (cs = prodF (acT t) i) → (zOK t zy) → ∀ (H : Heap) (locs : List Loc), va_P D vwCl (wA kA mq q qc qp hq qs t cnt sv zy x) H → va_D A (wA kA mq q qc qp hq qs t cnt sv zy x) → va_S A s.heap H locs → ∀ (ls : Array Slot), lv_has ls 13 [(2, .int (nI i)), (1, .int (nI cs)), (0, .ref mq)] → W pQ lQ eQ (headSpec wsL_holds (rmN 7 154)).room s mQ ([.ref mq] : List Value).toArray below meth cQ H locs 0 0 (MQ below (va_Qi (S := ZC) (fun (r : Int32) (u : ZC) => r = (bI true) ∧ zOK t u) (wr_B D vwCl (wA kA mq q qc qp hq qs t cnt sv z x) (tyK kA) s.heap.size (fun u => (wA kA mq q qc qp hq qs t cnt sv u x))) A) ([.ref mq] : List Value).toArray s 0 0 A) (F0 mQ 4 ls []) := by
    intro nQ
    induction nQ with
    | zero => intro i cs zy hn; exact absurd hn (Nat.not_lt_zero _)
    | succ nQ ih4 =>
      intro i cs zy hm4 hi hcs0 hzy H locs hP hD hS ls hl
      refine lv_iload_n hx hb dL_holds_4 rfl (lv_at hl 0 rfl) ?_
      refine lv_aload_n hx hb dL_holds_5 rfl (lv_at hl 2 rfl) ?_
      refine lv_iconst (v := (nI 0)) hx hb dL_holds_6 (by decide) ?_
      refine n_wViE (b := mq) (As := [.int (nI 0)]) (rest := [.int (nI i)]) (wr := []) (ws' := fun u => (wA kA mq q qc qp hq qs t cnt sv u x)) hS0 (q_wh0 lQ D kA adK adV mq q qc qp hq qs t cnt sv zy x H.size (by first | assumption | omega) (by first | assumption | omega)) (cwV 1 hts gL_holds_X5_whole rfl rfl rfl (by decide +kernel) ⟨Nat.le_of_ble_eq_true rfl, Nat.le_of_ble_eq_true rfl⟩) hP hD hS hE hA hK hK (by simpa only [List.append_assoc, List.append_nil] using (List.Perm.of_eq (List.append_nil _).symm)) (fun u => List.Perm.symm (by simpa only [List.append_assoc, List.append_nil] using (List.Perm.of_eq (List.append_nil _).symm))) (q0 := 0) rfl rfl rfl rfl rfl hl.1 (Nat.le_of_ble_eq_true rfl) dL_holds_7 ⟨Nat.le_refl _, Nat.le_refl _⟩ (fun r7 u7 H locs h7 hP hD hS => ?_)
      obtain ⟨z1_7, rfl⟩ : ∃ z, z = u7 := ⟨_, rfl⟩
      obtain ⟨rfl, h7_1⟩ := h7
      have hP : va_P D vwCl (wA kA mq q qc qp hq qs t cnt sv z1_7 x) H := hP
      have hD : va_D A (wA kA mq q qc qp hq qs t cnt sv z1_7 x) := hD
      refine n_icmp_ge (a := i) (b := ccT t) (tgt := 28) hx hb (by omega) (by omega) dL_holds_10 (by decide) (fun c10 => ?_) (fun c10 => ?_)
      · have e9 : i = ccT t := by omega
        have hcs : cs = nCs t := by rw [hcs0, e9]; rfl
        refine lv_iconst (v := (nI 0)) hx hb dL_holds_28 (by decide) ?_
        refine lv_istore_n (lv' := [(2, .int (nI 0)), (1, .int (nI cs)), (0, .ref mq)]) hx hb dL_holds_29 rfl hl (by decide) rfl (fun ls hl => ?_)
        refine lv_iconst (v := (nI 0)) hx hb dL_holds_30 (by decide) ?_
        refine lv_istore_n (lv' := [(3, .int (nI 0)), (2, .int (nI 0)), (1, .int (nI cs)), (0, .ref mq)]) hx hb dL_holds_31 rfl hl (by decide) rfl (fun ls hl => ?_)
        refine lv_iconst (v := (nI 0)) hx hb dL_holds_32 (by decide) ?_
        refine lv_istore (lv' := [(4, .int (nI 0)), (3, .int (nI 0)), (2, .int (nI 0)), (1, .int (nI cs)), (0, .ref mq)]) hx hb dL_holds_33 hl (by decide) rfl (fun ls hl => ?_)
        refine lv_aload_n hx hb dL_holds_35 rfl (lv_at hl 4 rfl) ?_
        refine lv_iconst (v := (nI 1)) hx hb dL_holds_36 (by decide) ?_
        refine n_wViE (b := mq) (As := [.int (nI 1)]) (rest := []) (wr := []) (ws' := fun u => (wA kA mq q qc qp hq qs t cnt sv u x)) hS0 (q_wh1 lQ D kA adK adV mq q qc qp hq qs t cnt sv z1_7 x H.size (by first | assumption | omega) (by first | assumption | omega)) (cwV 1 hts gL_holds_X5_whole rfl rfl rfl (by decide +kernel) ⟨Nat.le_of_ble_eq_true rfl, Nat.le_of_ble_eq_true rfl⟩) hP hD hS hE hA hK hK (by simpa only [List.append_assoc, List.append_nil] using (List.Perm.of_eq (List.append_nil _).symm)) (fun u => List.Perm.symm (by simpa only [List.append_assoc, List.append_nil] using (List.Perm.of_eq (List.append_nil _).symm))) (q0 := 0) rfl rfl rfl rfl rfl hl.1 (Nat.le_of_ble_eq_true rfl) dL_holds_37 ⟨Nat.le_refl _, Nat.le_refl _⟩ (fun r37 u37 H locs h37 hP hD hS => ?_)
        obtain ⟨z1_37, rfl⟩ : ∃ z, z = u37 := ⟨_, rfl⟩
        obtain ⟨rfl, h37_1⟩ := h37
        have hP : va_P D vwCl (wA kA mq q qc qp hq qs t cnt sv z1_37 x) H := hP
        have hD : va_D A (wA kA mq q qc qp hq qs t cnt sv z1_37 x) := hD
        refine lv_iload_n hx hb dL_holds_40 rfl (lv_at hl 3 rfl) ?_
        refine n_icmp_ne (a := nCs t) (b := cs) (tgt := 48) hx hb (by omega) (by omega) dL_holds_41 (by decide) (fun c41 => ?_) (fun c41 => ?_)
        · exact absurd hcs.symm c41
        · refine lv_iconst (v := (nI 1)) hx hb dL_holds_44 (by decide) ?_
          refine lv_goto (tgt := 49) hx hb dL_holds_45 (by decide) ?_
          refine lv_istore (lv' := [(5, .int (nI 1)), (4, .int (nI 0)), (3, .int (nI 0)), (2, .int (nI 0)), (1, .int (nI cs)), (0, .ref mq)]) hx hb dL_holds_49 hl (by decide) rfl (fun ls hl => ?_)
          refine lv_iconst (v := (nI 0)) hx hb dL_holds_51 (by decide) ?_
          refine lv_istore (lv' := [(6, .int (nI 0)), (5, .int (nI 1)), (4, .int (nI 0)), (3, .int (nI 0)), (2, .int (nI 0)), (1, .int (nI cs)), (0, .ref mq)]) hx hb dL_holds_52 hl (by decide) rfl (fun ls hl => ?_)
          have L54 : ∀ (nQ : Nat) (p0 : Nat) (ow0 : Nat) (to0 : Nat) (ne0 : Nat) (zw : ZC), rcT t - p0 < nQ → (p0 ≤ rcT t) → (ow0 = sumF (owT t) p0) → (to0 = sumF (toT t) p0) → (ne0 = cntB (fun p => decide (0 < owT t p)) p0) → (zOK t zw) → ∀ (H : Heap) (locs : List Loc), va_P D vwCl (wA kA mq q qc qp hq qs t cnt sv zw x) H → va_D A (wA kA mq q qc qp hq qs t cnt sv zw x) → va_S A s.heap H locs → ∀ (ls : Array Slot), lv_has ls 13 [(6, .int (nI p0)), (5, .int (nI 1)), (4, .int (nI ne0)), (3, .int (nI to0)), (2, .int (nI ow0)), (1, .int (nI cs)), (0, .ref mq)] → W pQ lQ eQ (headSpec wsL_holds (rmN 7 154)).room s mQ ([.ref mq] : List Value).toArray below meth cQ H locs 0 0 (MQ below (va_Qi (S := ZC) (fun (r : Int32) (u : ZC) => r = (bI true) ∧ zOK t u) (wr_B D vwCl (wA kA mq q qc qp hq qs t cnt sv z x) (tyK kA) s.heap.size (fun u => (wA kA mq q qc qp hq qs t cnt sv u x))) A) ([.ref mq] : List Value).toArray s 0 0 A) (F0 mQ 54 ls []) := by
            intro nQ
            induction nQ with
            | zero => intro p0 ow0 to0 ne0 zw hn; exact absurd hn (Nat.not_lt_zero _)
            | succ nQ ih54 =>
              intro p0 ow0 to0 ne0 zw hm54 hp0 how hto hne hzw H locs hP hD hS ls hl
              refine lv_iload hx hb dL_holds_54 (lv_at hl 0 rfl) ?_
              refine lv_aload_n hx hb dL_holds_56 rfl (lv_at hl 6 rfl) ?_
              refine lv_iconst (v := (nI 2)) hx hb dL_holds_57 (by decide) ?_
              refine n_wViE (b := mq) (As := [.int (nI 2)]) (rest := [.int (nI p0)]) (wr := []) (ws' := fun u => (wA kA mq q qc qp hq qs t cnt sv u x)) hS0 (q_wh2 lQ D kA adK adV mq q qc qp hq qs t cnt sv zw x H.size (by first | assumption | omega) (by first | assumption | omega)) (cwV 1 hts gL_holds_X5_whole rfl rfl rfl (by decide +kernel) ⟨Nat.le_of_ble_eq_true rfl, Nat.le_of_ble_eq_true rfl⟩) hP hD hS hE hA hK hK (by simpa only [List.append_assoc, List.append_nil] using (List.Perm.of_eq (List.append_nil _).symm)) (fun u => List.Perm.symm (by simpa only [List.append_assoc, List.append_nil] using (List.Perm.of_eq (List.append_nil _).symm))) (q0 := 0) rfl rfl rfl rfl rfl hl.1 (Nat.le_of_ble_eq_true rfl) dL_holds_58 ⟨Nat.le_refl _, Nat.le_refl _⟩ (fun r58 u58 H locs h58 hP hD hS => ?_)
              obtain ⟨z1_58, rfl⟩ : ∃ z, z = u58 := ⟨_, rfl⟩
              obtain ⟨rfl, h58_1⟩ := h58
              have hP : va_P D vwCl (wA kA mq q qc qp hq qs t cnt sv z1_58 x) H := hP
              have hD : va_D A (wA kA mq q qc qp hq qs t cnt sv z1_58 x) := hD
              refine n_icmp_ge (a := p0) (b := rcT t) (tgt := 203) hx hb (by omega) (by omega) dL_holds_61 (by decide) (fun c61 => ?_) (fun c61 => ?_)
              · have e8 : p0 = rcT t := by omega
                rw [e8] at how hto hne
                refine lv_iconst (v := (nI 0)) hx hb dL_holds_203 (by decide) ?_
                refine lv_istore (lv' := [(6, .int (nI 0)), (5, .int (nI 1)), (4, .int (nI ne0)), (3, .int (nI to0)), (2, .int (nI ow0)), (1, .int (nI cs)), (0, .ref mq)]) hx hb dL_holds_204 hl (by decide) rfl (fun ls hl => ?_)
                refine lv_iconst (v := (nI 0)) hx hb dL_holds_206 (by decide) ?_
                refine lv_istore (lv' := [(7, .int (nI 0)), (6, .int (nI 0)), (5, .int (nI 1)), (4, .int (nI ne0)), (3, .int (nI to0)), (2, .int (nI ow0)), (1, .int (nI cs)), (0, .ref mq)]) hx hb dL_holds_207 hl (by decide) rfl (fun ls hl => ?_)
                refine lv_iconst (v := (nI 0)) hx hb dL_holds_209 (by decide) ?_
                refine lv_istore (lv' := [(8, .int (nI 0)), (7, .int (nI 0)), (6, .int (nI 0)), (5, .int (nI 1)), (4, .int (nI ne0)), (3, .int (nI to0)), (2, .int (nI ow0)), (1, .int (nI cs)), (0, .ref mq)]) hx hb dL_holds_210 hl (by decide) rfl (fun ls hl => ?_)
                refine lv_iconst (v := (nI 0)) hx hb dL_holds_212 (by decide) ?_
                refine lv_istore (lv' := [(9, .int (nI 0)), (8, .int (nI 0)), (7, .int (nI 0)), (6, .int (nI 0)), (5, .int (nI 1)), (4, .int (nI ne0)), (3, .int (nI to0)), (2, .int (nI ow0)), (1, .int (nI cs)), (0, .ref mq)]) hx hb dL_holds_213 hl (by decide) rfl (fun ls hl => ?_)
                refine lv_iconst (v := (nI 0)) hx hb dL_holds_215 (by decide) ?_
                refine lv_istore (lv' := [(10, .int (nI 0)), (9, .int (nI 0)), (8, .int (nI 0)), (7, .int (nI 0)), (6, .int (nI 0)), (5, .int (nI 1)), (4, .int (nI ne0)), (3, .int (nI to0)), (2, .int (nI ow0)), (1, .int (nI cs)), (0, .ref mq)]) hx hb dL_holds_216 hl (by decide) rfl (fun ls hl => ?_)
                refine lv_iconst (v := (nI 0)) hx hb dL_holds_218 (by decide) ?_
                refine lv_istore (lv' := [(11, .int (nI 0)), (10, .int (nI 0)), (9, .int (nI 0)), (8, .int (nI 0)), (7, .int (nI 0)), (6, .int (nI 0)), (5, .int (nI 1)), (4, .int (nI ne0)), (3, .int (nI to0)), (2, .int (nI ow0)), (1, .int (nI cs)), (0, .ref mq)]) hx hb dL_holds_219 hl (by decide) rfl (fun ls hl => ?_)
                have L221 : ∀ (nQ : Nat) (k0 : Nat) (mn : Nat) (ov0 : Nat) (cf0 : Nat) (ho0 : Nat) (ac0 : Nat) (zv : ZC), cs - k0 < nQ → (k0 ≤ cs) → (mn = sumF (ctT t) k0) → (ov0 = cntB (fun c => decide (2 ≤ ctT t c)) k0) → (cf0 = cntB (fun c => cfT t c) k0) → (ho0 = hoT t k0) → (ac0 = orN (axT t) k0) → (zOK t zv) → ∀ (H : Heap) (locs : List Loc), va_P D vwCl (wA kA mq q qc qp hq qs t cnt sv zv x) H → va_D A (wA kA mq q qc qp hq qs t cnt sv zv x) → va_S A s.heap H locs → ∀ (ls : Array Slot), lv_has ls 13 [(11, .int (nI k0)), (10, .int (nI ac0)), (9, .int (nI ho0)), (8, .int (nI cf0)), (7, .int (nI ov0)), (6, .int (nI mn)), (5, .int (nI 1)), (4, .int (nI ne0)), (3, .int (nI to0)), (2, .int (nI ow0)), (1, .int (nI cs)), (0, .ref mq)] → W pQ lQ eQ (headSpec wsL_holds (rmN 7 154)).room s mQ ([.ref mq] : List Value).toArray below meth cQ H locs 0 0 (MQ below (va_Qi (S := ZC) (fun (r : Int32) (u : ZC) => r = (bI true) ∧ zOK t u) (wr_B D vwCl (wA kA mq q qc qp hq qs t cnt sv z x) (tyK kA) s.heap.size (fun u => (wA kA mq q qc qp hq qs t cnt sv u x))) A) ([.ref mq] : List Value).toArray s 0 0 A) (F0 mQ 221 ls []) := by
                  intro nQ
                  induction nQ with
                  | zero => intro k0 mn ov0 cf0 ho0 ac0 zv hn; exact absurd hn (Nat.not_lt_zero _)
                  | succ nQ ih221 =>
                    intro k0 mn ov0 cf0 ho0 ac0 zv hm221 hk0 hmn hov hcf hho hac hzv H locs hP hD hS ls hl
                    refine lv_iload hx hb dL_holds_221 (lv_at hl 0 rfl) ?_
                    refine lv_iload_n hx hb dL_holds_223 rfl (lv_at hl 10 rfl) ?_
                    refine n_icmp_ge (a := k0) (b := cs) (tgt := 357) hx hb (by omega) (by omega) dL_holds_224 (by decide) (fun c224 => ?_) (fun c224 => ?_)
                    · have e7 : k0 = nCs t := by omega
                      rw [e7] at hmn hov hcf hho hac
                      have hmt : mn = to0 := by rw [hmn, hto]; exact many_T hok
                      have hmb : mn ≤ nCs t * 20 := by rw [hmn]; exact sum_le (ct_le hok) _
                      have hoh : ow0 + ho0 = nCs t := by rw [how, hho]; exact own_T t
                      have hov8 : ov0 ≤ nCs t := by rw [hov]; exact cntB_le _ _
                      have hcf8 : cf0 ≤ nCs t := by rw [hcf]; exact cntB_le _ _
                      have hne8 : ne0 ≤ rcT t := by rw [hne]; exact cntB_le _ _
                      have hac8 : ac0 < 2048 := by rw [hac]; exact orN_lt (fun j _ => okT_ax hok j)
                      refine lv_iconst (v := (nI 0)) hx hb dL_holds_357 (by decide) ?_
                      refine lv_istore (lv' := [(11, .int (nI 0)), (10, .int (nI ac0)), (9, .int (nI ho0)), (8, .int (nI cf0)), (7, .int (nI ov0)), (6, .int (nI mn)), (5, .int (nI 1)), (4, .int (nI ne0)), (3, .int (nI to0)), (2, .int (nI ow0)), (1, .int (nI cs)), (0, .ref mq)]) hx hb dL_holds_358 hl (by decide) rfl (fun ls hl => ?_)
                      refine lv_iconst (v := (nI 0)) hx hb dL_holds_360 (by decide) ?_
                      refine lv_istore (lv' := [(12, .int (nI 0)), (11, .int (nI 0)), (10, .int (nI ac0)), (9, .int (nI ho0)), (8, .int (nI cf0)), (7, .int (nI ov0)), (6, .int (nI mn)), (5, .int (nI 1)), (4, .int (nI ne0)), (3, .int (nI to0)), (2, .int (nI ow0)), (1, .int (nI cs)), (0, .ref mq)]) hx hb dL_holds_361 hl (by decide) rfl (fun ls hl => ?_)
                      have L363 : ∀ (nQ : Nat) (i0 : Nat) (un : Nat), 11 - i0 < nQ → (i0 ≤ 11) → (un = bitsN ac0 i0) → ∀ (H : Heap) (locs : List Loc), va_P D vwCl (wA kA mq q qc qp hq qs t cnt sv zv x) H → va_D A (wA kA mq q qc qp hq qs t cnt sv zv x) → va_S A s.heap H locs → ∀ (ls : Array Slot), lv_has ls 13 [(12, .int (nI i0)), (11, .int (nI un)), (10, .int (nI ac0)), (9, .int (nI ho0)), (8, .int (nI cf0)), (7, .int (nI ov0)), (6, .int (nI mn)), (5, .int (nI 1)), (4, .int (nI ne0)), (3, .int (nI to0)), (2, .int (nI ow0)), (1, .int (nI cs)), (0, .ref mq)] → W pQ lQ eQ (headSpec wsL_holds (rmN 7 154)).room s mQ ([.ref mq] : List Value).toArray below meth cQ H locs 0 0 (MQ below (va_Qi (S := ZC) (fun (r : Int32) (u : ZC) => r = (bI true) ∧ zOK t u) (wr_B D vwCl (wA kA mq q qc qp hq qs t cnt sv z x) (tyK kA) s.heap.size (fun u => (wA kA mq q qc qp hq qs t cnt sv u x))) A) ([.ref mq] : List Value).toArray s 0 0 A) (F0 mQ 363 ls []) := by
                        intro nQ
                        induction nQ with
                        | zero => intro i0 un hn; exact absurd hn (Nat.not_lt_zero _)
                        | succ nQ ih363 =>
                          intro i0 un hm363 hi0 hun H locs hP hD hS ls hl
                          refine lv_iload hx hb dL_holds_363 (lv_at hl 0 rfl) ?_
                          refine lv_bipush (v := (nI 11)) hx hb dL_holds_365 (by decide) ?_
                          refine n_icmp_ge (a := i0) (b := 11) (tgt := 388) hx hb (by omega) (by omega) dL_holds_367 (by decide) (fun c367 => ?_) (fun c367 => ?_)
                          · have e6 : i0 = 11 := by omega
                            rw [e6] at hun
                            have hun8 : un ≤ 11 := by rw [hun]; exact bitsN_le _ _
                            refine lv_iload hx hb dL_holds_388 (lv_at hl 7 rfl) ?_
                            refine lv_if_eq (tgt := 451) hx hb dL_holds_390 (by decide) (fun h => absurd h (by decide)) (fun _ => ?_)
                            refine lv_iload hx hb dL_holds_393 (lv_at hl 6 rfl) ?_
                            refine lv_iload_n hx hb dL_holds_395 rfl (lv_at hl 9 rfl) ?_
                            refine n_icmp_ne (a := mn) (b := to0) (tgt := 451) hx hb (by omega) (by omega) dL_holds_396 (by decide) (fun c396 => ?_) (fun c396 => ?_)
                            · exact absurd hmt c396
                            · refine lv_iload_n hx hb dL_holds_399 rfl (lv_at hl 10 rfl) ?_
                              refine lv_iload hx hb dL_holds_400 (lv_at hl 3 rfl) ?_
                              refine n_iadd (v := (nI (ow0 + ho0))) hx hb (nI_add _ _) dL_holds_402 ?_
                              refine lv_iload_n hx hb dL_holds_403 rfl (lv_at hl 11 rfl) ?_
                              refine n_icmp_ne (a := ow0 + ho0) (b := cs) (tgt := 451) hx hb (by omega) (by omega) dL_holds_404 (by decide) (fun c404 => ?_) (fun c404 => ?_)
                              · exact absurd (by rw [hcs]; exact hoh) c404
                              · refine lv_aload_n hx hb dL_holds_407 rfl (lv_at hl 12 rfl) ?_
                                refine lv_iload hx hb dL_holds_408 (lv_at hl 3 rfl) ?_
                                refine n_wViE (b := mq) (As := [.int (nI ho0)]) (rest := []) (wr := []) (ws' := fun u => (wA kA mq q qc qp hq qs t cnt sv u x)) hS0 (q_hoN lQ D kA adK adV mq q qc qp hq qs t cnt sv zv x ho0 H.size (by first | assumption | omega) (by first | assumption | omega) hho) (cwV 1 hts gL_holds_X5_hole rfl rfl rfl (by decide +kernel) ⟨Nat.le_of_ble_eq_true rfl, Nat.le_of_ble_eq_true rfl⟩) hP hD hS hE hA hK hK (by simpa only [List.append_assoc, List.append_nil] using (List.Perm.of_eq (List.append_nil _).symm)) (fun u => List.Perm.symm (by simpa only [List.append_assoc, List.append_nil] using (List.Perm.of_eq (List.append_nil _).symm))) (q0 := 0) rfl rfl rfl rfl rfl hl.1 (Nat.le_of_ble_eq_true rfl) dL_holds_410 ⟨Nat.le_refl _, Nat.le_refl _⟩ (fun r410 u410 H locs h410 hP hD hS => ?_)
                                obtain ⟨z1_410, rfl⟩ : ∃ z, z = u410 := ⟨_, rfl⟩
                                obtain ⟨rfl, h410_1⟩ := h410
                                have hP : va_P D vwCl (wA kA mq q qc qp hq qs t cnt sv z1_410 x) H := hP
                                have hD : va_D A (wA kA mq q qc qp hq qs t cnt sv z1_410 x) := hD
                                refine lv_iconst (v := (oI none)) hx hb dL_holds_413 (by decide) ?_
                                refine lv_icmp_ne (tgt := 451) hx hb dL_holds_414 (by decide) (fun h => absurd (by decide) h) (fun _ => ?_)
                                refine lv_aload_n hx hb dL_holds_417 rfl (lv_at hl 12 rfl) ?_
                                refine lv_iconst (v := (nI 3)) hx hb dL_holds_418 (by decide) ?_
                                refine n_wViE (b := mq) (As := [.int (nI 3)]) (rest := []) (wr := []) (ws' := fun u => (wA kA mq q qc qp hq qs t cnt sv u x)) hS0 (q_wh3 lQ D kA adK adV mq q qc qp hq qs t cnt sv z1_410 x H.size (by first | assumption | omega) (by first | assumption | omega)) (cwV 1 hts gL_holds_X5_whole rfl rfl rfl (by decide +kernel) ⟨Nat.le_of_ble_eq_true rfl, Nat.le_of_ble_eq_true rfl⟩) hP hD hS hE hA hK hK (by simpa only [List.append_assoc, List.append_nil] using (List.Perm.of_eq (List.append_nil _).symm)) (fun u => List.Perm.symm (by simpa only [List.append_assoc, List.append_nil] using (List.Perm.of_eq (List.append_nil _).symm))) (q0 := 0) rfl rfl rfl rfl rfl hl.1 (Nat.le_of_ble_eq_true rfl) dL_holds_419 ⟨Nat.le_refl _, Nat.le_refl _⟩ (fun r419 u419 H locs h419 hP hD hS => ?_)
                                obtain ⟨z1_419, rfl⟩ : ∃ z, z = u419 := ⟨_, rfl⟩
                                obtain ⟨rfl, h419_1⟩ := h419
                                have hP : va_P D vwCl (wA kA mq q qc qp hq qs t cnt sv z1_419 x) H := hP
                                have hD : va_D A (wA kA mq q qc qp hq qs t cnt sv z1_419 x) := hD
                                refine lv_iload hx hb dL_holds_422 (lv_at hl 3 rfl) ?_
                                refine n_icmp_ne (a := hoT t (nCs t)) (b := ho0) (tgt := 451) hx hb (by have := hoT_le t (nCs t); omega) (by omega) dL_holds_424 (by decide) (fun c424 => ?_) (fun c424 => ?_)
                                · exact absurd hho.symm c424
                                · refine lv_aload_n hx hb dL_holds_427 rfl (lv_at hl 12 rfl) ?_
                                  refine lv_iconst (v := (nI 4)) hx hb dL_holds_428 (by decide) ?_
                                  refine n_wViE (b := mq) (As := [.int (nI 4)]) (rest := []) (wr := []) (ws' := fun u => (wA kA mq q qc qp hq qs t cnt sv u x)) hS0 (q_wh4 lQ D kA adK adV mq q qc qp hq qs t cnt sv z1_419 x H.size (by first | assumption | omega) (by first | assumption | omega)) (cwV 1 hts gL_holds_X5_whole rfl rfl rfl (by decide +kernel) ⟨Nat.le_of_ble_eq_true rfl, Nat.le_of_ble_eq_true rfl⟩) hP hD hS hE hA hK hK (by simpa only [List.append_assoc, List.append_nil] using (List.Perm.of_eq (List.append_nil _).symm)) (fun u => List.Perm.symm (by simpa only [List.append_assoc, List.append_nil] using (List.Perm.of_eq (List.append_nil _).symm))) (q0 := 0) rfl rfl rfl rfl rfl hl.1 (Nat.le_of_ble_eq_true rfl) dL_holds_429 ⟨Nat.le_refl _, Nat.le_refl _⟩ (fun r429 u429 H locs h429 hP hD hS => ?_)
                                  obtain ⟨z1_429, rfl⟩ : ∃ z, z = u429 := ⟨_, rfl⟩
                                  obtain ⟨rfl, h429_1⟩ := h429
                                  have hP : va_P D vwCl (wA kA mq q qc qp hq qs t cnt sv z1_429 x) H := hP
                                  have hD : va_D A (wA kA mq q qc qp hq qs t cnt sv z1_429 x) := hD
                                  refine lv_iload hx hb dL_holds_432 (lv_at hl 5 rfl) ?_
                                  refine n_icmp_ne (a := cntB (fun c => decide (2 ≤ ctT t c)) (nCs t)) (b := ov0) (tgt := 451) hx hb (Nat.lt_of_le_of_lt (Nat.le_trans (cntB_le _ _) hnc) (by decide)) (by omega) dL_holds_434 (by decide) (fun c434 => ?_) (fun c434 => ?_)
                                  · exact absurd hov.symm c434
                                  · refine lv_aload_n hx hb dL_holds_437 rfl (lv_at hl 12 rfl) ?_
                                    refine lv_iconst (v := (nI 5)) hx hb dL_holds_438 (by decide) ?_
                                    refine n_wViE (b := mq) (As := [.int (nI 5)]) (rest := []) (wr := []) (ws' := fun u => (wA kA mq q qc qp hq qs t cnt sv u x)) hS0 (q_wh5 lQ D kA adK adV mq q qc qp hq qs t cnt sv z1_429 x H.size (by first | assumption | omega) (by first | assumption | omega)) (cwV 1 hts gL_holds_X5_whole rfl rfl rfl (by decide +kernel) ⟨Nat.le_of_ble_eq_true rfl, Nat.le_of_ble_eq_true rfl⟩) hP hD hS hE hA hK hK (by simpa only [List.append_assoc, List.append_nil] using (List.Perm.of_eq (List.append_nil _).symm)) (fun u => List.Perm.symm (by simpa only [List.append_assoc, List.append_nil] using (List.Perm.of_eq (List.append_nil _).symm))) (q0 := 0) rfl rfl rfl rfl rfl hl.1 (Nat.le_of_ble_eq_true rfl) dL_holds_439 ⟨Nat.le_refl _, Nat.le_refl _⟩ (fun r439 u439 H locs h439 hP hD hS => ?_)
                                    obtain ⟨z1_439, rfl⟩ : ∃ z, z = u439 := ⟨_, rfl⟩
                                    obtain ⟨rfl, h439_1⟩ := h439
                                    have hP : va_P D vwCl (wA kA mq q qc qp hq qs t cnt sv z1_439 x) H := hP
                                    have hD : va_D A (wA kA mq q qc qp hq qs t cnt sv z1_439 x) := hD
                                    refine lv_iload hx hb dL_holds_442 (lv_at hl 4 rfl) ?_
                                    refine n_icmp_ne (a := cntB (fun c => cfT t c) (nCs t)) (b := cf0) (tgt := 451) hx hb (Nat.lt_of_le_of_lt (Nat.le_trans (cntB_le _ _) hnc) (by decide)) (by omega) dL_holds_444 (by decide) (fun c444 => ?_) (fun c444 => ?_)
                                    · exact absurd hcf.symm c444
                                    · refine lv_iconst (v := (nI 1)) hx hb dL_holds_447 (by decide) ?_
                                      refine lv_goto (tgt := 452) hx hb dL_holds_448 (by decide) ?_
                                      refine lv_istore (lv' := [(5, .int (nI 1)), (12, .int (nI i0)), (11, .int (nI un)), (10, .int (nI ac0)), (9, .int (nI ho0)), (8, .int (nI cf0)), (7, .int (nI ov0)), (6, .int (nI mn)), (4, .int (nI ne0)), (3, .int (nI to0)), (2, .int (nI ow0)), (1, .int (nI cs)), (0, .ref mq)]) hx hb dL_holds_452 hl (by decide) rfl (fun ls hl => ?_)
                                      refine lv_iload hx hb dL_holds_454 (lv_at hl 0 rfl) ?_
                                      refine lv_if_eq (tgt := 498) hx hb dL_holds_456 (by decide) (fun h => absurd h (by decide)) (fun _ => ?_)
                                      refine lv_aload_n hx hb dL_holds_459 rfl (lv_at hl 12 rfl) ?_
                                      refine lv_bipush (v := (nI 6)) hx hb dL_holds_460 (by decide) ?_
                                      refine n_wViE (b := mq) (As := [.int (nI 6)]) (rest := []) (wr := []) (ws' := fun u => (wA kA mq q qc qp hq qs t cnt sv u x)) hS0 (q_wh6 lQ D kA adK adV mq q qc qp hq qs t cnt sv z1_439 x H.size (by first | assumption | omega) (by first | assumption | omega)) (cwV 1 hts gL_holds_X5_whole rfl rfl rfl (by decide +kernel) ⟨Nat.le_of_ble_eq_true rfl, Nat.le_of_ble_eq_true rfl⟩) hP hD hS hE hA hK hK (by simpa only [List.append_assoc, List.append_nil] using (List.Perm.of_eq (List.append_nil _).symm)) (fun u => List.Perm.symm (by simpa only [List.append_assoc, List.append_nil] using (List.Perm.of_eq (List.append_nil _).symm))) (q0 := 0) rfl rfl rfl rfl rfl hl.1 (Nat.le_of_ble_eq_true rfl) dL_holds_462 ⟨Nat.le_refl _, Nat.le_refl _⟩ (fun r462 u462 H locs h462 hP hD hS => ?_)
                                      obtain ⟨z1_462, rfl⟩ : ∃ z, z = u462 := ⟨_, rfl⟩
                                      obtain ⟨rfl, h462_1⟩ := h462
                                      have hP : va_P D vwCl (wA kA mq q qc qp hq qs t cnt sv z1_462 x) H := hP
                                      have hD : va_D A (wA kA mq q qc qp hq qs t cnt sv z1_462 x) := hD
                                      refine lv_iload hx hb dL_holds_465 (lv_at hl 8 rfl) ?_
                                      refine n_icmp_ne (a := cntB (fun p => decide (0 < owT t p)) (rcT t)) (b := ne0) (tgt := 498) hx hb (Nat.lt_of_le_of_lt (Nat.le_trans (cntB_le _ _) hrc) (by decide)) (by omega) dL_holds_467 (by decide) (fun c467 => ?_) (fun c467 => ?_)
                                      · exact absurd hne.symm c467
                                      · refine lv_aload_n hx hb dL_holds_470 rfl (lv_at hl 12 rfl) ?_
                                        refine lv_bipush (v := (nI 9)) hx hb dL_holds_471 (by decide) ?_
                                        refine n_wViE (b := mq) (As := [.int (nI 9)]) (rest := []) (wr := []) (ws' := fun u => (wA kA mq q qc qp hq qs t cnt sv u x)) hS0 (q_wh9 lQ D kA adK adV mq q qc qp hq qs t cnt sv z1_462 x H.size (by first | assumption | omega) (by first | assumption | omega)) (cwV 1 hts gL_holds_X5_whole rfl rfl rfl (by decide +kernel) ⟨Nat.le_of_ble_eq_true rfl, Nat.le_of_ble_eq_true rfl⟩) hP hD hS hE hA hK hK (by simpa only [List.append_assoc, List.append_nil] using (List.Perm.of_eq (List.append_nil _).symm)) (fun u => List.Perm.symm (by simpa only [List.append_assoc, List.append_nil] using (List.Perm.of_eq (List.append_nil _).symm))) (q0 := 0) rfl rfl rfl rfl rfl hl.1 (Nat.le_of_ble_eq_true rfl) dL_holds_473 ⟨Nat.le_refl _, Nat.le_refl _⟩ (fun r473 u473 H locs h473 hP hD hS => ?_)
                                        obtain ⟨z1_473, rfl⟩ : ∃ z, z = u473 := ⟨_, rfl⟩
                                        obtain ⟨rfl, h473_1⟩ := h473
                                        have hP : va_P D vwCl (wA kA mq q qc qp hq qs t cnt sv z1_473 x) H := hP
                                        have hD : va_D A (wA kA mq q qc qp hq qs t cnt sv z1_473 x) := hD
                                        refine lv_iload hx hb dL_holds_476 (lv_at hl 2 rfl) ?_
                                        refine n_icmp_ne (a := bitsN (orN (axT t) (nCs t)) 11) (b := un) (tgt := 498) hx hb (Nat.lt_of_le_of_lt (bitsN_le _ _) (by decide)) (by omega) dL_holds_478 (by decide) (fun c478 => ?_) (fun c478 => ?_)
                                        · exact absurd (by rw [hun, hac]) c478
                                        · refine lv_aload_n hx hb dL_holds_481 rfl (lv_at hl 12 rfl) ?_
                                          refine lv_aload_n hx hb dL_holds_482 rfl (lv_at hl 12 rfl) ?_
                                          refine lv_iconst (v := (nI 2)) hx hb dL_holds_483 (by decide) ?_
                                          refine n_wViE (b := mq) (As := [.int (nI 2)]) (rest := [.ref mq]) (wr := []) (ws' := fun u => (wA kA mq q qc qp hq qs t cnt sv u x)) hS0 (q_wh2 lQ D kA adK adV mq q qc qp hq qs t cnt sv z1_473 x H.size (by first | assumption | omega) (by first | assumption | omega)) (cwV 1 hts gL_holds_X5_whole rfl rfl rfl (by decide +kernel) ⟨Nat.le_of_ble_eq_true rfl, Nat.le_of_ble_eq_true rfl⟩) hP hD hS hE hA hK hK (by simpa only [List.append_assoc, List.append_nil] using (List.Perm.of_eq (List.append_nil _).symm)) (fun u => List.Perm.symm (by simpa only [List.append_assoc, List.append_nil] using (List.Perm.of_eq (List.append_nil _).symm))) (q0 := 0) rfl rfl rfl rfl rfl hl.1 (Nat.le_of_ble_eq_true rfl) dL_holds_484 ⟨Nat.le_refl _, Nat.le_refl _⟩ (fun r484 u484 H locs h484 hP hD hS => ?_)
                                          obtain ⟨z1_484, rfl⟩ : ∃ z, z = u484 := ⟨_, rfl⟩
                                          obtain ⟨rfl, h484_1⟩ := h484
                                          have hP : va_P D vwCl (wA kA mq q qc qp hq qs t cnt sv z1_484 x) H := hP
                                          have hD : va_D A (wA kA mq q qc qp hq qs t cnt sv z1_484 x) := hD
                                          refine n_wViE (b := mq) (As := [.int (nI (rcT t))]) (rest := []) (wr := []) (ws' := fun u => (wA kA mq q qc qp hq qs t cnt sv u x)) hS0 (q_raN lQ D kA adK adV mq q qc qp hq qs t cnt sv z1_484 x (rcT t) H.size (by first | assumption | omega) (by first | assumption | omega) rfl) (cwV 1 hts gL_holds_X5_rowAt rfl rfl rfl (by decide +kernel) ⟨Nat.le_of_ble_eq_true rfl, Nat.le_of_ble_eq_true rfl⟩) hP hD hS hE hA hK hK (by simpa only [List.append_assoc, List.append_nil] using (List.Perm.of_eq (List.append_nil _).symm)) (fun u => List.Perm.symm (by simpa only [List.append_assoc, List.append_nil] using (List.Perm.of_eq (List.append_nil _).symm))) (q0 := 0) rfl rfl rfl rfl rfl hl.1 (Nat.le_of_ble_eq_true rfl) dL_holds_487 ⟨Nat.le_refl _, Nat.le_refl _⟩ (fun r487 u487 H locs h487 hP hD hS => ?_)
                                          obtain ⟨z1_487, rfl⟩ : ∃ z, z = u487 := ⟨_, rfl⟩
                                          obtain ⟨rfl, h487_1⟩ := h487
                                          have hP : va_P D vwCl (wA kA mq q qc qp hq qs t cnt sv z1_487 x) H := hP
                                          have hD : va_D A (wA kA mq q qc qp hq qs t cnt sv z1_487 x) := hD
                                          refine lv_iconst (v := (oI none)) hx hb dL_holds_490 (by decide) ?_
                                          refine lv_icmp_ne (tgt := 498) hx hb dL_holds_491 (by decide) (fun h => absurd (by decide) h) (fun _ => ?_)
                                          refine lv_iconst (v := (nI 1)) hx hb dL_holds_494 (by decide) ?_
                                          refine lv_goto (tgt := 499) hx hb dL_holds_495 (by decide) ?_
                                          exact n_wretz hx hb hr hlocks (post := fun (r : Int32) (u : ZC) => r = (bI true) ∧ zOK t u) (w1 := fun u => (wA kA mq q qc qp hq qs t cnt sv u x)) rfl z1_487 ⟨rfl, by assumption⟩ hP hD hK hS hAe dL_holds_499
                          · refine lv_iload hx hb dL_holds_370 (lv_at hl 1 rfl) ?_
                            refine lv_iload hx hb dL_holds_372 (lv_at hl 2 rfl) ?_
                            refine lv_iload hx hb dL_holds_374 (lv_at hl 0 rfl) ?_
                            refine n_ishr (v := (nI (ac0 >>> i0))) hx hb (nN_shr (by omega) (by omega)) dL_holds_376 ?_
                            refine lv_iconst (v := (nI 1)) hx hb dL_holds_377 (by decide) ?_
                            refine n_iand (v := (nI ((ac0 >>> i0) &&& 1))) hx hb (nN_and _ _) dL_holds_378 ?_
                            refine n_iadd (v := (nI (un + ((ac0 >>> i0) &&& 1)))) hx hb (nI_add _ _) dL_holds_379 ?_
                            refine lv_istore (lv' := [(11, .int (nI (un + ((ac0 >>> i0) &&& 1)))), (12, .int (nI i0)), (10, .int (nI ac0)), (9, .int (nI ho0)), (8, .int (nI cf0)), (7, .int (nI ov0)), (6, .int (nI mn)), (5, .int (nI 1)), (4, .int (nI ne0)), (3, .int (nI to0)), (2, .int (nI ow0)), (1, .int (nI cs)), (0, .ref mq)]) hx hb dL_holds_380 hl (by decide) rfl (fun ls hl => ?_)
                            refine lv_iinc (v := (nI (i0 + 1))) (lv' := [(12, .int (nI (i0 + 1))), (11, .int (nI (un + ((ac0 >>> i0) &&& 1)))), (10, .int (nI ac0)), (9, .int (nI ho0)), (8, .int (nI cf0)), (7, .int (nI ov0)), (6, .int (nI mn)), (5, .int (nI 1)), (4, .int (nI ne0)), (3, .int (nI to0)), (2, .int (nI ow0)), (1, .int (nI cs)), (0, .ref mq)]) hx hb dL_holds_382 hl (k := 1) rfl (nI_inc _) (by decide) rfl (fun ls hl => ?_)
                            refine lv_goto (tgt := 363) hx hb dL_holds_385 (by decide) ?_
                            exact ih363 (i0 + 1) (un + ((ac0 >>> i0) &&& 1)) (by omega) (by first | assumption | omega) (by rw [hun]; rfl) _ _ hP hD hS _ (lv_sub hl [0, 1, 2, 3, 4, 5, 6, 7, 8, 9, 10, 11, 12] rfl)
                      exact L363 ((11 - 0) + 1) 0 0 (Nat.lt_succ_self _) (by first | assumption | omega) rfl _ _ hP hD hS _ (lv_sub hl [0, 1, 2, 3, 4, 5, 6, 7, 8, 9, 10, 11, 12] rfl)
                    · have hct := ct_le hok k0
                      have hax8 := okT_ax hok k0
                      have hk8 : k0 < nCs t := by omega
                      refine lv_iload hx hb dL_holds_227 (lv_at hl 6 rfl) ?_
                      refine lv_if_eq (tgt := 357) hx hb dL_holds_229 (by decide) (fun h => absurd h (by decide)) (fun _ => ?_)
                      refine lv_aload_n hx hb dL_holds_232 rfl (lv_at hl 11 rfl) ?_
                      refine lv_iload hx hb dL_holds_233 (lv_at hl 0 rfl) ?_
                      refine lv_iconst (v := (nI 2)) hx hb dL_holds_235 (by decide) ?_
                      refine n_wViE (b := mq) (As := [.int (nI k0), .int (nI 2)]) (rest := []) (wr := []) (ws' := fun u => (wA kA mq q qc qp hq qs t cnt sv u x)) hS0 (q_ca2 lQ D kA adK adV mq q qc qp hq qs t cnt sv zv x k0 H.size (by first | assumption | omega) (by first | assumption | omega) (by first | assumption | omega)) (cwV 2 hts gL_holds_X5_caseOf rfl rfl rfl (by decide +kernel) ⟨Nat.le_of_ble_eq_true rfl, Nat.le_of_ble_eq_true rfl⟩) hP hD hS hE hA hK hK (by simpa only [List.append_assoc, List.append_nil] using (List.Perm.of_eq (List.append_nil _).symm)) (fun u => List.Perm.symm (by simpa only [List.append_assoc, List.append_nil] using (List.Perm.of_eq (List.append_nil _).symm))) (q0 := 0) rfl rfl rfl rfl rfl hl.1 (Nat.le_of_ble_eq_true rfl) dL_holds_236 ⟨Nat.le_refl _, Nat.le_refl _⟩ (fun r236 u236 H locs h236 hP hD hS => ?_)
                      obtain ⟨z1_236, rfl⟩ : ∃ z, z = u236 := ⟨_, rfl⟩
                      obtain ⟨rfl, h236_1⟩ := h236
                      have hP : va_P D vwCl (wA kA mq q qc qp hq qs t cnt sv z1_236 x) H := hP
                      have hD : va_D A (wA kA mq q qc qp hq qs t cnt sv z1_236 x) := hD
                      refine lv_istore (lv' := [(12, .int (nI (ctT t k0))), (11, .int (nI k0)), (10, .int (nI ac0)), (9, .int (nI ho0)), (8, .int (nI cf0)), (7, .int (nI ov0)), (6, .int (nI mn)), (5, .int (nI 1)), (4, .int (nI ne0)), (3, .int (nI to0)), (2, .int (nI ow0)), (1, .int (nI cs)), (0, .ref mq)]) hx hb dL_holds_239 hl (by decide) rfl (fun ls hl => ?_)
                      refine lv_iload hx hb dL_holds_241 (lv_at hl 6 rfl) ?_
                      refine lv_iload hx hb dL_holds_243 (lv_at hl 0 rfl) ?_
                      refine n_iadd (v := (nI (mn + (ctT t k0)))) hx hb (nI_add _ _) dL_holds_245 ?_
                      refine lv_istore (lv' := [(6, .int (nI (mn + (ctT t k0)))), (12, .int (nI (ctT t k0))), (11, .int (nI k0)), (10, .int (nI ac0)), (9, .int (nI ho0)), (8, .int (nI cf0)), (7, .int (nI ov0)), (5, .int (nI 1)), (4, .int (nI ne0)), (3, .int (nI to0)), (2, .int (nI ow0)), (1, .int (nI cs)), (0, .ref mq)]) hx hb dL_holds_246 hl (by decide) rfl (fun ls hl => ?_)
                      refine lv_iload hx hb dL_holds_248 (lv_at hl 6 rfl) ?_
                      refine lv_iload hx hb dL_holds_250 (lv_at hl 1 rfl) ?_
                      refine lv_iconst (v := (nI 1)) hx hb dL_holds_252 (by decide) ?_
                      refine n_icmp_le (a := ctT t k0) (b := 1) (tgt := 260) hx hb (by omega) (by omega) dL_holds_253 (by decide) (fun c253 => ?_) (fun c253 => ?_)
                      · refine lv_iconst (v := (nI 0)) hx hb dL_holds_260 (by decide) ?_
                        refine n_iadd (v := (nI ov0)) hx hb (nI_add _ _) dL_holds_261 ?_
                        refine lv_istore (lv' := [(7, .int (nI ov0)), (6, .int (nI (mn + (ctT t k0)))), (12, .int (nI (ctT t k0))), (11, .int (nI k0)), (10, .int (nI ac0)), (9, .int (nI ho0)), (8, .int (nI cf0)), (5, .int (nI 1)), (4, .int (nI ne0)), (3, .int (nI to0)), (2, .int (nI ow0)), (1, .int (nI cs)), (0, .ref mq)]) hx hb dL_holds_262 hl (by decide) rfl (fun ls hl => ?_)
                        refine lv_iload hx hb dL_holds_264 (lv_at hl 6 rfl) ?_
                        refine lv_aload_n hx hb dL_holds_266 rfl (lv_at hl 12 rfl) ?_
                        refine lv_iload hx hb dL_holds_267 (lv_at hl 3 rfl) ?_
                        refine lv_iconst (v := (nI 3)) hx hb dL_holds_269 (by decide) ?_
                        refine n_wViE (b := mq) (As := [.int (nI k0), .int (nI 3)]) (rest := [.int (nI cf0)]) (wr := []) (ws' := fun u => (wA kA mq q qc qp hq qs t cnt sv u x)) hS0 (q_ca3 lQ D kA adK adV mq q qc qp hq qs t cnt sv z1_236 x k0 H.size (by first | assumption | omega) (by first | assumption | omega) (by first | assumption | omega)) (cwV 2 hts gL_holds_X5_caseOf rfl rfl rfl (by decide +kernel) ⟨Nat.le_of_ble_eq_true rfl, Nat.le_of_ble_eq_true rfl⟩) hP hD hS hE hA hK hK (by simpa only [List.append_assoc, List.append_nil] using (List.Perm.of_eq (List.append_nil _).symm)) (fun u => List.Perm.symm (by simpa only [List.append_assoc, List.append_nil] using (List.Perm.of_eq (List.append_nil _).symm))) (q0 := 0) rfl rfl rfl rfl rfl hl.1 (Nat.le_of_ble_eq_true rfl) dL_holds_270 ⟨Nat.le_refl _, Nat.le_refl _⟩ (fun r270 u270 H locs h270 hP hD hS => ?_)
                        obtain ⟨z1_270, rfl⟩ : ∃ z, z = u270 := ⟨_, rfl⟩
                        obtain ⟨rfl, h270_1⟩ := h270
                        have hP : va_P D vwCl (wA kA mq q qc qp hq qs t cnt sv z1_270 x) H := hP
                        have hD : va_D A (wA kA mq q qc qp hq qs t cnt sv z1_270 x) := hD
                        refine n_iadd (v := (nI (cf0 + (b01 (cfT t k0))))) hx hb (nI_add _ _) dL_holds_273 ?_
                        refine lv_istore (lv' := [(8, .int (nI (cf0 + (b01 (cfT t k0))))), (7, .int (nI ov0)), (6, .int (nI (mn + (ctT t k0)))), (12, .int (nI (ctT t k0))), (11, .int (nI k0)), (10, .int (nI ac0)), (9, .int (nI ho0)), (5, .int (nI 1)), (4, .int (nI ne0)), (3, .int (nI to0)), (2, .int (nI ow0)), (1, .int (nI cs)), (0, .ref mq)]) hx hb dL_holds_274 hl (by decide) rfl (fun ls hl => ?_)
                        refine lv_iload hx hb dL_holds_276 (lv_at hl 5 rfl) ?_
                        refine lv_iconst (v := (nI 1)) hx hb dL_holds_278 (by decide) ?_
                        refine lv_aload_n hx hb dL_holds_279 rfl (lv_at hl 12 rfl) ?_
                        refine lv_iload hx hb dL_holds_280 (lv_at hl 4 rfl) ?_
                        refine lv_iconst (v := (nI 1)) hx hb dL_holds_282 (by decide) ?_
                        refine n_wViE (b := mq) (As := [.int (nI k0), .int (nI 1)]) (rest := [.int (nI 1), .int (nI ac0)]) (wr := []) (ws' := fun u => (wA kA mq q qc qp hq qs t cnt sv u x)) hS0 (q_ca1 lQ D kA adK adV mq q qc qp hq qs t cnt sv z1_270 x k0 H.size (by first | assumption | omega) (by first | assumption | omega) (by first | assumption | omega)) (cwV 2 hts gL_holds_X5_caseOf rfl rfl rfl (by decide +kernel) ⟨Nat.le_of_ble_eq_true rfl, Nat.le_of_ble_eq_true rfl⟩) hP hD hS hE hA hK hK (by simpa only [List.append_assoc, List.append_nil] using (List.Perm.of_eq (List.append_nil _).symm)) (fun u => List.Perm.symm (by simpa only [List.append_assoc, List.append_nil] using (List.Perm.of_eq (List.append_nil _).symm))) (q0 := 0) rfl rfl rfl rfl rfl hl.1 (Nat.le_of_ble_eq_true rfl) dL_holds_283 ⟨Nat.le_refl _, Nat.le_refl _⟩ (fun r283 u283 H locs h283 hP hD hS => ?_)
                        obtain ⟨z1_283, rfl⟩ : ∃ z, z = u283 := ⟨_, rfl⟩
                        obtain ⟨rfl, h283_1⟩ := h283
                        have hP : va_P D vwCl (wA kA mq q qc qp hq qs t cnt sv z1_283 x) H := hP
                        have hD : va_D A (wA kA mq q qc qp hq qs t cnt sv z1_283 x) := hD
                        refine n_ishl (v := (nI (1 <<< (axT t k0)))) hx hb (nN_shl _ (by omega)) dL_holds_286 ?_
                        refine n_ior (v := (nI (ac0 ||| (1 <<< (axT t k0))))) hx hb (nN_or _ _) dL_holds_287 ?_
                        refine lv_istore (lv' := [(10, .int (nI (ac0 ||| (1 <<< (axT t k0))))), (8, .int (nI (cf0 + (b01 (cfT t k0))))), (7, .int (nI ov0)), (6, .int (nI (mn + (ctT t k0)))), (12, .int (nI (ctT t k0))), (11, .int (nI k0)), (9, .int (nI ho0)), (5, .int (nI 1)), (4, .int (nI ne0)), (3, .int (nI to0)), (2, .int (nI ow0)), (1, .int (nI cs)), (0, .ref mq)]) hx hb dL_holds_288 hl (by decide) rfl (fun ls hl => ?_)
                        refine lv_iload hx hb dL_holds_290 (lv_at hl 4 rfl) ?_
                        refine n_if_gt (a := ctT t k0) (tgt := 329) hx hb (by omega) dL_holds_292 (by decide) (fun c292 => ?_) (fun c292 => ?_)
                        · refine lv_iconst (v := (nI 1)) hx hb dL_holds_329 (by decide) ?_
                          refine lv_goto (tgt := 334) hx hb dL_holds_330 (by decide) ?_
                          refine lv_istore (lv' := [(5, .int (nI 1)), (10, .int (nI (ac0 ||| (1 <<< (axT t k0))))), (8, .int (nI (cf0 + (b01 (cfT t k0))))), (7, .int (nI ov0)), (6, .int (nI (mn + (ctT t k0)))), (12, .int (nI (ctT t k0))), (11, .int (nI k0)), (9, .int (nI ho0)), (4, .int (nI ne0)), (3, .int (nI to0)), (2, .int (nI ow0)), (1, .int (nI cs)), (0, .ref mq)]) hx hb dL_holds_334 hl (by decide) rfl (fun ls hl => ?_)
                          refine lv_iload hx hb dL_holds_336 (lv_at hl 7 rfl) ?_
                          refine lv_iload hx hb dL_holds_338 (lv_at hl 5 rfl) ?_
                          refine n_if_ne (a := ctT t k0) (tgt := 347) hx hb (by omega) dL_holds_340 (by decide) (fun c340 => ?_) (fun c340 => ?_)
                          · refine lv_iconst (v := (nI 0)) hx hb dL_holds_347 (by decide) ?_
                            refine n_iadd (v := (nI ho0)) hx hb (nI_add _ _) dL_holds_348 ?_
                            refine lv_istore (lv' := [(9, .int (nI ho0)), (5, .int (nI 1)), (10, .int (nI (ac0 ||| (1 <<< (axT t k0))))), (8, .int (nI (cf0 + (b01 (cfT t k0))))), (7, .int (nI ov0)), (6, .int (nI (mn + (ctT t k0)))), (12, .int (nI (ctT t k0))), (11, .int (nI k0)), (4, .int (nI ne0)), (3, .int (nI to0)), (2, .int (nI ow0)), (1, .int (nI cs)), (0, .ref mq)]) hx hb dL_holds_349 hl (by decide) rfl (fun ls hl => ?_)
                            refine lv_iinc (v := (nI (k0 + 1))) (lv' := [(11, .int (nI (k0 + 1))), (9, .int (nI ho0)), (5, .int (nI 1)), (10, .int (nI (ac0 ||| (1 <<< (axT t k0))))), (8, .int (nI (cf0 + (b01 (cfT t k0))))), (7, .int (nI ov0)), (6, .int (nI (mn + (ctT t k0)))), (12, .int (nI (ctT t k0))), (4, .int (nI ne0)), (3, .int (nI to0)), (2, .int (nI ow0)), (1, .int (nI cs)), (0, .ref mq)]) hx hb dL_holds_351 hl (k := 7) rfl (nI_inc _) (by decide) rfl (fun ls hl => ?_)
                            refine lv_goto (tgt := 221) hx hb dL_holds_354 (by decide) ?_
                            exact ih221 (k0 + 1) (mn + (ctT t k0)) ov0 (cf0 + (b01 (cfT t k0))) ho0 (ac0 ||| (1 <<< (axT t k0))) z1_283 (by omega) (by first | assumption | omega) (by rw [sumF_s, ← hmn]) (by first | (rw [cntB_st (decide_eq_true (by omega)), ← hov]; done) | (rw [cntB_sf (decide_eq_false (by omega)), ← hov])) (by rw [cntB_b, ← hcf]) (by first | (rw [ho_s1 c340, ← hho]; done) | (rw [ho_s0 c340, ← hho])) (by rw [hac]; rfl) (by first | assumption | omega) _ _ hP hD hS _ (lv_sub hl [0, 3, 1, 4, 5, 6, 2, 8, 9, 10, 11, 12] rfl)
                          · refine lv_iconst (v := (nI 1)) hx hb dL_holds_343 (by decide) ?_
                            refine lv_goto (tgt := 348) hx hb dL_holds_344 (by decide) ?_
                            refine n_iadd (v := (nI (ho0 + 1))) hx hb (nI_add _ _) dL_holds_348 ?_
                            refine lv_istore (lv' := [(9, .int (nI (ho0 + 1))), (5, .int (nI 1)), (10, .int (nI (ac0 ||| (1 <<< (axT t k0))))), (8, .int (nI (cf0 + (b01 (cfT t k0))))), (7, .int (nI ov0)), (6, .int (nI (mn + (ctT t k0)))), (12, .int (nI (ctT t k0))), (11, .int (nI k0)), (4, .int (nI ne0)), (3, .int (nI to0)), (2, .int (nI ow0)), (1, .int (nI cs)), (0, .ref mq)]) hx hb dL_holds_349 hl (by decide) rfl (fun ls hl => ?_)
                            refine lv_iinc (v := (nI (k0 + 1))) (lv' := [(11, .int (nI (k0 + 1))), (9, .int (nI (ho0 + 1))), (5, .int (nI 1)), (10, .int (nI (ac0 ||| (1 <<< (axT t k0))))), (8, .int (nI (cf0 + (b01 (cfT t k0))))), (7, .int (nI ov0)), (6, .int (nI (mn + (ctT t k0)))), (12, .int (nI (ctT t k0))), (4, .int (nI ne0)), (3, .int (nI to0)), (2, .int (nI ow0)), (1, .int (nI cs)), (0, .ref mq)]) hx hb dL_holds_351 hl (k := 7) rfl (nI_inc _) (by decide) rfl (fun ls hl => ?_)
                            refine lv_goto (tgt := 221) hx hb dL_holds_354 (by decide) ?_
                            exact ih221 (k0 + 1) (mn + (ctT t k0)) ov0 (cf0 + (b01 (cfT t k0))) (ho0 + 1) (ac0 ||| (1 <<< (axT t k0))) z1_283 (by omega) (by first | assumption | omega) (by rw [sumF_s, ← hmn]) (by first | (rw [cntB_st (decide_eq_true (by omega)), ← hov]; done) | (rw [cntB_sf (decide_eq_false (by omega)), ← hov])) (by rw [cntB_b, ← hcf]) (by first | (rw [ho_s1 c340, ← hho]; done) | (rw [ho_s0 c340, ← hho])) (by rw [hac]; rfl) (by first | assumption | omega) _ _ hP hD hS _ (lv_sub hl [0, 3, 1, 4, 5, 6, 2, 8, 9, 10, 11, 12] rfl)
                        · refine lv_aload_n hx hb dL_holds_295 rfl (lv_at hl 12 rfl) ?_
                          refine lv_iload hx hb dL_holds_296 (lv_at hl 5 rfl) ?_
                          refine lv_iconst (v := (nI 0)) hx hb dL_holds_298 (by decide) ?_
                          refine n_wViE (b := mq) (As := [.int (nI k0), .int (nI 0)]) (rest := []) (wr := []) (ws' := fun u => (wA kA mq q qc qp hq qs t cnt sv u x)) hS0 (q_ca0n lQ D kA adK adV mq q qc qp hq qs t cnt sv z1_283 x k0 H.size (by first | assumption | omega) (by first | assumption | omega) (by first | assumption | omega) c292) (cwV 2 hts gL_holds_X5_caseOf rfl rfl rfl (by decide +kernel) ⟨Nat.le_of_ble_eq_true rfl, Nat.le_of_ble_eq_true rfl⟩) hP hD hS hE hA hK hK (by simpa only [List.append_assoc, List.append_nil] using (List.Perm.of_eq (List.append_nil _).symm)) (fun u => List.Perm.symm (by simpa only [List.append_assoc, List.append_nil] using (List.Perm.of_eq (List.append_nil _).symm))) (q0 := 0) rfl rfl rfl rfl rfl hl.1 (Nat.le_of_ble_eq_true rfl) dL_holds_299 ⟨Nat.le_refl _, Nat.le_refl _⟩ (fun r299 u299 H locs h299 hP hD hS => ?_)
                          obtain ⟨z1_299, rfl⟩ : ∃ z, z = u299 := ⟨_, rfl⟩
                          obtain ⟨rfl, h299_1⟩ := h299
                          have hP : va_P D vwCl (wA kA mq q qc qp hq qs t cnt sv z1_299 x) H := hP
                          have hD : va_D A (wA kA mq q qc qp hq qs t cnt sv z1_299 x) := hD
                          refine lv_iconst (v := (oI none)) hx hb dL_holds_302 (by decide) ?_
                          refine lv_icmp_ne (tgt := 333) hx hb dL_holds_303 (by decide) (fun h => absurd (by decide) h) (fun _ => ?_)
                          refine lv_aload_n hx hb dL_holds_306 rfl (lv_at hl 12 rfl) ?_
                          refine lv_iload hx hb dL_holds_307 (lv_at hl 5 rfl) ?_
                          refine lv_iconst (v := (nI 1)) hx hb dL_holds_309 (by decide) ?_
                          refine n_wViE (b := mq) (As := [.int (nI k0), .int (nI 1)]) (rest := []) (wr := []) (ws' := fun u => (wA kA mq q qc qp hq qs t cnt sv u x)) hS0 (q_ca1h lQ D kA adK adV mq q qc qp hq qs t cnt sv z1_299 x k0 H.size (by first | assumption | omega) (by first | assumption | omega) (by first | assumption | omega) c292) (cwV 2 hts gL_holds_X5_caseOf rfl rfl rfl (by decide +kernel) ⟨Nat.le_of_ble_eq_true rfl, Nat.le_of_ble_eq_true rfl⟩) hP hD hS hE hA hK hK (by simpa only [List.append_assoc, List.append_nil] using (List.Perm.of_eq (List.append_nil _).symm)) (fun u => List.Perm.symm (by simpa only [List.append_assoc, List.append_nil] using (List.Perm.of_eq (List.append_nil _).symm))) (q0 := 0) rfl rfl rfl rfl rfl hl.1 (Nat.le_of_ble_eq_true rfl) dL_holds_310 ⟨Nat.le_refl _, Nat.le_refl _⟩ (fun r310 u310 H locs h310 hP hD hS => ?_)
                          obtain ⟨z1_310, rfl⟩ : ∃ z, z = u310 := ⟨_, rfl⟩
                          obtain ⟨rfl, h310_1⟩ := h310
                          have hP : va_P D vwCl (wA kA mq q qc qp hq qs t cnt sv z1_310 x) H := hP
                          have hD : va_D A (wA kA mq q qc qp hq qs t cnt sv z1_310 x) := hD
                          refine lv_bipush (v := (nI 10)) hx hb dL_holds_313 (by decide) ?_
                          refine lv_icmp_ne (tgt := 333) hx hb dL_holds_315 (by decide) (fun h => absurd (by decide) h) (fun _ => ?_)
                          refine lv_aload_n hx hb dL_holds_318 rfl (lv_at hl 12 rfl) ?_
                          refine lv_iload hx hb dL_holds_319 (lv_at hl 6 rfl) ?_
                          refine n_wViE (b := mq) (As := [.int (nI ho0)]) (rest := []) (wr := []) (ws' := fun u => (wA kA mq q qc qp hq qs t cnt sv u x)) hS0 (q_ho lQ D kA adK adV mq q qc qp hq qs t cnt sv z1_310 x ho0 k0 H.size (by first | assumption | omega) (by first | assumption | omega) (by first | assumption | omega) c292 hho) (cwV 1 hts gL_holds_X5_hole rfl rfl rfl (by decide +kernel) ⟨Nat.le_of_ble_eq_true rfl, Nat.le_of_ble_eq_true rfl⟩) hP hD hS hE hA hK hK (by simpa only [List.append_assoc, List.append_nil] using (List.Perm.of_eq (List.append_nil _).symm)) (fun u => List.Perm.symm (by simpa only [List.append_assoc, List.append_nil] using (List.Perm.of_eq (List.append_nil _).symm))) (q0 := 0) rfl rfl rfl rfl rfl hl.1 (Nat.le_of_ble_eq_true rfl) dL_holds_321 ⟨Nat.le_refl _, Nat.le_refl _⟩ (fun r321 u321 H locs h321 hP hD hS => ?_)
                          obtain ⟨z1_321, rfl⟩ : ∃ z, z = u321 := ⟨_, rfl⟩
                          obtain ⟨rfl, h321_1⟩ := h321
                          have hP : va_P D vwCl (wA kA mq q qc qp hq qs t cnt sv z1_321 x) H := hP
                          have hD : va_D A (wA kA mq q qc qp hq qs t cnt sv z1_321 x) := hD
                          refine lv_iload hx hb dL_holds_324 (lv_at hl 5 rfl) ?_
                          refine n_icmp_ne (a := k0) (b := k0) (tgt := 333) hx hb (by omega) (by omega) dL_holds_326 (by decide) (fun c326 => ?_) (fun c326 => ?_)
                          · exact absurd rfl c326
                          · refine lv_iconst (v := (nI 1)) hx hb dL_holds_329 (by decide) ?_
                            refine lv_goto (tgt := 334) hx hb dL_holds_330 (by decide) ?_
                            refine lv_istore (lv' := [(5, .int (nI 1)), (10, .int (nI (ac0 ||| (1 <<< (axT t k0))))), (8, .int (nI (cf0 + (b01 (cfT t k0))))), (7, .int (nI ov0)), (6, .int (nI (mn + (ctT t k0)))), (12, .int (nI (ctT t k0))), (11, .int (nI k0)), (9, .int (nI ho0)), (4, .int (nI ne0)), (3, .int (nI to0)), (2, .int (nI ow0)), (1, .int (nI cs)), (0, .ref mq)]) hx hb dL_holds_334 hl (by decide) rfl (fun ls hl => ?_)
                            refine lv_iload hx hb dL_holds_336 (lv_at hl 7 rfl) ?_
                            refine lv_iload hx hb dL_holds_338 (lv_at hl 5 rfl) ?_
                            refine n_if_ne (a := ctT t k0) (tgt := 347) hx hb (by omega) dL_holds_340 (by decide) (fun c340 => ?_) (fun c340 => ?_)
                            · refine lv_iconst (v := (nI 0)) hx hb dL_holds_347 (by decide) ?_
                              refine n_iadd (v := (nI ho0)) hx hb (nI_add _ _) dL_holds_348 ?_
                              refine lv_istore (lv' := [(9, .int (nI ho0)), (5, .int (nI 1)), (10, .int (nI (ac0 ||| (1 <<< (axT t k0))))), (8, .int (nI (cf0 + (b01 (cfT t k0))))), (7, .int (nI ov0)), (6, .int (nI (mn + (ctT t k0)))), (12, .int (nI (ctT t k0))), (11, .int (nI k0)), (4, .int (nI ne0)), (3, .int (nI to0)), (2, .int (nI ow0)), (1, .int (nI cs)), (0, .ref mq)]) hx hb dL_holds_349 hl (by decide) rfl (fun ls hl => ?_)
                              refine lv_iinc (v := (nI (k0 + 1))) (lv' := [(11, .int (nI (k0 + 1))), (9, .int (nI ho0)), (5, .int (nI 1)), (10, .int (nI (ac0 ||| (1 <<< (axT t k0))))), (8, .int (nI (cf0 + (b01 (cfT t k0))))), (7, .int (nI ov0)), (6, .int (nI (mn + (ctT t k0)))), (12, .int (nI (ctT t k0))), (4, .int (nI ne0)), (3, .int (nI to0)), (2, .int (nI ow0)), (1, .int (nI cs)), (0, .ref mq)]) hx hb dL_holds_351 hl (k := 7) rfl (nI_inc _) (by decide) rfl (fun ls hl => ?_)
                              refine lv_goto (tgt := 221) hx hb dL_holds_354 (by decide) ?_
                              exact ih221 (k0 + 1) (mn + (ctT t k0)) ov0 (cf0 + (b01 (cfT t k0))) ho0 (ac0 ||| (1 <<< (axT t k0))) z1_321 (by omega) (by first | assumption | omega) (by rw [sumF_s, ← hmn]) (by first | (rw [cntB_st (decide_eq_true (by omega)), ← hov]; done) | (rw [cntB_sf (decide_eq_false (by omega)), ← hov])) (by rw [cntB_b, ← hcf]) (by first | (rw [ho_s1 c340, ← hho]; done) | (rw [ho_s0 c340, ← hho])) (by rw [hac]; rfl) (by first | assumption | omega) _ _ hP hD hS _ (lv_sub hl [0, 3, 1, 4, 5, 6, 2, 8, 9, 10, 11, 12] rfl)
                            · refine lv_iconst (v := (nI 1)) hx hb dL_holds_343 (by decide) ?_
                              refine lv_goto (tgt := 348) hx hb dL_holds_344 (by decide) ?_
                              refine n_iadd (v := (nI (ho0 + 1))) hx hb (nI_add _ _) dL_holds_348 ?_
                              refine lv_istore (lv' := [(9, .int (nI (ho0 + 1))), (5, .int (nI 1)), (10, .int (nI (ac0 ||| (1 <<< (axT t k0))))), (8, .int (nI (cf0 + (b01 (cfT t k0))))), (7, .int (nI ov0)), (6, .int (nI (mn + (ctT t k0)))), (12, .int (nI (ctT t k0))), (11, .int (nI k0)), (4, .int (nI ne0)), (3, .int (nI to0)), (2, .int (nI ow0)), (1, .int (nI cs)), (0, .ref mq)]) hx hb dL_holds_349 hl (by decide) rfl (fun ls hl => ?_)
                              refine lv_iinc (v := (nI (k0 + 1))) (lv' := [(11, .int (nI (k0 + 1))), (9, .int (nI (ho0 + 1))), (5, .int (nI 1)), (10, .int (nI (ac0 ||| (1 <<< (axT t k0))))), (8, .int (nI (cf0 + (b01 (cfT t k0))))), (7, .int (nI ov0)), (6, .int (nI (mn + (ctT t k0)))), (12, .int (nI (ctT t k0))), (4, .int (nI ne0)), (3, .int (nI to0)), (2, .int (nI ow0)), (1, .int (nI cs)), (0, .ref mq)]) hx hb dL_holds_351 hl (k := 7) rfl (nI_inc _) (by decide) rfl (fun ls hl => ?_)
                              refine lv_goto (tgt := 221) hx hb dL_holds_354 (by decide) ?_
                              exact ih221 (k0 + 1) (mn + (ctT t k0)) ov0 (cf0 + (b01 (cfT t k0))) (ho0 + 1) (ac0 ||| (1 <<< (axT t k0))) z1_321 (by omega) (by first | assumption | omega) (by rw [sumF_s, ← hmn]) (by first | (rw [cntB_st (decide_eq_true (by omega)), ← hov]; done) | (rw [cntB_sf (decide_eq_false (by omega)), ← hov])) (by rw [cntB_b, ← hcf]) (by first | (rw [ho_s1 c340, ← hho]; done) | (rw [ho_s0 c340, ← hho])) (by rw [hac]; rfl) (by first | assumption | omega) _ _ hP hD hS _ (lv_sub hl [0, 3, 1, 4, 5, 6, 2, 8, 9, 10, 11, 12] rfl)
                      · refine lv_iconst (v := (nI 1)) hx hb dL_holds_256 (by decide) ?_
                        refine lv_goto (tgt := 261) hx hb dL_holds_257 (by decide) ?_
                        refine n_iadd (v := (nI (ov0 + 1))) hx hb (nI_add _ _) dL_holds_261 ?_
                        refine lv_istore (lv' := [(7, .int (nI (ov0 + 1))), (6, .int (nI (mn + (ctT t k0)))), (12, .int (nI (ctT t k0))), (11, .int (nI k0)), (10, .int (nI ac0)), (9, .int (nI ho0)), (8, .int (nI cf0)), (5, .int (nI 1)), (4, .int (nI ne0)), (3, .int (nI to0)), (2, .int (nI ow0)), (1, .int (nI cs)), (0, .ref mq)]) hx hb dL_holds_262 hl (by decide) rfl (fun ls hl => ?_)
                        refine lv_iload hx hb dL_holds_264 (lv_at hl 6 rfl) ?_
                        refine lv_aload_n hx hb dL_holds_266 rfl (lv_at hl 12 rfl) ?_
                        refine lv_iload hx hb dL_holds_267 (lv_at hl 3 rfl) ?_
                        refine lv_iconst (v := (nI 3)) hx hb dL_holds_269 (by decide) ?_
                        refine n_wViE (b := mq) (As := [.int (nI k0), .int (nI 3)]) (rest := [.int (nI cf0)]) (wr := []) (ws' := fun u => (wA kA mq q qc qp hq qs t cnt sv u x)) hS0 (q_ca3 lQ D kA adK adV mq q qc qp hq qs t cnt sv z1_236 x k0 H.size (by first | assumption | omega) (by first | assumption | omega) (by first | assumption | omega)) (cwV 2 hts gL_holds_X5_caseOf rfl rfl rfl (by decide +kernel) ⟨Nat.le_of_ble_eq_true rfl, Nat.le_of_ble_eq_true rfl⟩) hP hD hS hE hA hK hK (by simpa only [List.append_assoc, List.append_nil] using (List.Perm.of_eq (List.append_nil _).symm)) (fun u => List.Perm.symm (by simpa only [List.append_assoc, List.append_nil] using (List.Perm.of_eq (List.append_nil _).symm))) (q0 := 0) rfl rfl rfl rfl rfl hl.1 (Nat.le_of_ble_eq_true rfl) dL_holds_270 ⟨Nat.le_refl _, Nat.le_refl _⟩ (fun r270 u270 H locs h270 hP hD hS => ?_)
                        obtain ⟨z1_270, rfl⟩ : ∃ z, z = u270 := ⟨_, rfl⟩
                        obtain ⟨rfl, h270_1⟩ := h270
                        have hP : va_P D vwCl (wA kA mq q qc qp hq qs t cnt sv z1_270 x) H := hP
                        have hD : va_D A (wA kA mq q qc qp hq qs t cnt sv z1_270 x) := hD
                        refine n_iadd (v := (nI (cf0 + (b01 (cfT t k0))))) hx hb (nI_add _ _) dL_holds_273 ?_
                        refine lv_istore (lv' := [(8, .int (nI (cf0 + (b01 (cfT t k0))))), (7, .int (nI (ov0 + 1))), (6, .int (nI (mn + (ctT t k0)))), (12, .int (nI (ctT t k0))), (11, .int (nI k0)), (10, .int (nI ac0)), (9, .int (nI ho0)), (5, .int (nI 1)), (4, .int (nI ne0)), (3, .int (nI to0)), (2, .int (nI ow0)), (1, .int (nI cs)), (0, .ref mq)]) hx hb dL_holds_274 hl (by decide) rfl (fun ls hl => ?_)
                        refine lv_iload hx hb dL_holds_276 (lv_at hl 5 rfl) ?_
                        refine lv_iconst (v := (nI 1)) hx hb dL_holds_278 (by decide) ?_
                        refine lv_aload_n hx hb dL_holds_279 rfl (lv_at hl 12 rfl) ?_
                        refine lv_iload hx hb dL_holds_280 (lv_at hl 4 rfl) ?_
                        refine lv_iconst (v := (nI 1)) hx hb dL_holds_282 (by decide) ?_
                        refine n_wViE (b := mq) (As := [.int (nI k0), .int (nI 1)]) (rest := [.int (nI 1), .int (nI ac0)]) (wr := []) (ws' := fun u => (wA kA mq q qc qp hq qs t cnt sv u x)) hS0 (q_ca1 lQ D kA adK adV mq q qc qp hq qs t cnt sv z1_270 x k0 H.size (by first | assumption | omega) (by first | assumption | omega) (by first | assumption | omega)) (cwV 2 hts gL_holds_X5_caseOf rfl rfl rfl (by decide +kernel) ⟨Nat.le_of_ble_eq_true rfl, Nat.le_of_ble_eq_true rfl⟩) hP hD hS hE hA hK hK (by simpa only [List.append_assoc, List.append_nil] using (List.Perm.of_eq (List.append_nil _).symm)) (fun u => List.Perm.symm (by simpa only [List.append_assoc, List.append_nil] using (List.Perm.of_eq (List.append_nil _).symm))) (q0 := 0) rfl rfl rfl rfl rfl hl.1 (Nat.le_of_ble_eq_true rfl) dL_holds_283 ⟨Nat.le_refl _, Nat.le_refl _⟩ (fun r283 u283 H locs h283 hP hD hS => ?_)
                        obtain ⟨z1_283, rfl⟩ : ∃ z, z = u283 := ⟨_, rfl⟩
                        obtain ⟨rfl, h283_1⟩ := h283
                        have hP : va_P D vwCl (wA kA mq q qc qp hq qs t cnt sv z1_283 x) H := hP
                        have hD : va_D A (wA kA mq q qc qp hq qs t cnt sv z1_283 x) := hD
                        refine n_ishl (v := (nI (1 <<< (axT t k0)))) hx hb (nN_shl _ (by omega)) dL_holds_286 ?_
                        refine n_ior (v := (nI (ac0 ||| (1 <<< (axT t k0))))) hx hb (nN_or _ _) dL_holds_287 ?_
                        refine lv_istore (lv' := [(10, .int (nI (ac0 ||| (1 <<< (axT t k0))))), (8, .int (nI (cf0 + (b01 (cfT t k0))))), (7, .int (nI (ov0 + 1))), (6, .int (nI (mn + (ctT t k0)))), (12, .int (nI (ctT t k0))), (11, .int (nI k0)), (9, .int (nI ho0)), (5, .int (nI 1)), (4, .int (nI ne0)), (3, .int (nI to0)), (2, .int (nI ow0)), (1, .int (nI cs)), (0, .ref mq)]) hx hb dL_holds_288 hl (by decide) rfl (fun ls hl => ?_)
                        refine lv_iload hx hb dL_holds_290 (lv_at hl 4 rfl) ?_
                        refine n_if_gt (a := ctT t k0) (tgt := 329) hx hb (by omega) dL_holds_292 (by decide) (fun c292 => ?_) (fun c292 => ?_)
                        · refine lv_iconst (v := (nI 1)) hx hb dL_holds_329 (by decide) ?_
                          refine lv_goto (tgt := 334) hx hb dL_holds_330 (by decide) ?_
                          refine lv_istore (lv' := [(5, .int (nI 1)), (10, .int (nI (ac0 ||| (1 <<< (axT t k0))))), (8, .int (nI (cf0 + (b01 (cfT t k0))))), (7, .int (nI (ov0 + 1))), (6, .int (nI (mn + (ctT t k0)))), (12, .int (nI (ctT t k0))), (11, .int (nI k0)), (9, .int (nI ho0)), (4, .int (nI ne0)), (3, .int (nI to0)), (2, .int (nI ow0)), (1, .int (nI cs)), (0, .ref mq)]) hx hb dL_holds_334 hl (by decide) rfl (fun ls hl => ?_)
                          refine lv_iload hx hb dL_holds_336 (lv_at hl 7 rfl) ?_
                          refine lv_iload hx hb dL_holds_338 (lv_at hl 5 rfl) ?_
                          refine n_if_ne (a := ctT t k0) (tgt := 347) hx hb (by omega) dL_holds_340 (by decide) (fun c340 => ?_) (fun c340 => ?_)
                          · refine lv_iconst (v := (nI 0)) hx hb dL_holds_347 (by decide) ?_
                            refine n_iadd (v := (nI ho0)) hx hb (nI_add _ _) dL_holds_348 ?_
                            refine lv_istore (lv' := [(9, .int (nI ho0)), (5, .int (nI 1)), (10, .int (nI (ac0 ||| (1 <<< (axT t k0))))), (8, .int (nI (cf0 + (b01 (cfT t k0))))), (7, .int (nI (ov0 + 1))), (6, .int (nI (mn + (ctT t k0)))), (12, .int (nI (ctT t k0))), (11, .int (nI k0)), (4, .int (nI ne0)), (3, .int (nI to0)), (2, .int (nI ow0)), (1, .int (nI cs)), (0, .ref mq)]) hx hb dL_holds_349 hl (by decide) rfl (fun ls hl => ?_)
                            refine lv_iinc (v := (nI (k0 + 1))) (lv' := [(11, .int (nI (k0 + 1))), (9, .int (nI ho0)), (5, .int (nI 1)), (10, .int (nI (ac0 ||| (1 <<< (axT t k0))))), (8, .int (nI (cf0 + (b01 (cfT t k0))))), (7, .int (nI (ov0 + 1))), (6, .int (nI (mn + (ctT t k0)))), (12, .int (nI (ctT t k0))), (4, .int (nI ne0)), (3, .int (nI to0)), (2, .int (nI ow0)), (1, .int (nI cs)), (0, .ref mq)]) hx hb dL_holds_351 hl (k := 7) rfl (nI_inc _) (by decide) rfl (fun ls hl => ?_)
                            refine lv_goto (tgt := 221) hx hb dL_holds_354 (by decide) ?_
                            exact ih221 (k0 + 1) (mn + (ctT t k0)) (ov0 + 1) (cf0 + (b01 (cfT t k0))) ho0 (ac0 ||| (1 <<< (axT t k0))) z1_283 (by omega) (by first | assumption | omega) (by rw [sumF_s, ← hmn]) (by first | (rw [cntB_st (decide_eq_true (by omega)), ← hov]; done) | (rw [cntB_sf (decide_eq_false (by omega)), ← hov])) (by rw [cntB_b, ← hcf]) (by first | (rw [ho_s1 c340, ← hho]; done) | (rw [ho_s0 c340, ← hho])) (by rw [hac]; rfl) (by first | assumption | omega) _ _ hP hD hS _ (lv_sub hl [0, 3, 1, 4, 5, 6, 2, 8, 9, 10, 11, 12] rfl)
                          · refine lv_iconst (v := (nI 1)) hx hb dL_holds_343 (by decide) ?_
                            refine lv_goto (tgt := 348) hx hb dL_holds_344 (by decide) ?_
                            refine n_iadd (v := (nI (ho0 + 1))) hx hb (nI_add _ _) dL_holds_348 ?_
                            refine lv_istore (lv' := [(9, .int (nI (ho0 + 1))), (5, .int (nI 1)), (10, .int (nI (ac0 ||| (1 <<< (axT t k0))))), (8, .int (nI (cf0 + (b01 (cfT t k0))))), (7, .int (nI (ov0 + 1))), (6, .int (nI (mn + (ctT t k0)))), (12, .int (nI (ctT t k0))), (11, .int (nI k0)), (4, .int (nI ne0)), (3, .int (nI to0)), (2, .int (nI ow0)), (1, .int (nI cs)), (0, .ref mq)]) hx hb dL_holds_349 hl (by decide) rfl (fun ls hl => ?_)
                            refine lv_iinc (v := (nI (k0 + 1))) (lv' := [(11, .int (nI (k0 + 1))), (9, .int (nI (ho0 + 1))), (5, .int (nI 1)), (10, .int (nI (ac0 ||| (1 <<< (axT t k0))))), (8, .int (nI (cf0 + (b01 (cfT t k0))))), (7, .int (nI (ov0 + 1))), (6, .int (nI (mn + (ctT t k0)))), (12, .int (nI (ctT t k0))), (4, .int (nI ne0)), (3, .int (nI to0)), (2, .int (nI ow0)), (1, .int (nI cs)), (0, .ref mq)]) hx hb dL_holds_351 hl (k := 7) rfl (nI_inc _) (by decide) rfl (fun ls hl => ?_)
                            refine lv_goto (tgt := 221) hx hb dL_holds_354 (by decide) ?_
                            exact ih221 (k0 + 1) (mn + (ctT t k0)) (ov0 + 1) (cf0 + (b01 (cfT t k0))) (ho0 + 1) (ac0 ||| (1 <<< (axT t k0))) z1_283 (by omega) (by first | assumption | omega) (by rw [sumF_s, ← hmn]) (by first | (rw [cntB_st (decide_eq_true (by omega)), ← hov]; done) | (rw [cntB_sf (decide_eq_false (by omega)), ← hov])) (by rw [cntB_b, ← hcf]) (by first | (rw [ho_s1 c340, ← hho]; done) | (rw [ho_s0 c340, ← hho])) (by rw [hac]; rfl) (by first | assumption | omega) _ _ hP hD hS _ (lv_sub hl [0, 3, 1, 4, 5, 6, 2, 8, 9, 10, 11, 12] rfl)
                        · refine lv_aload_n hx hb dL_holds_295 rfl (lv_at hl 12 rfl) ?_
                          refine lv_iload hx hb dL_holds_296 (lv_at hl 5 rfl) ?_
                          refine lv_iconst (v := (nI 0)) hx hb dL_holds_298 (by decide) ?_
                          refine n_wViE (b := mq) (As := [.int (nI k0), .int (nI 0)]) (rest := []) (wr := []) (ws' := fun u => (wA kA mq q qc qp hq qs t cnt sv u x)) hS0 (q_ca0n lQ D kA adK adV mq q qc qp hq qs t cnt sv z1_283 x k0 H.size (by first | assumption | omega) (by first | assumption | omega) (by first | assumption | omega) c292) (cwV 2 hts gL_holds_X5_caseOf rfl rfl rfl (by decide +kernel) ⟨Nat.le_of_ble_eq_true rfl, Nat.le_of_ble_eq_true rfl⟩) hP hD hS hE hA hK hK (by simpa only [List.append_assoc, List.append_nil] using (List.Perm.of_eq (List.append_nil _).symm)) (fun u => List.Perm.symm (by simpa only [List.append_assoc, List.append_nil] using (List.Perm.of_eq (List.append_nil _).symm))) (q0 := 0) rfl rfl rfl rfl rfl hl.1 (Nat.le_of_ble_eq_true rfl) dL_holds_299 ⟨Nat.le_refl _, Nat.le_refl _⟩ (fun r299 u299 H locs h299 hP hD hS => ?_)
                          obtain ⟨z1_299, rfl⟩ : ∃ z, z = u299 := ⟨_, rfl⟩
                          obtain ⟨rfl, h299_1⟩ := h299
                          have hP : va_P D vwCl (wA kA mq q qc qp hq qs t cnt sv z1_299 x) H := hP
                          have hD : va_D A (wA kA mq q qc qp hq qs t cnt sv z1_299 x) := hD
                          refine lv_iconst (v := (oI none)) hx hb dL_holds_302 (by decide) ?_
                          refine lv_icmp_ne (tgt := 333) hx hb dL_holds_303 (by decide) (fun h => absurd (by decide) h) (fun _ => ?_)
                          refine lv_aload_n hx hb dL_holds_306 rfl (lv_at hl 12 rfl) ?_
                          refine lv_iload hx hb dL_holds_307 (lv_at hl 5 rfl) ?_
                          refine lv_iconst (v := (nI 1)) hx hb dL_holds_309 (by decide) ?_
                          refine n_wViE (b := mq) (As := [.int (nI k0), .int (nI 1)]) (rest := []) (wr := []) (ws' := fun u => (wA kA mq q qc qp hq qs t cnt sv u x)) hS0 (q_ca1h lQ D kA adK adV mq q qc qp hq qs t cnt sv z1_299 x k0 H.size (by first | assumption | omega) (by first | assumption | omega) (by first | assumption | omega) c292) (cwV 2 hts gL_holds_X5_caseOf rfl rfl rfl (by decide +kernel) ⟨Nat.le_of_ble_eq_true rfl, Nat.le_of_ble_eq_true rfl⟩) hP hD hS hE hA hK hK (by simpa only [List.append_assoc, List.append_nil] using (List.Perm.of_eq (List.append_nil _).symm)) (fun u => List.Perm.symm (by simpa only [List.append_assoc, List.append_nil] using (List.Perm.of_eq (List.append_nil _).symm))) (q0 := 0) rfl rfl rfl rfl rfl hl.1 (Nat.le_of_ble_eq_true rfl) dL_holds_310 ⟨Nat.le_refl _, Nat.le_refl _⟩ (fun r310 u310 H locs h310 hP hD hS => ?_)
                          obtain ⟨z1_310, rfl⟩ : ∃ z, z = u310 := ⟨_, rfl⟩
                          obtain ⟨rfl, h310_1⟩ := h310
                          have hP : va_P D vwCl (wA kA mq q qc qp hq qs t cnt sv z1_310 x) H := hP
                          have hD : va_D A (wA kA mq q qc qp hq qs t cnt sv z1_310 x) := hD
                          refine lv_bipush (v := (nI 10)) hx hb dL_holds_313 (by decide) ?_
                          refine lv_icmp_ne (tgt := 333) hx hb dL_holds_315 (by decide) (fun h => absurd (by decide) h) (fun _ => ?_)
                          refine lv_aload_n hx hb dL_holds_318 rfl (lv_at hl 12 rfl) ?_
                          refine lv_iload hx hb dL_holds_319 (lv_at hl 6 rfl) ?_
                          refine n_wViE (b := mq) (As := [.int (nI ho0)]) (rest := []) (wr := []) (ws' := fun u => (wA kA mq q qc qp hq qs t cnt sv u x)) hS0 (q_ho lQ D kA adK adV mq q qc qp hq qs t cnt sv z1_310 x ho0 k0 H.size (by first | assumption | omega) (by first | assumption | omega) (by first | assumption | omega) c292 hho) (cwV 1 hts gL_holds_X5_hole rfl rfl rfl (by decide +kernel) ⟨Nat.le_of_ble_eq_true rfl, Nat.le_of_ble_eq_true rfl⟩) hP hD hS hE hA hK hK (by simpa only [List.append_assoc, List.append_nil] using (List.Perm.of_eq (List.append_nil _).symm)) (fun u => List.Perm.symm (by simpa only [List.append_assoc, List.append_nil] using (List.Perm.of_eq (List.append_nil _).symm))) (q0 := 0) rfl rfl rfl rfl rfl hl.1 (Nat.le_of_ble_eq_true rfl) dL_holds_321 ⟨Nat.le_refl _, Nat.le_refl _⟩ (fun r321 u321 H locs h321 hP hD hS => ?_)
                          obtain ⟨z1_321, rfl⟩ : ∃ z, z = u321 := ⟨_, rfl⟩
                          obtain ⟨rfl, h321_1⟩ := h321
                          have hP : va_P D vwCl (wA kA mq q qc qp hq qs t cnt sv z1_321 x) H := hP
                          have hD : va_D A (wA kA mq q qc qp hq qs t cnt sv z1_321 x) := hD
                          refine lv_iload hx hb dL_holds_324 (lv_at hl 5 rfl) ?_
                          refine n_icmp_ne (a := k0) (b := k0) (tgt := 333) hx hb (by omega) (by omega) dL_holds_326 (by decide) (fun c326 => ?_) (fun c326 => ?_)
                          · exact absurd rfl c326
                          · refine lv_iconst (v := (nI 1)) hx hb dL_holds_329 (by decide) ?_
                            refine lv_goto (tgt := 334) hx hb dL_holds_330 (by decide) ?_
                            refine lv_istore (lv' := [(5, .int (nI 1)), (10, .int (nI (ac0 ||| (1 <<< (axT t k0))))), (8, .int (nI (cf0 + (b01 (cfT t k0))))), (7, .int (nI (ov0 + 1))), (6, .int (nI (mn + (ctT t k0)))), (12, .int (nI (ctT t k0))), (11, .int (nI k0)), (9, .int (nI ho0)), (4, .int (nI ne0)), (3, .int (nI to0)), (2, .int (nI ow0)), (1, .int (nI cs)), (0, .ref mq)]) hx hb dL_holds_334 hl (by decide) rfl (fun ls hl => ?_)
                            refine lv_iload hx hb dL_holds_336 (lv_at hl 7 rfl) ?_
                            refine lv_iload hx hb dL_holds_338 (lv_at hl 5 rfl) ?_
                            refine n_if_ne (a := ctT t k0) (tgt := 347) hx hb (by omega) dL_holds_340 (by decide) (fun c340 => ?_) (fun c340 => ?_)
                            · refine lv_iconst (v := (nI 0)) hx hb dL_holds_347 (by decide) ?_
                              refine n_iadd (v := (nI ho0)) hx hb (nI_add _ _) dL_holds_348 ?_
                              refine lv_istore (lv' := [(9, .int (nI ho0)), (5, .int (nI 1)), (10, .int (nI (ac0 ||| (1 <<< (axT t k0))))), (8, .int (nI (cf0 + (b01 (cfT t k0))))), (7, .int (nI (ov0 + 1))), (6, .int (nI (mn + (ctT t k0)))), (12, .int (nI (ctT t k0))), (11, .int (nI k0)), (4, .int (nI ne0)), (3, .int (nI to0)), (2, .int (nI ow0)), (1, .int (nI cs)), (0, .ref mq)]) hx hb dL_holds_349 hl (by decide) rfl (fun ls hl => ?_)
                              refine lv_iinc (v := (nI (k0 + 1))) (lv' := [(11, .int (nI (k0 + 1))), (9, .int (nI ho0)), (5, .int (nI 1)), (10, .int (nI (ac0 ||| (1 <<< (axT t k0))))), (8, .int (nI (cf0 + (b01 (cfT t k0))))), (7, .int (nI (ov0 + 1))), (6, .int (nI (mn + (ctT t k0)))), (12, .int (nI (ctT t k0))), (4, .int (nI ne0)), (3, .int (nI to0)), (2, .int (nI ow0)), (1, .int (nI cs)), (0, .ref mq)]) hx hb dL_holds_351 hl (k := 7) rfl (nI_inc _) (by decide) rfl (fun ls hl => ?_)
                              refine lv_goto (tgt := 221) hx hb dL_holds_354 (by decide) ?_
                              exact ih221 (k0 + 1) (mn + (ctT t k0)) (ov0 + 1) (cf0 + (b01 (cfT t k0))) ho0 (ac0 ||| (1 <<< (axT t k0))) z1_321 (by omega) (by first | assumption | omega) (by rw [sumF_s, ← hmn]) (by first | (rw [cntB_st (decide_eq_true (by omega)), ← hov]; done) | (rw [cntB_sf (decide_eq_false (by omega)), ← hov])) (by rw [cntB_b, ← hcf]) (by first | (rw [ho_s1 c340, ← hho]; done) | (rw [ho_s0 c340, ← hho])) (by rw [hac]; rfl) (by first | assumption | omega) _ _ hP hD hS _ (lv_sub hl [0, 3, 1, 4, 5, 6, 2, 8, 9, 10, 11, 12] rfl)
                            · refine lv_iconst (v := (nI 1)) hx hb dL_holds_343 (by decide) ?_
                              refine lv_goto (tgt := 348) hx hb dL_holds_344 (by decide) ?_
                              refine n_iadd (v := (nI (ho0 + 1))) hx hb (nI_add _ _) dL_holds_348 ?_
                              refine lv_istore (lv' := [(9, .int (nI (ho0 + 1))), (5, .int (nI 1)), (10, .int (nI (ac0 ||| (1 <<< (axT t k0))))), (8, .int (nI (cf0 + (b01 (cfT t k0))))), (7, .int (nI (ov0 + 1))), (6, .int (nI (mn + (ctT t k0)))), (12, .int (nI (ctT t k0))), (11, .int (nI k0)), (4, .int (nI ne0)), (3, .int (nI to0)), (2, .int (nI ow0)), (1, .int (nI cs)), (0, .ref mq)]) hx hb dL_holds_349 hl (by decide) rfl (fun ls hl => ?_)
                              refine lv_iinc (v := (nI (k0 + 1))) (lv' := [(11, .int (nI (k0 + 1))), (9, .int (nI (ho0 + 1))), (5, .int (nI 1)), (10, .int (nI (ac0 ||| (1 <<< (axT t k0))))), (8, .int (nI (cf0 + (b01 (cfT t k0))))), (7, .int (nI (ov0 + 1))), (6, .int (nI (mn + (ctT t k0)))), (12, .int (nI (ctT t k0))), (4, .int (nI ne0)), (3, .int (nI to0)), (2, .int (nI ow0)), (1, .int (nI cs)), (0, .ref mq)]) hx hb dL_holds_351 hl (k := 7) rfl (nI_inc _) (by decide) rfl (fun ls hl => ?_)
                              refine lv_goto (tgt := 221) hx hb dL_holds_354 (by decide) ?_
                              exact ih221 (k0 + 1) (mn + (ctT t k0)) (ov0 + 1) (cf0 + (b01 (cfT t k0))) (ho0 + 1) (ac0 ||| (1 <<< (axT t k0))) z1_321 (by omega) (by first | assumption | omega) (by rw [sumF_s, ← hmn]) (by first | (rw [cntB_st (decide_eq_true (by omega)), ← hov]; done) | (rw [cntB_sf (decide_eq_false (by omega)), ← hov])) (by rw [cntB_b, ← hcf]) (by first | (rw [ho_s1 c340, ← hho]; done) | (rw [ho_s0 c340, ← hho])) (by rw [hac]; rfl) (by first | assumption | omega) _ _ hP hD hS _ (lv_sub hl [0, 3, 1, 4, 5, 6, 2, 8, 9, 10, 11, 12] rfl)
                exact L221 ((cs - 0) + 1) 0 0 0 0 0 0 z1_58 (Nat.lt_succ_self _) (by first | assumption | omega) rfl rfl rfl rfl rfl (by first | assumption | omega) _ _ hP hD hS _ (lv_sub hl [0, 1, 2, 3, 4, 5, 6, 7, 8, 9, 10, 11] rfl)
              · have hw8 := ow_le_to hok (show p0 < rcT t by omega)
                have ht8 := to_le hok (show p0 < rcT t by omega)
                have hc8 := ch_le_ow t p0
                have hn8 := okT_nm hok (show p0 < rcT t by omega)
                have hn7 := hok.2.2.1 p0 (by omega)
                refine lv_iload hx hb dL_holds_64 (lv_at hl 1 rfl) ?_
                refine lv_if_eq (tgt := 203) hx hb dL_holds_66 (by decide) (fun h => absurd h (by decide)) (fun _ => ?_)
                refine lv_aload_n hx hb dL_holds_69 rfl (lv_at hl 6 rfl) ?_
                refine lv_iload hx hb dL_holds_70 (lv_at hl 0 rfl) ?_
                refine n_wViE (b := mq) (As := [.int (nI p0)]) (rest := []) (wr := []) (ws' := fun u => (wA kA mq q qc qp hq qs t cnt sv u x)) hS0 (q_ra lQ D kA adK adV mq q qc qp hq qs t cnt sv z1_58 x p0 H.size (by first | assumption | omega) (by first | assumption | omega) (by first | assumption | omega)) (cwV 1 hts gL_holds_X5_rowAt rfl rfl rfl (by decide +kernel) ⟨Nat.le_of_ble_eq_true rfl, Nat.le_of_ble_eq_true rfl⟩) hP hD hS hE hA hK hK (by simpa only [List.append_assoc, List.append_nil] using (List.Perm.of_eq (List.append_nil _).symm)) (fun u => List.Perm.symm (by simpa only [List.append_assoc, List.append_nil] using (List.Perm.of_eq (List.append_nil _).symm))) (q0 := 0) rfl rfl rfl rfl rfl hl.1 (Nat.le_of_ble_eq_true rfl) dL_holds_72 ⟨Nat.le_refl _, Nat.le_refl _⟩ (fun r72 u72 H locs h72 hP hD hS => ?_)
                obtain ⟨z1_72, rfl⟩ : ∃ z, z = u72 := ⟨_, rfl⟩
                obtain ⟨rfl, h72_1⟩ := h72
                have hP : va_P D vwCl (wA kA mq q qc qp hq qs t cnt sv z1_72 x) H := hP
                have hD : va_D A (wA kA mq q qc qp hq qs t cnt sv z1_72 x) := hD
                refine lv_istore (lv' := [(7, .int (nI (nmT t p0))), (6, .int (nI p0)), (5, .int (nI 1)), (4, .int (nI ne0)), (3, .int (nI to0)), (2, .int (nI ow0)), (1, .int (nI cs)), (0, .ref mq)]) hx hb dL_holds_75 hl (by decide) rfl (fun ls hl => ?_)
                refine lv_aload_n hx hb dL_holds_77 rfl (lv_at hl 7 rfl) ?_
                refine lv_iload hx hb dL_holds_78 (lv_at hl 0 rfl) ?_
                refine lv_iconst (v := (nI 0)) hx hb dL_holds_80 (by decide) ?_
                refine n_wViE (b := mq) (As := [.int (nI (nmT t p0)), .int (nI 0)]) (rest := []) (wr := []) (ws' := fun u => (wA kA mq q qc qp hq qs t cnt sv u x)) hS0 (q_row0 lQ D kA adK adV mq q qc qp hq qs t cnt sv z1_72 x (nmT t p0) p0 H.size (by first | assumption | omega) (by first | assumption | omega) (by first | assumption | omega) rfl) (cwV 2 hts gL_holds_X5_row rfl rfl rfl (by decide +kernel) ⟨Nat.le_of_ble_eq_true rfl, Nat.le_of_ble_eq_true rfl⟩) hP hD hS hE hA hK hK (by simpa only [List.append_assoc, List.append_nil] using (List.Perm.of_eq (List.append_nil _).symm)) (fun u => List.Perm.symm (by simpa only [List.append_assoc, List.append_nil] using (List.Perm.of_eq (List.append_nil _).symm))) (q0 := 0) rfl rfl rfl rfl rfl hl.1 (Nat.le_of_ble_eq_true rfl) dL_holds_81 ⟨Nat.le_refl _, Nat.le_refl _⟩ (fun r81 u81 H locs h81 hP hD hS => ?_)
                obtain ⟨z1_81, rfl⟩ : ∃ z, z = u81 := ⟨_, rfl⟩
                obtain ⟨rfl, h81_1⟩ := h81
                have hP : va_P D vwCl (wA kA mq q qc qp hq qs t cnt sv z1_81 x) H := hP
                have hD : va_D A (wA kA mq q qc qp hq qs t cnt sv z1_81 x) := hD
                refine lv_iload hx hb dL_holds_84 (lv_at hl 1 rfl) ?_
                refine n_icmp_ne (a := p0) (b := p0) (tgt := 162) hx hb (by omega) (by omega) dL_holds_86 (by decide) (fun c86 => ?_) (fun c86 => ?_)
                · exact absurd rfl c86
                · refine lv_aload_n hx hb dL_holds_89 rfl (lv_at hl 7 rfl) ?_
                  refine lv_iload hx hb dL_holds_90 (lv_at hl 0 rfl) ?_
                  refine lv_iconst (v := (nI 3)) hx hb dL_holds_92 (by decide) ?_
                  refine n_wViE (b := mq) (As := [.int (nI (nmT t p0)), .int (nI 3)]) (rest := []) (wr := []) (ws' := fun u => (wA kA mq q qc qp hq qs t cnt sv u x)) hS0 (q_row3 lQ D kA adK adV mq q qc qp hq qs t cnt sv z1_81 x (nmT t p0) p0 H.size (by first | assumption | omega) (by first | assumption | omega) (by first | assumption | omega) rfl) (cwV 2 hts gL_holds_X5_row rfl rfl rfl (by decide +kernel) ⟨Nat.le_of_ble_eq_true rfl, Nat.le_of_ble_eq_true rfl⟩) hP hD hS hE hA hK hK (by simpa only [List.append_assoc, List.append_nil] using (List.Perm.of_eq (List.append_nil _).symm)) (fun u => List.Perm.symm (by simpa only [List.append_assoc, List.append_nil] using (List.Perm.of_eq (List.append_nil _).symm))) (q0 := 0) rfl rfl rfl rfl rfl hl.1 (Nat.le_of_ble_eq_true rfl) dL_holds_93 ⟨Nat.le_refl _, Nat.le_refl _⟩ (fun r93 u93 H locs h93 hP hD hS => ?_)
                  obtain ⟨z1_93, rfl⟩ : ∃ z, z = u93 := ⟨_, rfl⟩
                  obtain ⟨rfl, h93_1⟩ := h93
                  have hP : va_P D vwCl (wA kA mq q qc qp hq qs t cnt sv z1_93 x) H := hP
                  have hD : va_D A (wA kA mq q qc qp hq qs t cnt sv z1_93 x) := hD
                  refine lv_aload_n hx hb dL_holds_96 rfl (lv_at hl 7 rfl) ?_
                  refine lv_iload hx hb dL_holds_97 (lv_at hl 0 rfl) ?_
                  refine lv_iconst (v := (nI 2)) hx hb dL_holds_99 (by decide) ?_
                  refine n_wViE (b := mq) (As := [.int (nI (nmT t p0)), .int (nI 2)]) (rest := [.int (nI (owT t p0))]) (wr := []) (ws' := fun u => (wA kA mq q qc qp hq qs t cnt sv u x)) hS0 (q_row2 lQ D kA adK adV mq q qc qp hq qs t cnt sv z1_93 x (nmT t p0) p0 H.size (by first | assumption | omega) (by first | assumption | omega) (by first | assumption | omega) rfl) (cwV 2 hts gL_holds_X5_row rfl rfl rfl (by decide +kernel) ⟨Nat.le_of_ble_eq_true rfl, Nat.le_of_ble_eq_true rfl⟩) hP hD hS hE hA hK hK (by simpa only [List.append_assoc, List.append_nil] using (List.Perm.of_eq (List.append_nil _).symm)) (fun u => List.Perm.symm (by simpa only [List.append_assoc, List.append_nil] using (List.Perm.of_eq (List.append_nil _).symm))) (q0 := 0) rfl rfl rfl rfl rfl hl.1 (Nat.le_of_ble_eq_true rfl) dL_holds_100 ⟨Nat.le_refl _, Nat.le_refl _⟩ (fun r100 u100 H locs h100 hP hD hS => ?_)
                  obtain ⟨z1_100, rfl⟩ : ∃ z, z = u100 := ⟨_, rfl⟩
                  obtain ⟨rfl, h100_1⟩ := h100
                  have hP : va_P D vwCl (wA kA mq q qc qp hq qs t cnt sv z1_100 x) H := hP
                  have hD : va_D A (wA kA mq q qc qp hq qs t cnt sv z1_100 x) := hD
                  refine n_icmp_gt (a := owT t p0) (b := toT t p0) (tgt := 162) hx hb (by omega) (by omega) dL_holds_103 (by decide) (fun c103 => ?_) (fun c103 => ?_)
                  · exact absurd hw8 (Nat.not_le.mpr c103)
                  · refine lv_aload_n hx hb dL_holds_106 rfl (lv_at hl 7 rfl) ?_
                    refine lv_iload hx hb dL_holds_107 (lv_at hl 0 rfl) ?_
                    refine lv_iconst (v := (nI 4)) hx hb dL_holds_109 (by decide) ?_
                    refine n_wViE (b := mq) (As := [.int (nI (nmT t p0)), .int (nI 4)]) (rest := []) (wr := []) (ws' := fun u => (wA kA mq q qc qp hq qs t cnt sv u x)) hS0 (q_row4 lQ D kA adK adV mq q qc qp hq qs t cnt sv z1_100 x (nmT t p0) p0 H.size (by first | assumption | omega) (by first | assumption | omega) (by first | assumption | omega) rfl) (cwV 2 hts gL_holds_X5_row rfl rfl rfl (by decide +kernel) ⟨Nat.le_of_ble_eq_true rfl, Nat.le_of_ble_eq_true rfl⟩) hP hD hS hE hA hK hK (by simpa only [List.append_assoc, List.append_nil] using (List.Perm.of_eq (List.append_nil _).symm)) (fun u => List.Perm.symm (by simpa only [List.append_assoc, List.append_nil] using (List.Perm.of_eq (List.append_nil _).symm))) (q0 := 0) rfl rfl rfl rfl rfl hl.1 (Nat.le_of_ble_eq_true rfl) dL_holds_110 ⟨Nat.le_refl _, Nat.le_refl _⟩ (fun r110 u110 H locs h110 hP hD hS => ?_)
                    obtain ⟨z1_110, rfl⟩ : ∃ z, z = u110 := ⟨_, rfl⟩
                    obtain ⟨rfl, h110_1⟩ := h110
                    have hP : va_P D vwCl (wA kA mq q qc qp hq qs t cnt sv z1_110 x) H := hP
                    have hD : va_D A (wA kA mq q qc qp hq qs t cnt sv z1_110 x) := hD
                    refine lv_aload_n hx hb dL_holds_113 rfl (lv_at hl 7 rfl) ?_
                    refine lv_iload hx hb dL_holds_114 (lv_at hl 0 rfl) ?_
                    refine lv_iconst (v := (nI 3)) hx hb dL_holds_116 (by decide) ?_
                    refine n_wViE (b := mq) (As := [.int (nI (nmT t p0)), .int (nI 3)]) (rest := [.int (nI (b01 (decide (0 < owT t p0))))]) (wr := []) (ws' := fun u => (wA kA mq q qc qp hq qs t cnt sv u x)) hS0 (q_row3 lQ D kA adK adV mq q qc qp hq qs t cnt sv z1_110 x (nmT t p0) p0 H.size (by first | assumption | omega) (by first | assumption | omega) (by first | assumption | omega) rfl) (cwV 2 hts gL_holds_X5_row rfl rfl rfl (by decide +kernel) ⟨Nat.le_of_ble_eq_true rfl, Nat.le_of_ble_eq_true rfl⟩) hP hD hS hE hA hK hK (by simpa only [List.append_assoc, List.append_nil] using (List.Perm.of_eq (List.append_nil _).symm)) (fun u => List.Perm.symm (by simpa only [List.append_assoc, List.append_nil] using (List.Perm.of_eq (List.append_nil _).symm))) (q0 := 0) rfl rfl rfl rfl rfl hl.1 (Nat.le_of_ble_eq_true rfl) dL_holds_117 ⟨Nat.le_refl _, Nat.le_refl _⟩ (fun r117 u117 H locs h117 hP hD hS => ?_)
                    obtain ⟨z1_117, rfl⟩ : ∃ z, z = u117 := ⟨_, rfl⟩
                    obtain ⟨rfl, h117_1⟩ := h117
                    have hP : va_P D vwCl (wA kA mq q qc qp hq qs t cnt sv z1_117 x) H := hP
                    have hD : va_D A (wA kA mq q qc qp hq qs t cnt sv z1_117 x) := hD
                    refine n_if_le (a := owT t p0) (tgt := 127) hx hb (by omega) dL_holds_120 (by decide) (fun c120 => ?_) (fun c120 => ?_)
                    · refine lv_iconst (v := (nI 0)) hx hb dL_holds_127 (by decide) ?_
                      refine n_icmp_ne (a := b01 (decide (0 < owT t p0))) (b := 0) (tgt := 162) hx hb (Nat.lt_of_le_of_lt (b01_le _) (by decide)) (by decide) dL_holds_128 (by decide) (fun c128 => ?_) (fun c128 => ?_)
                      · exact absurd (by first | (rw [decide_eq_true c120]; rfl) | (rw [decide_eq_false (by omega)]; rfl)) c128
                      · refine lv_iload hx hb dL_holds_131 (lv_at hl 0 rfl) ?_
                        refine lv_aload_n hx hb dL_holds_133 rfl (lv_at hl 7 rfl) ?_
                        refine lv_bipush (v := (nI 10)) hx hb dL_holds_134 (by decide) ?_
                        refine n_wViE (b := mq) (As := [.int (nI 10)]) (rest := [.int (nI (nmT t p0))]) (wr := []) (ws' := fun u => (wA kA mq q qc qp hq qs t cnt sv u x)) hS0 (q_wh10 lQ D kA adK adV mq q qc qp hq qs t cnt sv z1_117 x H.size (by first | assumption | omega) (by first | assumption | omega)) (cwV 1 hts gL_holds_X5_whole rfl rfl rfl (by decide +kernel) ⟨Nat.le_of_ble_eq_true rfl, Nat.le_of_ble_eq_true rfl⟩) hP hD hS hE hA hK hK (by simpa only [List.append_assoc, List.append_nil] using (List.Perm.of_eq (List.append_nil _).symm)) (fun u => List.Perm.symm (by simpa only [List.append_assoc, List.append_nil] using (List.Perm.of_eq (List.append_nil _).symm))) (q0 := 0) rfl rfl rfl rfl rfl hl.1 (Nat.le_of_ble_eq_true rfl) dL_holds_136 ⟨Nat.le_refl _, Nat.le_refl _⟩ (fun r136 u136 H locs h136 hP hD hS => ?_)
                        obtain ⟨z1_136, rfl⟩ : ∃ z, z = u136 := ⟨_, rfl⟩
                        obtain ⟨rfl, h136_1⟩ := h136
                        have hP : va_P D vwCl (wA kA mq q qc qp hq qs t cnt sv z1_136 x) H := hP
                        have hD : va_D A (wA kA mq q qc qp hq qs t cnt sv z1_136 x) := hD
                        refine n_icmp_ge (a := nmT t p0) (b := adT t) (tgt := 162) hx hb (by omega) (by omega) dL_holds_139 (by decide) (fun c139 => ?_) (fun c139 => ?_)
                        · exact absurd hn7 (Nat.not_lt.mpr c139)
                        · refine lv_aload_n hx hb dL_holds_142 rfl (lv_at hl 7 rfl) ?_
                          refine lv_iload hx hb dL_holds_143 (lv_at hl 0 rfl) ?_
                          refine n_wViE (b := mq) (As := [.int (nI (nmT t p0))]) (rest := []) (wr := []) (ws' := fun u => (wA kA mq q qc qp hq qs t cnt sv u x)) hS0 (q_ch lQ D kA adK adV mq q qc qp hq qs t cnt sv z1_136 x (nmT t p0) p0 H.size (by first | assumption | omega) (by first | assumption | omega) (by first | assumption | omega) rfl) (cwV 1 hts gL_holds_X5_changedWithout rfl rfl rfl (by decide +kernel) ⟨Nat.le_of_ble_eq_true rfl, Nat.le_of_ble_eq_true rfl⟩) hP hD hS hE hA hK hK (by simpa only [List.append_assoc, List.append_nil] using (List.Perm.of_eq (List.append_nil _).symm)) (fun u => List.Perm.symm (by simpa only [List.append_assoc, List.append_nil] using (List.Perm.of_eq (List.append_nil _).symm))) (q0 := 0) rfl rfl rfl rfl rfl hl.1 (Nat.le_of_ble_eq_true rfl) dL_holds_145 ⟨Nat.le_refl _, Nat.le_refl _⟩ (fun r145 u145 H locs h145 hP hD hS => ?_)
                          obtain ⟨z1_145, rfl⟩ : ∃ z, z = u145 := ⟨_, rfl⟩
                          obtain ⟨rfl, h145_1⟩ := h145
                          have hP : va_P D vwCl (wA kA mq q qc qp hq qs t cnt sv z1_145 x) H := hP
                          have hD : va_D A (wA kA mq q qc qp hq qs t cnt sv z1_145 x) := hD
                          refine lv_aload_n hx hb dL_holds_148 rfl (lv_at hl 7 rfl) ?_
                          refine lv_iload hx hb dL_holds_149 (lv_at hl 0 rfl) ?_
                          refine lv_iconst (v := (nI 3)) hx hb dL_holds_151 (by decide) ?_
                          refine n_wViE (b := mq) (As := [.int (nI (nmT t p0)), .int (nI 3)]) (rest := [.int (nI (chT t p0))]) (wr := []) (ws' := fun u => (wA kA mq q qc qp hq qs t cnt sv u x)) hS0 (q_row3 lQ D kA adK adV mq q qc qp hq qs t cnt sv z1_145 x (nmT t p0) p0 H.size (by first | assumption | omega) (by first | assumption | omega) (by first | assumption | omega) rfl) (cwV 2 hts gL_holds_X5_row rfl rfl rfl (by decide +kernel) ⟨Nat.le_of_ble_eq_true rfl, Nat.le_of_ble_eq_true rfl⟩) hP hD hS hE hA hK hK (by simpa only [List.append_assoc, List.append_nil] using (List.Perm.of_eq (List.append_nil _).symm)) (fun u => List.Perm.symm (by simpa only [List.append_assoc, List.append_nil] using (List.Perm.of_eq (List.append_nil _).symm))) (q0 := 0) rfl rfl rfl rfl rfl hl.1 (Nat.le_of_ble_eq_true rfl) dL_holds_152 ⟨Nat.le_refl _, Nat.le_refl _⟩ (fun r152 u152 H locs h152 hP hD hS => ?_)
                          obtain ⟨z1_152, rfl⟩ : ∃ z, z = u152 := ⟨_, rfl⟩
                          obtain ⟨rfl, h152_1⟩ := h152
                          have hP : va_P D vwCl (wA kA mq q qc qp hq qs t cnt sv z1_152 x) H := hP
                          have hD : va_D A (wA kA mq q qc qp hq qs t cnt sv z1_152 x) := hD
                          refine n_icmp_gt (a := chT t p0) (b := owT t p0) (tgt := 162) hx hb (by omega) (by omega) dL_holds_155 (by decide) (fun c155 => ?_) (fun c155 => ?_)
                          · exact absurd hc8 (Nat.not_le.mpr c155)
                          · refine lv_iconst (v := (nI 1)) hx hb dL_holds_158 (by decide) ?_
                            refine lv_goto (tgt := 163) hx hb dL_holds_159 (by decide) ?_
                            refine lv_istore (lv' := [(5, .int (nI 1)), (7, .int (nI (nmT t p0))), (6, .int (nI p0)), (4, .int (nI ne0)), (3, .int (nI to0)), (2, .int (nI ow0)), (1, .int (nI cs)), (0, .ref mq)]) hx hb dL_holds_163 hl (by decide) rfl (fun ls hl => ?_)
                            refine lv_iload_n hx hb dL_holds_165 rfl (lv_at hl 5 rfl) ?_
                            refine lv_aload_n hx hb dL_holds_166 rfl (lv_at hl 7 rfl) ?_
                            refine lv_iload hx hb dL_holds_167 (lv_at hl 1 rfl) ?_
                            refine lv_iconst (v := (nI 3)) hx hb dL_holds_169 (by decide) ?_
                            refine n_wViE (b := mq) (As := [.int (nI (nmT t p0)), .int (nI 3)]) (rest := [.int (nI ow0)]) (wr := []) (ws' := fun u => (wA kA mq q qc qp hq qs t cnt sv u x)) hS0 (q_row3 lQ D kA adK adV mq q qc qp hq qs t cnt sv z1_152 x (nmT t p0) p0 H.size (by first | assumption | omega) (by first | assumption | omega) (by first | assumption | omega) rfl) (cwV 2 hts gL_holds_X5_row rfl rfl rfl (by decide +kernel) ⟨Nat.le_of_ble_eq_true rfl, Nat.le_of_ble_eq_true rfl⟩) hP hD hS hE hA hK hK (by simpa only [List.append_assoc, List.append_nil] using (List.Perm.of_eq (List.append_nil _).symm)) (fun u => List.Perm.symm (by simpa only [List.append_assoc, List.append_nil] using (List.Perm.of_eq (List.append_nil _).symm))) (q0 := 0) rfl rfl rfl rfl rfl hl.1 (Nat.le_of_ble_eq_true rfl) dL_holds_170 ⟨Nat.le_refl _, Nat.le_refl _⟩ (fun r170 u170 H locs h170 hP hD hS => ?_)
                            obtain ⟨z1_170, rfl⟩ : ∃ z, z = u170 := ⟨_, rfl⟩
                            obtain ⟨rfl, h170_1⟩ := h170
                            have hP : va_P D vwCl (wA kA mq q qc qp hq qs t cnt sv z1_170 x) H := hP
                            have hD : va_D A (wA kA mq q qc qp hq qs t cnt sv z1_170 x) := hD
                            refine n_iadd (v := (nI (ow0 + (owT t p0)))) hx hb (nI_add _ _) dL_holds_173 ?_
                            refine lv_istore_n (lv' := [(2, .int (nI (ow0 + (owT t p0)))), (5, .int (nI 1)), (7, .int (nI (nmT t p0))), (6, .int (nI p0)), (4, .int (nI ne0)), (3, .int (nI to0)), (1, .int (nI cs)), (0, .ref mq)]) hx hb dL_holds_174 rfl hl (by decide) rfl (fun ls hl => ?_)
                            refine lv_iload_n hx hb dL_holds_175 rfl (lv_at hl 5 rfl) ?_
                            refine lv_aload_n hx hb dL_holds_176 rfl (lv_at hl 7 rfl) ?_
                            refine lv_iload hx hb dL_holds_177 (lv_at hl 2 rfl) ?_
                            refine lv_iconst (v := (nI 2)) hx hb dL_holds_179 (by decide) ?_
                            refine n_wViE (b := mq) (As := [.int (nI (nmT t p0)), .int (nI 2)]) (rest := [.int (nI to0)]) (wr := []) (ws' := fun u => (wA kA mq q qc qp hq qs t cnt sv u x)) hS0 (q_row2 lQ D kA adK adV mq q qc qp hq qs t cnt sv z1_170 x (nmT t p0) p0 H.size (by first | assumption | omega) (by first | assumption | omega) (by first | assumption | omega) rfl) (cwV 2 hts gL_holds_X5_row rfl rfl rfl (by decide +kernel) ⟨Nat.le_of_ble_eq_true rfl, Nat.le_of_ble_eq_true rfl⟩) hP hD hS hE hA hK hK (by simpa only [List.append_assoc, List.append_nil] using (List.Perm.of_eq (List.append_nil _).symm)) (fun u => List.Perm.symm (by simpa only [List.append_assoc, List.append_nil] using (List.Perm.of_eq (List.append_nil _).symm))) (q0 := 0) rfl rfl rfl rfl rfl hl.1 (Nat.le_of_ble_eq_true rfl) dL_holds_180 ⟨Nat.le_refl _, Nat.le_refl _⟩ (fun r180 u180 H locs h180 hP hD hS => ?_)
                            obtain ⟨z1_180, rfl⟩ : ∃ z, z = u180 := ⟨_, rfl⟩
                            obtain ⟨rfl, h180_1⟩ := h180
                            have hP : va_P D vwCl (wA kA mq q qc qp hq qs t cnt sv z1_180 x) H := hP
                            have hD : va_D A (wA kA mq q qc qp hq qs t cnt sv z1_180 x) := hD
                            refine n_iadd (v := (nI (to0 + (toT t p0)))) hx hb (nI_add _ _) dL_holds_183 ?_
                            refine lv_istore_n (lv' := [(3, .int (nI (to0 + (toT t p0)))), (2, .int (nI (ow0 + (owT t p0)))), (5, .int (nI 1)), (7, .int (nI (nmT t p0))), (6, .int (nI p0)), (4, .int (nI ne0)), (1, .int (nI cs)), (0, .ref mq)]) hx hb dL_holds_184 rfl hl (by decide) rfl (fun ls hl => ?_)
                            refine lv_iload hx hb dL_holds_185 (lv_at hl 5 rfl) ?_
                            refine lv_aload_n hx hb dL_holds_187 rfl (lv_at hl 7 rfl) ?_
                            refine lv_iload hx hb dL_holds_188 (lv_at hl 3 rfl) ?_
                            refine lv_iconst (v := (nI 4)) hx hb dL_holds_190 (by decide) ?_
                            refine n_wViE (b := mq) (As := [.int (nI (nmT t p0)), .int (nI 4)]) (rest := [.int (nI ne0)]) (wr := []) (ws' := fun u => (wA kA mq q qc qp hq qs t cnt sv u x)) hS0 (q_row4 lQ D kA adK adV mq q qc qp hq qs t cnt sv z1_180 x (nmT t p0) p0 H.size (by first | assumption | omega) (by first | assumption | omega) (by first | assumption | omega) rfl) (cwV 2 hts gL_holds_X5_row rfl rfl rfl (by decide +kernel) ⟨Nat.le_of_ble_eq_true rfl, Nat.le_of_ble_eq_true rfl⟩) hP hD hS hE hA hK hK (by simpa only [List.append_assoc, List.append_nil] using (List.Perm.of_eq (List.append_nil _).symm)) (fun u => List.Perm.symm (by simpa only [List.append_assoc, List.append_nil] using (List.Perm.of_eq (List.append_nil _).symm))) (q0 := 0) rfl rfl rfl rfl rfl hl.1 (Nat.le_of_ble_eq_true rfl) dL_holds_191 ⟨Nat.le_refl _, Nat.le_refl _⟩ (fun r191 u191 H locs h191 hP hD hS => ?_)
                            obtain ⟨z1_191, rfl⟩ : ∃ z, z = u191 := ⟨_, rfl⟩
                            obtain ⟨rfl, h191_1⟩ := h191
                            have hP : va_P D vwCl (wA kA mq q qc qp hq qs t cnt sv z1_191 x) H := hP
                            have hD : va_D A (wA kA mq q qc qp hq qs t cnt sv z1_191 x) := hD
                            refine n_iadd (v := (nI (ne0 + (b01 (decide (0 < owT t p0)))))) hx hb (nI_add _ _) dL_holds_194 ?_
                            refine lv_istore (lv' := [(4, .int (nI (ne0 + (b01 (decide (0 < owT t p0)))))), (3, .int (nI (to0 + (toT t p0)))), (2, .int (nI (ow0 + (owT t p0)))), (5, .int (nI 1)), (7, .int (nI (nmT t p0))), (6, .int (nI p0)), (1, .int (nI cs)), (0, .ref mq)]) hx hb dL_holds_195 hl (by decide) rfl (fun ls hl => ?_)
                            refine lv_iinc (v := (nI (p0 + 1))) (lv' := [(6, .int (nI (p0 + 1))), (4, .int (nI (ne0 + (b01 (decide (0 < owT t p0)))))), (3, .int (nI (to0 + (toT t p0)))), (2, .int (nI (ow0 + (owT t p0)))), (5, .int (nI 1)), (7, .int (nI (nmT t p0))), (1, .int (nI cs)), (0, .ref mq)]) hx hb dL_holds_197 hl (k := 5) rfl (nI_inc _) (by decide) rfl (fun ls hl => ?_)
                            refine lv_goto (tgt := 54) hx hb dL_holds_200 (by decide) ?_
                            exact ih54 (p0 + 1) (ow0 + (owT t p0)) (to0 + (toT t p0)) (ne0 + (b01 (decide (0 < owT t p0)))) z1_191 (by omega) (by first | assumption | omega) (by rw [sumF_s, ← how]) (by rw [sumF_s, ← hto]) (by rw [cntB_b, ← hne]) (by first | assumption | omega) _ _ hP hD hS _ (lv_sub hl [0, 4, 1, 2, 3, 6, 7] rfl)
                    · refine lv_iconst (v := (nI 1)) hx hb dL_holds_123 (by decide) ?_
                      refine lv_goto (tgt := 128) hx hb dL_holds_124 (by decide) ?_
                      refine n_icmp_ne (a := b01 (decide (0 < owT t p0))) (b := 1) (tgt := 162) hx hb (Nat.lt_of_le_of_lt (b01_le _) (by decide)) (by decide) dL_holds_128 (by decide) (fun c128 => ?_) (fun c128 => ?_)
                      · exact absurd (by first | (rw [decide_eq_true c120]; rfl) | (rw [decide_eq_false (by omega)]; rfl)) c128
                      · refine lv_iload hx hb dL_holds_131 (lv_at hl 0 rfl) ?_
                        refine lv_aload_n hx hb dL_holds_133 rfl (lv_at hl 7 rfl) ?_
                        refine lv_bipush (v := (nI 10)) hx hb dL_holds_134 (by decide) ?_
                        refine n_wViE (b := mq) (As := [.int (nI 10)]) (rest := [.int (nI (nmT t p0))]) (wr := []) (ws' := fun u => (wA kA mq q qc qp hq qs t cnt sv u x)) hS0 (q_wh10 lQ D kA adK adV mq q qc qp hq qs t cnt sv z1_117 x H.size (by first | assumption | omega) (by first | assumption | omega)) (cwV 1 hts gL_holds_X5_whole rfl rfl rfl (by decide +kernel) ⟨Nat.le_of_ble_eq_true rfl, Nat.le_of_ble_eq_true rfl⟩) hP hD hS hE hA hK hK (by simpa only [List.append_assoc, List.append_nil] using (List.Perm.of_eq (List.append_nil _).symm)) (fun u => List.Perm.symm (by simpa only [List.append_assoc, List.append_nil] using (List.Perm.of_eq (List.append_nil _).symm))) (q0 := 0) rfl rfl rfl rfl rfl hl.1 (Nat.le_of_ble_eq_true rfl) dL_holds_136 ⟨Nat.le_refl _, Nat.le_refl _⟩ (fun r136 u136 H locs h136 hP hD hS => ?_)
                        obtain ⟨z1_136, rfl⟩ : ∃ z, z = u136 := ⟨_, rfl⟩
                        obtain ⟨rfl, h136_1⟩ := h136
                        have hP : va_P D vwCl (wA kA mq q qc qp hq qs t cnt sv z1_136 x) H := hP
                        have hD : va_D A (wA kA mq q qc qp hq qs t cnt sv z1_136 x) := hD
                        refine n_icmp_ge (a := nmT t p0) (b := adT t) (tgt := 162) hx hb (by omega) (by omega) dL_holds_139 (by decide) (fun c139 => ?_) (fun c139 => ?_)
                        · exact absurd hn7 (Nat.not_lt.mpr c139)
                        · refine lv_aload_n hx hb dL_holds_142 rfl (lv_at hl 7 rfl) ?_
                          refine lv_iload hx hb dL_holds_143 (lv_at hl 0 rfl) ?_
                          refine n_wViE (b := mq) (As := [.int (nI (nmT t p0))]) (rest := []) (wr := []) (ws' := fun u => (wA kA mq q qc qp hq qs t cnt sv u x)) hS0 (q_ch lQ D kA adK adV mq q qc qp hq qs t cnt sv z1_136 x (nmT t p0) p0 H.size (by first | assumption | omega) (by first | assumption | omega) (by first | assumption | omega) rfl) (cwV 1 hts gL_holds_X5_changedWithout rfl rfl rfl (by decide +kernel) ⟨Nat.le_of_ble_eq_true rfl, Nat.le_of_ble_eq_true rfl⟩) hP hD hS hE hA hK hK (by simpa only [List.append_assoc, List.append_nil] using (List.Perm.of_eq (List.append_nil _).symm)) (fun u => List.Perm.symm (by simpa only [List.append_assoc, List.append_nil] using (List.Perm.of_eq (List.append_nil _).symm))) (q0 := 0) rfl rfl rfl rfl rfl hl.1 (Nat.le_of_ble_eq_true rfl) dL_holds_145 ⟨Nat.le_refl _, Nat.le_refl _⟩ (fun r145 u145 H locs h145 hP hD hS => ?_)
                          obtain ⟨z1_145, rfl⟩ : ∃ z, z = u145 := ⟨_, rfl⟩
                          obtain ⟨rfl, h145_1⟩ := h145
                          have hP : va_P D vwCl (wA kA mq q qc qp hq qs t cnt sv z1_145 x) H := hP
                          have hD : va_D A (wA kA mq q qc qp hq qs t cnt sv z1_145 x) := hD
                          refine lv_aload_n hx hb dL_holds_148 rfl (lv_at hl 7 rfl) ?_
                          refine lv_iload hx hb dL_holds_149 (lv_at hl 0 rfl) ?_
                          refine lv_iconst (v := (nI 3)) hx hb dL_holds_151 (by decide) ?_
                          refine n_wViE (b := mq) (As := [.int (nI (nmT t p0)), .int (nI 3)]) (rest := [.int (nI (chT t p0))]) (wr := []) (ws' := fun u => (wA kA mq q qc qp hq qs t cnt sv u x)) hS0 (q_row3 lQ D kA adK adV mq q qc qp hq qs t cnt sv z1_145 x (nmT t p0) p0 H.size (by first | assumption | omega) (by first | assumption | omega) (by first | assumption | omega) rfl) (cwV 2 hts gL_holds_X5_row rfl rfl rfl (by decide +kernel) ⟨Nat.le_of_ble_eq_true rfl, Nat.le_of_ble_eq_true rfl⟩) hP hD hS hE hA hK hK (by simpa only [List.append_assoc, List.append_nil] using (List.Perm.of_eq (List.append_nil _).symm)) (fun u => List.Perm.symm (by simpa only [List.append_assoc, List.append_nil] using (List.Perm.of_eq (List.append_nil _).symm))) (q0 := 0) rfl rfl rfl rfl rfl hl.1 (Nat.le_of_ble_eq_true rfl) dL_holds_152 ⟨Nat.le_refl _, Nat.le_refl _⟩ (fun r152 u152 H locs h152 hP hD hS => ?_)
                          obtain ⟨z1_152, rfl⟩ : ∃ z, z = u152 := ⟨_, rfl⟩
                          obtain ⟨rfl, h152_1⟩ := h152
                          have hP : va_P D vwCl (wA kA mq q qc qp hq qs t cnt sv z1_152 x) H := hP
                          have hD : va_D A (wA kA mq q qc qp hq qs t cnt sv z1_152 x) := hD
                          refine n_icmp_gt (a := chT t p0) (b := owT t p0) (tgt := 162) hx hb (by omega) (by omega) dL_holds_155 (by decide) (fun c155 => ?_) (fun c155 => ?_)
                          · exact absurd hc8 (Nat.not_le.mpr c155)
                          · refine lv_iconst (v := (nI 1)) hx hb dL_holds_158 (by decide) ?_
                            refine lv_goto (tgt := 163) hx hb dL_holds_159 (by decide) ?_
                            refine lv_istore (lv' := [(5, .int (nI 1)), (7, .int (nI (nmT t p0))), (6, .int (nI p0)), (4, .int (nI ne0)), (3, .int (nI to0)), (2, .int (nI ow0)), (1, .int (nI cs)), (0, .ref mq)]) hx hb dL_holds_163 hl (by decide) rfl (fun ls hl => ?_)
                            refine lv_iload_n hx hb dL_holds_165 rfl (lv_at hl 5 rfl) ?_
                            refine lv_aload_n hx hb dL_holds_166 rfl (lv_at hl 7 rfl) ?_
                            refine lv_iload hx hb dL_holds_167 (lv_at hl 1 rfl) ?_
                            refine lv_iconst (v := (nI 3)) hx hb dL_holds_169 (by decide) ?_
                            refine n_wViE (b := mq) (As := [.int (nI (nmT t p0)), .int (nI 3)]) (rest := [.int (nI ow0)]) (wr := []) (ws' := fun u => (wA kA mq q qc qp hq qs t cnt sv u x)) hS0 (q_row3 lQ D kA adK adV mq q qc qp hq qs t cnt sv z1_152 x (nmT t p0) p0 H.size (by first | assumption | omega) (by first | assumption | omega) (by first | assumption | omega) rfl) (cwV 2 hts gL_holds_X5_row rfl rfl rfl (by decide +kernel) ⟨Nat.le_of_ble_eq_true rfl, Nat.le_of_ble_eq_true rfl⟩) hP hD hS hE hA hK hK (by simpa only [List.append_assoc, List.append_nil] using (List.Perm.of_eq (List.append_nil _).symm)) (fun u => List.Perm.symm (by simpa only [List.append_assoc, List.append_nil] using (List.Perm.of_eq (List.append_nil _).symm))) (q0 := 0) rfl rfl rfl rfl rfl hl.1 (Nat.le_of_ble_eq_true rfl) dL_holds_170 ⟨Nat.le_refl _, Nat.le_refl _⟩ (fun r170 u170 H locs h170 hP hD hS => ?_)
                            obtain ⟨z1_170, rfl⟩ : ∃ z, z = u170 := ⟨_, rfl⟩
                            obtain ⟨rfl, h170_1⟩ := h170
                            have hP : va_P D vwCl (wA kA mq q qc qp hq qs t cnt sv z1_170 x) H := hP
                            have hD : va_D A (wA kA mq q qc qp hq qs t cnt sv z1_170 x) := hD
                            refine n_iadd (v := (nI (ow0 + (owT t p0)))) hx hb (nI_add _ _) dL_holds_173 ?_
                            refine lv_istore_n (lv' := [(2, .int (nI (ow0 + (owT t p0)))), (5, .int (nI 1)), (7, .int (nI (nmT t p0))), (6, .int (nI p0)), (4, .int (nI ne0)), (3, .int (nI to0)), (1, .int (nI cs)), (0, .ref mq)]) hx hb dL_holds_174 rfl hl (by decide) rfl (fun ls hl => ?_)
                            refine lv_iload_n hx hb dL_holds_175 rfl (lv_at hl 5 rfl) ?_
                            refine lv_aload_n hx hb dL_holds_176 rfl (lv_at hl 7 rfl) ?_
                            refine lv_iload hx hb dL_holds_177 (lv_at hl 2 rfl) ?_
                            refine lv_iconst (v := (nI 2)) hx hb dL_holds_179 (by decide) ?_
                            refine n_wViE (b := mq) (As := [.int (nI (nmT t p0)), .int (nI 2)]) (rest := [.int (nI to0)]) (wr := []) (ws' := fun u => (wA kA mq q qc qp hq qs t cnt sv u x)) hS0 (q_row2 lQ D kA adK adV mq q qc qp hq qs t cnt sv z1_170 x (nmT t p0) p0 H.size (by first | assumption | omega) (by first | assumption | omega) (by first | assumption | omega) rfl) (cwV 2 hts gL_holds_X5_row rfl rfl rfl (by decide +kernel) ⟨Nat.le_of_ble_eq_true rfl, Nat.le_of_ble_eq_true rfl⟩) hP hD hS hE hA hK hK (by simpa only [List.append_assoc, List.append_nil] using (List.Perm.of_eq (List.append_nil _).symm)) (fun u => List.Perm.symm (by simpa only [List.append_assoc, List.append_nil] using (List.Perm.of_eq (List.append_nil _).symm))) (q0 := 0) rfl rfl rfl rfl rfl hl.1 (Nat.le_of_ble_eq_true rfl) dL_holds_180 ⟨Nat.le_refl _, Nat.le_refl _⟩ (fun r180 u180 H locs h180 hP hD hS => ?_)
                            obtain ⟨z1_180, rfl⟩ : ∃ z, z = u180 := ⟨_, rfl⟩
                            obtain ⟨rfl, h180_1⟩ := h180
                            have hP : va_P D vwCl (wA kA mq q qc qp hq qs t cnt sv z1_180 x) H := hP
                            have hD : va_D A (wA kA mq q qc qp hq qs t cnt sv z1_180 x) := hD
                            refine n_iadd (v := (nI (to0 + (toT t p0)))) hx hb (nI_add _ _) dL_holds_183 ?_
                            refine lv_istore_n (lv' := [(3, .int (nI (to0 + (toT t p0)))), (2, .int (nI (ow0 + (owT t p0)))), (5, .int (nI 1)), (7, .int (nI (nmT t p0))), (6, .int (nI p0)), (4, .int (nI ne0)), (1, .int (nI cs)), (0, .ref mq)]) hx hb dL_holds_184 rfl hl (by decide) rfl (fun ls hl => ?_)
                            refine lv_iload hx hb dL_holds_185 (lv_at hl 5 rfl) ?_
                            refine lv_aload_n hx hb dL_holds_187 rfl (lv_at hl 7 rfl) ?_
                            refine lv_iload hx hb dL_holds_188 (lv_at hl 3 rfl) ?_
                            refine lv_iconst (v := (nI 4)) hx hb dL_holds_190 (by decide) ?_
                            refine n_wViE (b := mq) (As := [.int (nI (nmT t p0)), .int (nI 4)]) (rest := [.int (nI ne0)]) (wr := []) (ws' := fun u => (wA kA mq q qc qp hq qs t cnt sv u x)) hS0 (q_row4 lQ D kA adK adV mq q qc qp hq qs t cnt sv z1_180 x (nmT t p0) p0 H.size (by first | assumption | omega) (by first | assumption | omega) (by first | assumption | omega) rfl) (cwV 2 hts gL_holds_X5_row rfl rfl rfl (by decide +kernel) ⟨Nat.le_of_ble_eq_true rfl, Nat.le_of_ble_eq_true rfl⟩) hP hD hS hE hA hK hK (by simpa only [List.append_assoc, List.append_nil] using (List.Perm.of_eq (List.append_nil _).symm)) (fun u => List.Perm.symm (by simpa only [List.append_assoc, List.append_nil] using (List.Perm.of_eq (List.append_nil _).symm))) (q0 := 0) rfl rfl rfl rfl rfl hl.1 (Nat.le_of_ble_eq_true rfl) dL_holds_191 ⟨Nat.le_refl _, Nat.le_refl _⟩ (fun r191 u191 H locs h191 hP hD hS => ?_)
                            obtain ⟨z1_191, rfl⟩ : ∃ z, z = u191 := ⟨_, rfl⟩
                            obtain ⟨rfl, h191_1⟩ := h191
                            have hP : va_P D vwCl (wA kA mq q qc qp hq qs t cnt sv z1_191 x) H := hP
                            have hD : va_D A (wA kA mq q qc qp hq qs t cnt sv z1_191 x) := hD
                            refine n_iadd (v := (nI (ne0 + (b01 (decide (0 < owT t p0)))))) hx hb (nI_add _ _) dL_holds_194 ?_
                            refine lv_istore (lv' := [(4, .int (nI (ne0 + (b01 (decide (0 < owT t p0)))))), (3, .int (nI (to0 + (toT t p0)))), (2, .int (nI (ow0 + (owT t p0)))), (5, .int (nI 1)), (7, .int (nI (nmT t p0))), (6, .int (nI p0)), (1, .int (nI cs)), (0, .ref mq)]) hx hb dL_holds_195 hl (by decide) rfl (fun ls hl => ?_)
                            refine lv_iinc (v := (nI (p0 + 1))) (lv' := [(6, .int (nI (p0 + 1))), (4, .int (nI (ne0 + (b01 (decide (0 < owT t p0)))))), (3, .int (nI (to0 + (toT t p0)))), (2, .int (nI (ow0 + (owT t p0)))), (5, .int (nI 1)), (7, .int (nI (nmT t p0))), (1, .int (nI cs)), (0, .ref mq)]) hx hb dL_holds_197 hl (k := 5) rfl (nI_inc _) (by decide) rfl (fun ls hl => ?_)
                            refine lv_goto (tgt := 54) hx hb dL_holds_200 (by decide) ?_
                            exact ih54 (p0 + 1) (ow0 + (owT t p0)) (to0 + (toT t p0)) (ne0 + (b01 (decide (0 < owT t p0)))) z1_191 (by omega) (by first | assumption | omega) (by rw [sumF_s, ← how]) (by rw [sumF_s, ← hto]) (by rw [cntB_b, ← hne]) (by first | assumption | omega) _ _ hP hD hS _ (lv_sub hl [0, 4, 1, 2, 3, 6, 7] rfl)
          exact L54 ((rcT t - 0) + 1) 0 0 0 0 z1_37 (Nat.lt_succ_self _) (by first | assumption | omega) rfl rfl rfl (by first | assumption | omega) _ _ hP hD hS _ (lv_sub hl [0, 1, 2, 3, 4, 5, 6] rfl)
      · refine lv_iload_n hx hb dL_holds_13 rfl (lv_at hl 1 rfl) ?_
        refine lv_aload_n hx hb dL_holds_14 rfl (lv_at hl 2 rfl) ?_
        refine lv_iload_n hx hb dL_holds_15 rfl (lv_at hl 0 rfl) ?_
        refine lv_iconst (v := (nI 0)) hx hb dL_holds_16 (by decide) ?_
        refine n_wViE (b := mq) (As := [.int (nI i), .int (nI 0)]) (rest := [.int (nI cs)]) (wr := []) (ws' := fun u => (wA kA mq q qc qp hq qs t cnt sv u x)) hS0 (q_co0 lQ D kA adK adV mq q qc qp hq qs t cnt sv z1_7 x i H.size (by first | assumption | omega) (by first | assumption | omega) (by first | assumption | omega)) (cwV 2 hts gL_holds_X5_condition rfl rfl rfl (by decide +kernel) ⟨Nat.le_of_ble_eq_true rfl, Nat.le_of_ble_eq_true rfl⟩) hP hD hS hE hA hK hK (by simpa only [List.append_assoc, List.append_nil] using (List.Perm.of_eq (List.append_nil _).symm)) (fun u => List.Perm.symm (by simpa only [List.append_assoc, List.append_nil] using (List.Perm.of_eq (List.append_nil _).symm))) (q0 := 0) rfl rfl rfl rfl rfl hl.1 (Nat.le_of_ble_eq_true rfl) dL_holds_17 ⟨Nat.le_refl _, Nat.le_refl _⟩ (fun r17 u17 H locs h17 hP hD hS => ?_)
        obtain ⟨z1_17, rfl⟩ : ∃ z, z = u17 := ⟨_, rfl⟩
        obtain ⟨rfl, h17_1⟩ := h17
        have hP : va_P D vwCl (wA kA mq q qc qp hq qs t cnt sv z1_17 x) H := hP
        have hD : va_D A (wA kA mq q qc qp hq qs t cnt sv z1_17 x) := hD
        refine n_imul (v := (nI (cs * (acT t i)))) hx hb (pk_mul _ _) dL_holds_20 ?_
        refine lv_istore_n (lv' := [(1, .int (nI (cs * (acT t i)))), (2, .int (nI i)), (0, .ref mq)]) hx hb dL_holds_21 rfl hl (by decide) rfl (fun ls hl => ?_)
        refine lv_iinc (v := (nI (i + 1))) (lv' := [(2, .int (nI (i + 1))), (1, .int (nI (cs * (acT t i)))), (0, .ref mq)]) hx hb dL_holds_22 hl (k := 1) rfl (nI_inc _) (by decide) rfl (fun ls hl => ?_)
        refine lv_goto (tgt := 4) hx hb dL_holds_25 (by decide) ?_
        exact ih4 (i + 1) (cs * (acT t i)) z1_17 (by omega) (by first | assumption | omega) (by rw [hcs0, prodF_s]) (by first | assumption | omega) _ _ hP hD hS _ (lv_sub hl [0, 1, 2] rfl)
  exact L4 ((ccT t - 0) + 1) 0 1 z (Nat.lt_succ_self _) (by first | assumption | omega) rfl (by first | assumption | omega) _ _ hP hD hS _ (lv_sub hl [0, 1, 2] rfl)

set_option maxHeartbeats 4000000 in
set_option maxRecDepth 100000 in
theorem c_L_cell (lQ : Launch) (b L : Nat) (xs : Nat → Int32) (hL : L ≤ 260) (k : Nat) (hk : k < 1000)  : Met lQ yL_cell wsL_cell (rmN 0 0) (va_Pc [.ref b, .int (nI k)] (fun U => va_X b L xs U U.heap ∧ b < U.heap.size)) (vp_Si (fun r : Int32 => ∃ y9 : Nat, r = nI y9 ∧ y9 < 2147483648)) 0 0 (fun _ => False) := by
  refine Met.ofW (cc := cL_cell) (maxL := 2) (ret := (some .int)) (by decide) rfl ?_
  intro pQ eQ s mQ args below meth cQ s₁ B hml hv
  obtain ⟨rfl, hX, hbl⟩ := hv
  have hx := B.exec
  have hb := B.bytes
  have hr := B.returns
  have hts := atoms_spec (ws := wsL_cell) B.pre
  have hown : s.vm.findClass RL = some mQ.cls := findClass_of_methodNamed B.named
  have hlocks : meth.locks = false := B.notSynchronized
  have hS0 : CallFix pQ mQ cQ cL_cell 2 s ([.ref b, .int (nI k)] : List Value).toArray wsL_cell RL := ⟨hx, hb, hml, hown, hts⟩
  have k7 : (Cond.constant RL 7 (nI 2147483647)).before ([.ref b, .int (nI k)] : List Value).toArray s = true := hts _ (by decide +kernel)
  have hl := lv_entry ([.ref b, .int (nI k)]) (n := 2) (Nat.le_of_ble_eq_true rfl)
  rw [lg_entry_eq]
  generalize (lg_sl ([.ref b, .int (nI k)]) ++ List.replicate (2 - (lg_sl ([.ref b, .int (nI k)])).length) Slot.unset).toArray = ls at hl ⊢
  have hl : lv_has ls 2 [(0, .ref b), (1, .int (nI k))] := hl
  refine lv_iload_n hx hb dL_cell_0 rfl (lv_at hl 1 rfl) ?_
  refine lv_aload_n hx hb dL_cell_1 rfl (lv_at hl 0 rfl) ?_
  refine va_slen (A := fun _ => False) hx hb hX hbl (fun h => h) va_S.rf dL_cell_2 ?_
  show W pQ lQ eQ (headSpec wsL_cell (rmN 0 0)).room s mQ ([.ref b, .int (nI k)] : List Value).toArray below meth cQ s.heap [] 0 0 (MQ below (vp_Si (fun r : Int32 => ∃ y9 : Nat, r = nI y9 ∧ y9 < 2147483648)) ([.ref b, .int (nI k)] : List Value).toArray s 0 0 (fun _ => False)) (F0 mQ 3 ls [.int (nI L), .int (nI k)])
  refine n_icmp_ge (a := k) (b := L) (tgt := 12) hx hb (by omega) (by omega) dL_cell_3 (by decide) (fun c3 => ?_) (fun c3 => ?_)
  · refine lv_sipush (v := (nI 16807)) hx hb dL_cell_12 (by decide) ?_
    refine lv_iload_n hx hb dL_cell_15 rfl (lv_at hl 1 rfl) ?_
    refine lv_bipush (v := (nI 13)) hx hb dL_cell_16 (by decide) ?_
    refine n_iadd (v := (nI (k + 13))) hx hb (nI_add _ _) dL_cell_18 ?_
    refine n_imul (v := (nI (16807 * (k + 13)))) hx hb (pk_mul _ _) dL_cell_19 ?_
    refine lv_ldc (v := (nI 2147483647)) hx hb hown k7 dL_cell_20 ?_
    refine n_iand (v := (nI ((16807 * (k + 13)) &&& 2147483647))) hx hb (nN_and _ _) dL_cell_22 ?_
    exact n_reti hx hb hr hlocks (post := fun r : Int32 => ∃ y9 : Nat, r = nI y9 ∧ y9 < 2147483648) (by first | exact and_m _ | exact ⟨_, rfl, Nat.lt_of_le_of_lt Nat.and_le_right (by decide)⟩) rfl dL_cell_23
  · refine lv_aload_n hx hb dL_cell_6 rfl (lv_at hl 0 rfl) ?_
    refine lv_iload_n hx hb dL_cell_7 rfl (lv_at hl 1 rfl) ?_
    refine n_sld (A := fun _ => False) (i := k) hx hb hX hbl (fun h => h) va_S.rf (by omega) (by omega) dL_cell_8 ?_
    refine lv_goto (tgt := 20) hx hb dL_cell_9 (by decide) ?_
    refine lv_ldc (v := (nI 2147483647)) hx hb hown k7 dL_cell_20 ?_
    refine n_iand (v := ((xs k) &&& (nI 2147483647))) hx hb rfl dL_cell_22 ?_
    exact n_reti hx hb hr hlocks (post := fun r : Int32 => ∃ y9 : Nat, r = nI y9 ∧ y9 < 2147483648) (by first | exact and_m _ | exact ⟨_, rfl, Nat.lt_of_le_of_lt Nat.and_le_right (by decide)⟩) rfl dL_cell_23

