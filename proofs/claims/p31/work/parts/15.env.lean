
/-- the constants' texts that AskedRules throws with, by their entries -/
def strX : List (Nat × String) := [(61, "answers or cost out of range"), (72, "no room for a condition"), (87, "no such condition"), (90, "cost out of range"), (102, "no such sets or action"), (107, "no room for a row"), (116, "no such row or condition"), (122, "no such set of answers"), (128, "no such row"), (130, "action out of range"), (139, "the row is the first one"), (162, "no such value"), (173, "place is negative"), (181, "no such case"), (186, "no such case or condition"), (191, "index is negative"), (254, "nothing to undo")]
def lenW : List Nat := [2, 4, 2, 5]
def bytW : List (List Int32) := [[105, 102], [100, 114, 111, 112], [117, 112], [109, 101, 114, 103, 101]]
/-- what is read of statics and constants: Plans.POWER, Throwable's two, the texts, the four words -/
def evS (adK adV : Nat → Nat) (A : Nat → Prop) (U : State) (H : Heap) : Prop :=
  (∃ t : Nat, va_Z "AskedRules$Plans" "POWER" "[I" (.ref t) A U H ∧ va_T .int t 6 (fun j => .int (nI (5 ^ j))) A U H) ∧
  (vx_Zq Bundle.tN "UNASSIGNED_STACK" Bundle.steD A U H ∧ vx_Zq Bundle.tN "SUPPRESSED_SENTINEL" Bundle.listD A U H) ∧
  (∀ q ∈ strX, ∃ a : Nat, vk_R "AskedRules" q.1 q.2 a U) ∧
  (∀ j : Nat, adK j = adK j ∧ adV j = adV j)
theorem evS.step {adK adV : Nat → Nat} {A B : Nat → Prop} {s U : State} {H0 H : Heap} (h : evS adK adV A s H0) (hq : ∀ a : Nat, a < H0.size → ¬ A a → H[a]? = H0[a]?) (hB : ∀ q, B q → A q) (hW : s.WarmedH U.vm) : evS adK adV B U H := by
  obtain ⟨⟨t, a1, a2⟩, ⟨b1, b2⟩, c1, d1⟩ := h
  have hv := hW.alike
  exact ⟨⟨t, va_Z.moved hv ((a1.kept hq).narrow hB), va_T.moved hv ((a2.kept hq).narrow hB)⟩, ⟨vx_Zq.moved hv ((b1.kept hq).narrow hB), vx_Zq.moved hv ((b2.kept hq).narrow hB)⟩,
    fun q h => by
      obtain ⟨a, ha⟩ := c1 q h
      exact ⟨a, vk_R.warm hW ha⟩, d1⟩
theorem evS.go {adK adV : Nat → Nat} {A B : Nat → Prop} {s U : State} {H : Heap} {locs : List Loc} (h : evS adK adV A s s.heap) (hS : va_S A s.heap H locs) (hB : ∀ q, B q → A q) (hU : U.heap = H) (hW : s.WarmedH U.vm) : evS adK adV B U U.heap := by
  rw [hU]
  exact h.step (fun a h1 h2 => hS.2.1 a h1 h2) hB hW
theorem evS.same {adK adV : Nat → Nat} {A : Nat → Prop} {u U : State} {H : Heap} (hv : U.vm = u.vm) (h : evS adK adV A u H) : evS adK adV A U H := by
  obtain ⟨⟨t, a1, a2⟩, ⟨b1, b2⟩, c1, d1⟩ := h
  have ha : u.vm.Alike U.vm := by rw [hv]; exact Vm.Alike.refl _
  exact ⟨⟨t, va_Z.moved ha a1, va_T.moved ha a2⟩, ⟨vx_Zq.moved ha b1, vx_Zq.moved ha b2⟩, fun q h => by
      obtain ⟨a, ha⟩ := c1 q h
      exact ⟨a, vk_R.same hv ha⟩, d1⟩
abbrev rdE_Pc (D : va_G) (cl : List vw_C) (adK adV : Nat → Nat) (av : List Value) (wc : va_W) (tysc : List (ClassId × FieldType)) : Array Value → State → Prop := va_Pc av (fun U => va_P D cl wc U.heap ∧ va_K D cl tysc U ∧ evS adK adV (fun _ => False) U U.heap)
abbrev wrE_Pc (D : va_G) (cl : List vw_C) (adK adV : Nat → Nat) (av : List Value) (wc : va_W) (tysc : List (ClassId × FieldType)) (sz : Nat) : Array Value → State → Prop := va_Pc av (fun U => U.heap.size = sz ∧ va_P D cl wc U.heap ∧ va_K D cl tysc U ∧ va_D (fun _ => True) wc ∧ evS adK adV (va_A wc sz) U U.heap)

section NCE
variable {p : Program} {l : Launch} {e : Env} {R : Room} {s : State} {m : MethodId} {args : Array Value} {below : List Frame} {meth : Method} {c : Code} {H : Heap} {locs : List Loc} {cells slots : Nat} {Q : State → Prop}
variable {cc : ByteArray} {pc : Nat} {ls : Array Slot} {rest : List Value} {D : va_G} {cl : List vw_C} {ws : va_W} {tys : List (ClassId × FieldType)} {a : Nat} {A : Nat → Prop} {H0 : Heap}
variable {y : MethodName} {bytes : ByteArray} {maxL nL mc ms n index : Nat} {ret : Option FieldType} {wsy : List Cond} {rm : Room} {Ts : List Cond} {own C : String} {b : Nat} {As st : List Value} {wc : va_W} {tysc : List (ClassId × FieldType)}
variable {adK adV : Nat → Nat}

theorem rdE_blind {av : List Value} : FrameBlind (rdE_Pc D cl adK adV av wc tysc) := fun a U g mk q => by
  obtain ⟨q0, qP, qK, qE⟩ := q
  exact ⟨q0, qP, va_K.moved (u := U) (U := U.calling g mk a) (Vm.Alike.refl U.vm) qK, evS.same (u := U) rfl qE⟩
theorem wrE_blind {av : List Value} {sz : Nat} : FrameBlind (wrE_Pc D cl adK adV av wc tysc sz) := fun a U g mk q => by
  obtain ⟨q0, q1, qP, qK, qD, qE⟩ := q
  exact ⟨q0, q1, qP, va_K.moved (u := U) (U := U.calling g mk a) (Vm.Alike.refl U.vm) qK, qD, evS.same (u := U) rfl qE⟩
/-- an element of the static row of powers -/
theorem n_tald {cc : ByteArray} {A : Nat → Prop} (hx : p.tables.exec = Jvm.exec) (hb : c.code = cc) {t : Nat} (hT : va_T .int t 6 (fun j => .int (nI (5 ^ j))) A s s.heap) (hS : va_S A s.heap H locs) {i : Nat} (hi : i < 6) (hdg : decode cc pc = .ok (.iaload, 1)) (k : W p l e R s m args below meth c H locs cells slots Q (F0 m (pc + 1) ls (.int (nI (5 ^ i)) :: rest))) : W p l e R s m args below meth c H locs cells slots Q (F0 m pc ls (.int (nI i) :: .ref t :: rest)) := by
  obtain ⟨cell, h1, h2, h3, h4, h5, h6, h7⟩ := hT
  have hl := (Array.getElem?_eq_some_iff.mp h1).1
  have hc : (nI i).toNatClampNeg = i := nI_clamp (by omega)
  refine W.iald (v := .int (nI (5 ^ i))) hx hb (by rw [hS.2.1 t hl h7]; exact h1) h2 h3 ?_ (by rw [hc]; exact h6 i hi) rfl rfl hdg k
  rw [hc]
  rintro (h | h)
  · exact nI_pos (by omega) h
  · omega
theorem n_cVE (hS0 : CallFix p m c cc nL s args Ts own) {post : Int32 → Prop} (hM : Met l y wsy rm (rdE_Pc D cl adK adV (.ref b :: As) wc tysc) (vp_Si post) 0 0 (fun _ => False)) (cw : CallW R s args own C index y bytes maxL ret wsy rm 0 0 n) (hP : va_P D cl wc H) (hK : va_K D cl tysc s) {ci q0 : Nat} {fs : List Value} {qc : vw_C} (hr : wc[q0]? = some (b, .inr (ci, fs))) (hcl : cl[ci]? = some qc) (hC : qc.1 = C) (hE : evS adK adV A s s.heap) (hS : va_S A s.heap H locs) (hst : st = As.reverse ++ .ref b :: rest) (hn : As.length = n) (hls : ls.size = nL) (hroom : (rest.map fun v => v.category).sum ≤ 8) (hdg : decode cc pc = .ok (.invokevirtual index, 3)) (hcs : cells ≤ R.cells ∧ slots ≤ R.slots) (kk : ∀ r : Int32, post r → W p l e R s m args below meth c H locs cells slots Q (F0 m (pc + 3) ls (.int r :: rest))) : W p l e R s m args below meth c H locs cells slots Q (F0 m pc ls st) := by
  subst hst
  refine vp_callSi (W.runV (As := As) (rest := rest) hS0 hM cw ⟨rdE_blind, ?_, fun U hU hW => ⟨rfl, by rw [hU]; exact hP, va_K.moved hW.alike hK, evS.go hE hS (fun _ h => h.elim) hU hW⟩⟩ rfl hn hls rfl (lv_room hroom) hdg hcs) kk
  rw [← hC]
  exact va_recv hK hP hcl hr
theorem n_cSE (hS0 : CallFix p m c cc nL s args Ts own) {post : Int32 → Prop} (hM : Met l y wsy rm (rdE_Pc D cl adK adV As wc tysc) (vp_Si post) 0 0 (fun _ => False)) (cw : CallB R s args own index y bytes maxL ret wsy rm 0 0 n ∧ (Cond.static y).before args s = true) (hP : va_P D cl wc H) (hK : va_K D cl tysc s) (hE : evS adK adV A s s.heap) (hS : va_S A s.heap H locs) (hst : st = As.reverse ++ rest) (hn : As.length = n) (hls : ls.size = nL) (hroom : (rest.map fun v => v.category).sum ≤ 8) (hdg : decode cc pc = .ok (.invokestatic index, 3)) (hcs : cells ≤ R.cells ∧ slots ≤ R.slots) (kk : ∀ r : Int32, post r → W p l e R s m args below meth c H locs cells slots Q (F0 m (pc + 3) ls (.int r :: rest))) : W p l e R s m args below meth c H locs cells slots Q (F0 m pc ls st) := by
  subst hst
  exact vp_callSi (W.runS (As := As) (rest := rest) hS0 hM cw ⟨rdE_blind, fun U hU hW => ⟨rfl, by rw [hU]; exact hP, va_K.moved hW.alike hK, evS.go hE hS (fun _ h => h.elim) hU hW⟩⟩ rfl hn hls rfl (lv_room hroom) hdg hcs) kk
theorem n_wViE (hS0 : CallFix p m c cc nL s args Ts own) {S : Type} {post : Int32 → S → Prop} {w1 : S → va_W} (hM : Met l y wsy rm (wrE_Pc D cl adK adV (.ref b :: As) wc tysc H.size) (va_Qi post (wr_B D cl wc tysc H.size w1) (va_A wc H.size)) mc ms (va_A wc H.size)) (cw : CallW R s args own C index y bytes maxL ret wsy rm mc ms n) (hP : va_P D cl ws H) (hD : va_D A ws) (hS : va_S A s.heap H locs) (hE : evS adK adV A s s.heap) (hA : ∀ q, s.heap.size ≤ q → A q) (hK : va_K D cl tys s) (hKc : va_K D cl tysc s) {wr : va_W} {ws' : S → va_W} (hp : ws.Perm (wc ++ wr)) (hp' : ∀ u, (w1 u ++ wr).Perm (ws' u)) {ci q0 : Nat} {fs : List Value} {qc : vw_C} (hr : wc[q0]? = some (b, .inr (ci, fs))) (hcl : cl[ci]? = some qc) (hC : qc.1 = C) (hst : st = As.reverse ++ .ref b :: rest) (hn : As.length = n) (hls : ls.size = nL) (hroom : (rest.map fun v => v.category).sum ≤ 8) (hdg : decode cc pc = .ok (.invokevirtual index, 3)) (hcs : cells + mc ≤ R.cells ∧ slots + ms ≤ R.slots) (kk : ∀ (r : Int32) (u : S) (H1 : Heap) (locs1 : List Loc), post r u → va_P D cl (ws' u) H1 → va_D A (ws' u) → va_S A s.heap H1 locs1 → W p l e R s m args below meth c H1 locs1 (cells + mc) (slots + ms) Q (F0 m (pc + 3) ls (.int r :: rest))) : W p l e R s m args below meth c H locs cells slots Q (F0 m pc ls st) := by
  subst hst
  have hnd : va_nds (wc ++ wr) := (hp.map _).nodup_iff.mp (va_D_nd hD)
  have hnd' : ((wc.map (fun q => q.1)) ++ (wr.map (fun q => q.1))).Nodup := by rw [← List.map_append]; exact hnd
  have hndc : va_nds wc := (List.nodup_append.mp hnd').1
  have hF : ∀ q, va_A wc H.size q → A q := by
    intro q h
    rcases va_A_mem.mp h with ⟨e, he⟩ | h
    · obtain ⟨k1, hk1⟩ := List.getElem?_of_mem (hp.mem_iff.mpr (List.mem_append_left _ he))
      exact hD.2 k1 _ hk1
    · exact hA q (Nat.le_trans hS.1 h)
  refine va_calli (va_runV (As := As) (rest := rest) hS0 hM cw ⟨wrE_blind, (by rw [← hC]; exact va_recv hK (hP.mem (fun q h => hp.mem_iff.mpr (List.mem_append_left _ h))) hcl hr), fun U hU hW => ⟨rfl, by rw [hU], by rw [hU]; exact hP.mem (fun q h => hp.mem_iff.mpr (List.mem_append_left _ h)), va_K.moved hW.alike hKc, va_D_of hndc (fun _ _ => trivial), evS.go hE hS hF hU hW⟩⟩ rfl hn hls rfl (lv_room hroom) hdg hcs) hS (fun q _ h => hF q h) hF (fun r u t H1 locs1 ht hvm hw hB hz1 hk1 hS1 => ?_)
  obtain ⟨hP1, hK1, hD1⟩ := hB
  rw [ht] at hP1
  obtain ⟨h1, h2⟩ := n_frame hP hD hp (hp' u) hk1 hF hP1 hD1
  exact kk r u H1 locs1 hw h1 h2 hS1
theorem n_wVlE (hS0 : CallFix p m c cc nL s args Ts own) {S : Type} {post : Int64 → S → Prop} {w1 : S → va_W} (hM : Met l y wsy rm (wrE_Pc D cl adK adV (.ref b :: As) wc tysc H.size) (va_Ql post (wr_B D cl wc tysc H.size w1) (va_A wc H.size)) mc ms (va_A wc H.size)) (cw : CallW R s args own C index y bytes maxL ret wsy rm mc ms n) (hP : va_P D cl ws H) (hD : va_D A ws) (hS : va_S A s.heap H locs) (hE : evS adK adV A s s.heap) (hA : ∀ q, s.heap.size ≤ q → A q) (hK : va_K D cl tys s) (hKc : va_K D cl tysc s) {wr : va_W} {ws' : S → va_W} (hp : ws.Perm (wc ++ wr)) (hp' : ∀ u, (w1 u ++ wr).Perm (ws' u)) {ci q0 : Nat} {fs : List Value} {qc : vw_C} (hr : wc[q0]? = some (b, .inr (ci, fs))) (hcl : cl[ci]? = some qc) (hC : qc.1 = C) (hst : st = As.reverse ++ .ref b :: rest) (hn : As.length = n) (hls : ls.size = nL) (hroom : (rest.map fun v => v.category).sum ≤ 8) (hdg : decode cc pc = .ok (.invokevirtual index, 3)) (hcs : cells + mc ≤ R.cells ∧ slots + ms ≤ R.slots) (kk : ∀ (r : Int64) (u : S) (H1 : Heap) (locs1 : List Loc), post r u → va_P D cl (ws' u) H1 → va_D A (ws' u) → va_S A s.heap H1 locs1 → W p l e R s m args below meth c H1 locs1 (cells + mc) (slots + ms) Q (F0 m (pc + 3) ls (.long r :: rest))) : W p l e R s m args below meth c H locs cells slots Q (F0 m pc ls st) := by
  subst hst
  have hnd : va_nds (wc ++ wr) := (hp.map _).nodup_iff.mp (va_D_nd hD)
  have hnd' : ((wc.map (fun q => q.1)) ++ (wr.map (fun q => q.1))).Nodup := by rw [← List.map_append]; exact hnd
  have hndc : va_nds wc := (List.nodup_append.mp hnd').1
  have hF : ∀ q, va_A wc H.size q → A q := by
    intro q h
    rcases va_A_mem.mp h with ⟨e, he⟩ | h
    · obtain ⟨k1, hk1⟩ := List.getElem?_of_mem (hp.mem_iff.mpr (List.mem_append_left _ he))
      exact hD.2 k1 _ hk1
    · exact hA q (Nat.le_trans hS.1 h)
  refine va_calll (va_runV (As := As) (rest := rest) hS0 hM cw ⟨wrE_blind, (by rw [← hC]; exact va_recv hK (hP.mem (fun q h => hp.mem_iff.mpr (List.mem_append_left _ h))) hcl hr), fun U hU hW => ⟨rfl, by rw [hU], by rw [hU]; exact hP.mem (fun q h => hp.mem_iff.mpr (List.mem_append_left _ h)), va_K.moved hW.alike hKc, va_D_of hndc (fun _ _ => trivial), evS.go hE hS hF hU hW⟩⟩ rfl hn hls rfl (lv_room hroom) hdg hcs) hS (fun q _ h => hF q h) hF (fun r u t H1 locs1 ht hvm hw hB hz1 hk1 hS1 => ?_)
  obtain ⟨hP1, hK1, hD1⟩ := hB
  rw [ht] at hP1
  obtain ⟨h1, h2⟩ := n_frame hP hD hp (hp' u) hk1 hF hP1 hD1
  exact kk r u H1 locs1 hw h1 h2 hS1
theorem n_wVvE (hS0 : CallFix p m c cc nL s args Ts own) {S : Type} {post : S → Prop} {w1 : S → va_W} (hM : Met l y wsy rm (wrE_Pc D cl adK adV (.ref b :: As) wc tysc H.size) (va_Qv post (wr_B D cl wc tysc H.size w1) (va_A wc H.size)) mc ms (va_A wc H.size)) (cw : CallW R s args own C index y bytes maxL ret wsy rm mc ms n) (hP : va_P D cl ws H) (hD : va_D A ws) (hS : va_S A s.heap H locs) (hE : evS adK adV A s s.heap) (hA : ∀ q, s.heap.size ≤ q → A q) (hK : va_K D cl tys s) (hKc : va_K D cl tysc s) {wr : va_W} {ws' : S → va_W} (hp : ws.Perm (wc ++ wr)) (hp' : ∀ u, (w1 u ++ wr).Perm (ws' u)) {ci q0 : Nat} {fs : List Value} {qc : vw_C} (hr : wc[q0]? = some (b, .inr (ci, fs))) (hcl : cl[ci]? = some qc) (hC : qc.1 = C) (hst : st = As.reverse ++ .ref b :: rest) (hn : As.length = n) (hls : ls.size = nL) (hroom : (rest.map fun v => v.category).sum ≤ 8) (hdg : decode cc pc = .ok (.invokevirtual index, 3)) (hcs : cells + mc ≤ R.cells ∧ slots + ms ≤ R.slots) (kk : ∀ (u : S) (H1 : Heap) (locs1 : List Loc), post u → va_P D cl (ws' u) H1 → va_D A (ws' u) → va_S A s.heap H1 locs1 → W p l e R s m args below meth c H1 locs1 (cells + mc) (slots + ms) Q (F0 m (pc + 3) ls rest)) : W p l e R s m args below meth c H locs cells slots Q (F0 m pc ls st) := by
  subst hst
  have hnd : va_nds (wc ++ wr) := (hp.map _).nodup_iff.mp (va_D_nd hD)
  have hnd' : ((wc.map (fun q => q.1)) ++ (wr.map (fun q => q.1))).Nodup := by rw [← List.map_append]; exact hnd
  have hndc : va_nds wc := (List.nodup_append.mp hnd').1
  have hF : ∀ q, va_A wc H.size q → A q := by
    intro q h
    rcases va_A_mem.mp h with ⟨e, he⟩ | h
    · obtain ⟨k1, hk1⟩ := List.getElem?_of_mem (hp.mem_iff.mpr (List.mem_append_left _ he))
      exact hD.2 k1 _ hk1
    · exact hA q (Nat.le_trans hS.1 h)
  refine va_callv (va_runV (As := As) (rest := rest) hS0 hM cw ⟨wrE_blind, (by rw [← hC]; exact va_recv hK (hP.mem (fun q h => hp.mem_iff.mpr (List.mem_append_left _ h))) hcl hr), fun U hU hW => ⟨rfl, by rw [hU], by rw [hU]; exact hP.mem (fun q h => hp.mem_iff.mpr (List.mem_append_left _ h)), va_K.moved hW.alike hKc, va_D_of hndc (fun _ _ => trivial), evS.go hE hS hF hU hW⟩⟩ rfl hn hls rfl (lv_room hroom) hdg hcs) hS (fun q _ h => hF q h) hF (fun u t H1 locs1 ht hvm hw hB hz1 hk1 hS1 => ?_)
  obtain ⟨hP1, hK1, hD1⟩ := hB
  rw [ht] at hP1
  obtain ⟨h1, h2⟩ := n_frame hP hD hp (hp' u) hk1 hF hP1 hD1
  exact kk u H1 locs1 hw h1 h2 hS1
end NCE
