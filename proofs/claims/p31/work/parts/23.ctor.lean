
/-- a fresh object's address, and those of its arrays -/
def conF (b : Nat) (u : Nat → Nat) : Nat → Nat
  | 0 => b
  | n + 1 => u n
def lsF (l : List Nat) : Nat → Nat := fun i => l.getD i 0
theorem svO_0 {a0 a1 a2 a3 : Option Nat} {x : Nat} : va_up (svO a0 a1 a2 a3) 0 (some x) = svO (some x) a1 a2 a3 := by
  funext j
  match j with | 0 | 1 | 2 | 3 | _ + 4 => rfl
theorem svO_1 {a0 a1 a2 a3 : Option Nat} {x : Nat} : va_up (svO a0 a1 a2 a3) 1 (some x) = svO a0 (some x) a2 a3 := by
  funext j
  match j with | 0 | 1 | 2 | 3 | _ + 4 => rfl
theorem svO_2 {a0 a1 a2 a3 : Option Nat} {x : Nat} : va_up (svO a0 a1 a2 a3) 2 (some x) = svO a0 a1 (some x) a3 := by
  funext j
  match j with | 0 | 1 | 2 | 3 | _ + 4 => rfl
theorem svO_3 {a0 a1 a2 a3 : Option Nat} {x : Nat} : va_up (svO a0 a1 a2 a3) 3 (some x) = svO a0 a1 a2 (some x) := by
  funext j
  match j with | 0 | 1 | 2 | 3 | _ + 4 => rfl
theorem svO_n : (fun _ => none : Nat → Option Nat) = svO none none none none := by
  funext j
  match j with | 0 | 1 | 2 | 3 | _ + 4 => rfl
theorem na_N (N : Nat) (cA : ClassId) : vp_cell cA (N, .inl (aN fun _ => 0)) = arrV cA N (fun _ => defaultValue .int) := by
  rw [vp_cell_i]; exact arrV_cong cA (fun j _ => rfl)
theorem na_O (N : Nat) (cA : ClassId) : vp_cell cA (N, .inl (aO fun _ => some 0)) = arrV cA N (fun _ => defaultValue .int) := by
  rw [vp_cell_i]; exact arrV_cong cA (fun j _ => rfl)
theorem na_Y (N : Nat) (cA : ClassId) : vp_cell cA (N, .inl (aN fun _ => 0)) = arrV cA N (fun _ => defaultValue .byte) := by
  rw [vp_cell_i]; exact arrV_cong cA (fun j _ => rfl)
theorem na_B (N : Nat) (cA : ClassId) : vp_cell cA (N, .inl (aB fun _ => false)) = arrV cA N (fun _ => defaultValue .boolean) := by
  rw [vp_cell_i]; exact arrV_cong cA (fun j _ => rfl)
/-- what the constructors know of nest mates, and of arrays of tables -/
def nwS (U : State) : Prop := va_Nw (.methodLinkNest RX1 17 yX4_init "AskedRules") U ∧ va_Nw (.methodLinkNest RX5 9 yX4_init "AskedRules") U ∧ va_AO "AskedRules$Table" U
theorem nwS.warm {s U : State} (hW : s.WarmedH U.vm) (h : nwS s) : nwS U := ⟨va_Nw.warmM hW h.1, va_Nw.warmM hW h.2.1, va_AO.moved hW.alike h.2.2⟩
theorem nwS.same {u U : State} (hv : u.vm = U.vm) (h : nwS u) : nwS U := ⟨va_Nw.same rfl hv h.1, va_Nw.same rfl hv h.2.1, va_AO.moved (by rw [hv]; exact Vm.Alike.refl _) h.2.2⟩
abbrev wrN_Pc (D : va_G) (cl : List vw_C) (av : List Value) (wc : va_W) (tysc : List (ClassId × FieldType)) (sz : Nat) : Array Value → State → Prop := va_Pc av (fun U => U.heap.size = sz ∧ va_P D cl wc U.heap ∧ va_K D cl tysc U ∧ va_D (fun _ => True) wc ∧ nwS U)
section NCT
variable {p : Program} {l : Launch} {e : Env} {R : Room} {s : State} {m : MethodId} {args : Array Value} {below : List Frame} {meth : Method} {c : Code} {H : Heap} {locs : List Loc} {cells slots : Nat} {Q : State → Prop}
variable {cc : ByteArray} {pc : Nat} {ls : Array Slot} {rest : List Value} {D : va_G} {cl : List vw_C} {ws : va_W} {tys : List (ClassId × FieldType)} {a : Nat} {A : Nat → Prop} {H0 : Heap}
variable {y : MethodName} {bytes : ByteArray} {maxL nL mc ms n index : Nat} {ret : Option FieldType} {wsy : List Cond} {rm : Room} {Ts : List Cond} {own C : String} {b : Nat} {As st : List Value} {wc : va_W} {tysc : List (ClassId × FieldType)}

theorem wrN_blind {av : List Value} {sz : Nat} : FrameBlind (wrN_Pc D cl av wc tysc sz) := fun a U g mk q => by
  obtain ⟨q0, q1, qP, qK, qD, qN⟩ := q
  exact ⟨q0, q1, qP, va_K.moved (u := U) (U := U.calling g mk a) (Vm.Alike.refl U.vm) qK, qD, nwS.same (u := U) rfl qN⟩
theorem n_newa {cc : ByteArray} (hx : p.tables.exec = Jvm.exec) (hb : c.code = cc) {atype : ArrayType} (harr : (Cond.arrayClass (newarray.typeOf atype)).before args s = true) {ty : FieldType} (hty : newarray.typeOf atype = ty) (hK : va_K D cl tys s) (hP : va_P D cl ws H) (hD : va_D A ws) (hS : va_S A H0 H locs) (hA : ∀ q, H0.size ≤ q → A q) (t0 : Nat) {cK : ClassId} (ht : tys[t0]? = some (cK, ty)) (hra : ∀ (U : State) (c : ClassId), va_RA U c ty → U.vm.findClass ("[" ++ ty.toString) = some c)
    {n : Int32} {N' : Nat} {f : Nat → Int32} (ha : ∀ cA : ClassId, vp_cell cA (N', .inl f) = arrV cA N' (fun _ => defaultValue ty)) (hn : ¬ n < 0) (hN : n.toNatClampNeg = N') (hbytes : N' * componentBytes ty ≤ 536870912) (hcells : cells + 1 ≤ R.cells) (hslots : slots + N' ≤ R.slots) (hdg : decode cc pc = .ok (.newarray atype, 2))
    (kk : ∀ (q : Nat) (H1 : Heap), va_P D cl (ws ++ [(q, .inl (cK, N', .inl f))]) H1 → va_D A (ws ++ [(q, .inl (cK, N', .inl f))]) → va_S A H0 H1 locs →
      W p l e R s m args below meth c H1 locs (cells + 1) (slots + N') Q (F0 m (pc + 2) ls (.ref q :: rest))) : W p l e R s m args below meth c H locs cells slots Q (F0 m pc ls (.int n :: rest)) := by
  refine va_newa hx hb harr hty hK hP hD hS hA ha hn hN hbytes hcells hslots hdg (fun q cA H1 hK1 hP1 hD1 hS1 => ?_)
  have h1 := hra s cA (hK1.2 tys.length (cA, ty) (by rw [List.getElem?_append_right (Nat.le_refl _), Nat.sub_self]; rfl)).2
  have h2 := hra s cK (hK.2 t0 _ ht).2
  have e : cA = cK := Option.some.inj (h1.symm.trans h2)
  subst e
  exact kk q H1 hP1 hD1 hS1
theorem n_newq {cc : ByteArray} (hx : p.tables.exec = Jvm.exec) (hb : c.code = cc) {own C : String} {index : Nat} (hown : s.vm.findClass own = some m.cls) (hclink : (Cond.classLink own index C).before args s = true) (hover : va_AO C s) (hK : va_K D cl tys s) (hP : va_P D cl ws H) (hD : va_D A ws) (hS : va_S A H0 H locs) (hA : ∀ q, H0.size ≤ q → A q) (t0 : Nat) {cK : ClassId} (ht : tys[t0]? = some (cK, .object C))
    {n : Int32} {N' : Nat} (hn : ¬ n < 0) (hN : n.toNatClampNeg = N') (hbytes : N' * 4 ≤ 536870912) (hcells : cells + 1 ≤ R.cells) (hslots : slots + N' ≤ R.slots) (hdg : decode cc pc = .ok (.anewarray index, 3))
    (kk : ∀ (q : Nat) (H1 : Heap), va_P D cl (ws ++ [(q, .inl (cK, N', .inr (.inr (.inr (.inr (fun _ => none))))))]) H1 → va_D A (ws ++ [(q, .inl (cK, N', .inr (.inr (.inr (.inr (fun _ => none))))))]) → va_S A H0 H1 locs →
      W p l e R s m args below meth c H1 locs (cells + 1) (slots + N') Q (F0 m (pc + 3) ls (.ref q :: rest))) : W p l e R s m args below meth c H locs cells slots Q (F0 m pc ls (.int n :: rest)) := by
  refine va_newq hx hb hown hclink hover hK hP hD hS hA hn hN hbytes hcells hslots hdg (fun q cA H1 hK1 hP1 hD1 hS1 => ?_)
  obtain ⟨-, -, -, -, -, h1⟩ := (hK1.2 tys.length (cA, .object C) (by rw [List.getElem?_append_right (Nat.le_refl _), Nat.sub_self]; rfl)).2
  obtain ⟨-, -, -, -, -, h2⟩ := (hK.2 t0 _ ht).2
  have e : cA = cK := Option.some.inj (h1.symm.trans h2)
  subst e
  exact kk q H1 hP1 hD1 hS1

theorem n_wIvH {host : String} (hS0 : CallFix p m c cc nL s args Ts own) {S : Type} {post : S → Prop} {w1 : S → va_W} (hM : Met l y wsy rm (wr_Pc D cl (.ref b :: As) wc tysc H.size) (va_Qv post (wr_B D cl wc tysc H.size w1) (va_A wc H.size)) mc ms (va_A wc H.size)) (cw : va_CN R s args own index y host bytes maxL none wsy rm mc ms n ∧ y.name = "<init>" ∧ (Cond.instanceMethod y).before args s = true) (hP : va_P D cl ws H) (hD : va_D A ws) (hS : va_S A s.heap H locs) (hA : ∀ q, s.heap.size ≤ q → A q) (hK : va_K D cl tys s) (hKc : va_K D cl tysc s) {wr : va_W} {ws' : S → va_W} (hp : ws.Perm (wc ++ wr)) (hp' : ∀ u, (w1 u ++ wr).Perm (ws' u)) (hst : st = As.reverse ++ .ref b :: rest) (hn : As.length = n) (hls : ls.size = nL) (hroom : (rest.map fun v => v.category).sum ≤ 8) (hdg : decode cc pc = .ok (.invokespecial index, 3)) (hcs : cells + mc ≤ R.cells ∧ slots + ms ≤ R.slots) (kk : ∀ (u : S) (H1 : Heap) (locs1 : List Loc), post u → va_P D cl (ws' u) H1 → va_D A (ws' u) → va_S A s.heap H1 locs1 → W p l e R s m args below meth c H1 locs1 (cells + mc) (slots + ms) Q (F0 m (pc + 3) ls rest)) : W p l e R s m args below meth c H locs cells slots Q (F0 m pc ls st) := by
  subst hst
  have hnd : va_nds (wc ++ wr) := (hp.map _).nodup_iff.mp (va_D_nd hD)
  have hnd' : ((wc.map (fun q => q.1)) ++ (wr.map (fun q => q.1))).Nodup := by rw [← List.map_append]; exact hnd
  have hndc : va_nds wc := (List.nodup_append.mp hnd').1
  have hF : ∀ q, va_A wc H.size q → A q := by
    intro q h
    rcases va_A_mem.mp h with ⟨e, he⟩ | h
    · obtain ⟨k1, hk1⟩ := List.getElem?_of_mem (hp.mem_iff.mpr (List.mem_append_left _ he))
      exact hD.2 k1 _ hk1
    · exact hA q (Nat.le_trans hS.1 h)
  refine va_callv (va_runIN (As := As) (rest := rest) hS0 hM cw ⟨wr_blind, fun U hU hW => ⟨rfl, by rw [hU], by rw [hU]; exact hP.mem (fun q h => hp.mem_iff.mpr (List.mem_append_left _ h)), va_K.moved hW.alike hKc, va_D_of hndc (fun _ _ => trivial)⟩⟩ rfl hn hls rfl (lv_room hroom) hdg hcs) hS (fun q _ h => hF q h) hF (fun u t H1 locs1 ht hvm hw hB hz1 hk1 hS1 => ?_)
  obtain ⟨hP1, hK1, hD1⟩ := hB
  rw [ht] at hP1
  obtain ⟨h1, h2⟩ := n_frame hP hD hp (hp' u) hk1 hF hP1 hD1
  exact kk u H1 locs1 hw h1 h2 hS1
theorem n_wIvN (hN : nwS s) (hS0 : CallFix p m c cc nL s args Ts own) {S : Type} {post : S → Prop} {w1 : S → va_W} (hM : Met l y wsy rm (wrN_Pc D cl (.ref b :: As) wc tysc H.size) (va_Qv post (wr_B D cl wc tysc H.size w1) (va_A wc H.size)) mc ms (va_A wc H.size)) (cw : CallB R s args own index y bytes maxL none wsy rm mc ms n ∧ y.name = "<init>" ∧ (Cond.instanceMethod y).before args s = true) (hP : va_P D cl ws H) (hD : va_D A ws) (hS : va_S A s.heap H locs) (hA : ∀ q, s.heap.size ≤ q → A q) (hK : va_K D cl tys s) (hKc : va_K D cl tysc s) {wr : va_W} {ws' : S → va_W} (hp : ws.Perm (wc ++ wr)) (hp' : ∀ u, (w1 u ++ wr).Perm (ws' u)) (hst : st = As.reverse ++ .ref b :: rest) (hn : As.length = n) (hls : ls.size = nL) (hroom : (rest.map fun v => v.category).sum ≤ 8) (hdg : decode cc pc = .ok (.invokespecial index, 3)) (hcs : cells + mc ≤ R.cells ∧ slots + ms ≤ R.slots) (kk : ∀ (u : S) (H1 : Heap) (locs1 : List Loc), post u → va_P D cl (ws' u) H1 → va_D A (ws' u) → va_S A s.heap H1 locs1 → W p l e R s m args below meth c H1 locs1 (cells + mc) (slots + ms) Q (F0 m (pc + 3) ls rest)) : W p l e R s m args below meth c H locs cells slots Q (F0 m pc ls st) := by
  subst hst
  have hnd : va_nds (wc ++ wr) := (hp.map _).nodup_iff.mp (va_D_nd hD)
  have hnd' : ((wc.map (fun q => q.1)) ++ (wr.map (fun q => q.1))).Nodup := by rw [← List.map_append]; exact hnd
  have hndc : va_nds wc := (List.nodup_append.mp hnd').1
  have hF : ∀ q, va_A wc H.size q → A q := by
    intro q h
    rcases va_A_mem.mp h with ⟨e, he⟩ | h
    · obtain ⟨k1, hk1⟩ := List.getElem?_of_mem (hp.mem_iff.mpr (List.mem_append_left _ he))
      exact hD.2 k1 _ hk1
    · exact hA q (Nat.le_trans hS.1 h)
  refine va_callv (va_runI (As := As) (rest := rest) hS0 hM cw ⟨wrN_blind, fun U hU hW => ⟨rfl, by rw [hU], by rw [hU]; exact hP.mem (fun q h => hp.mem_iff.mpr (List.mem_append_left _ h)), va_K.moved hW.alike hKc, va_D_of hndc (fun _ _ => trivial), nwS.warm hW hN⟩⟩ rfl hn hls rfl (lv_room hroom) hdg hcs) hS (fun q _ h => hF q h) hF (fun u t H1 locs1 ht hvm hw hB hz1 hk1 hS1 => ?_)
  obtain ⟨hP1, hK1, hD1⟩ := hB
  rw [ht] at hP1
  obtain ⟨h1, h2⟩ := n_frame hP hD hp (hp' u) hk1 hF hP1 hD1
  exact kk u H1 locs1 hw h1 h2 hS1
end NCT
def wN0 (_ : Nat → ClassId) (b : Nat) : va_W := [(b, .inr (0, [.null, .int (nI 0), .null, .null, .null, .null, .null, .null, .null, .null, .int (nI 0), .int (nI 0), .int (nI 0)]))]
theorem defX0 : ∀ j, j < 13 → defaultValue (tyX0 j) = vp_V [.null, .int (nI 0), .null, .null, .null, .null, .null, .null, .null, .null, .int (nI 0), .int (nI 0), .int (nI 0)] j := by decide +kernel
def wN1 (_ : Nat → ClassId) (b : Nat) : va_W := [(b, .inr (1, [.null, .int (nI 0)]))]
theorem defX1 : ∀ j, j < 2 → defaultValue (tyX1 j) = vp_V [.null, .int (nI 0)] j := by decide +kernel
def wN2 (_ : Nat → ClassId) (b : Nat) : va_W := [(b, .inr (2, [.null, .null, .null, .null, .null]))]
theorem defX2 : ∀ j, j < 5 → defaultValue (tyX2 j) = vp_V [.null, .null, .null, .null, .null] j := by decide +kernel
def wN3 (_ : Nat → ClassId) (b : Nat) : va_W := [(b, .inr (3, [.null, .null, .int (nI 0), .int (nI 0), .int (nI 0), .int (nI 0), .int (nI 0), .int (nI 0)]))]
theorem defX3 : ∀ j, j < 8 → defaultValue (tyX3 j) = vp_V [.null, .null, .int (nI 0), .int (nI 0), .int (nI 0), .int (nI 0), .int (nI 0), .int (nI 0)] j := by decide +kernel
def wN4 (_ : Nat → ClassId) (b : Nat) : va_W := [(b, .inr (4, [.int (nI 0), .null, .null, .int (nI 0), .int (nI 0), .null, .null, .null]))]
theorem defX4 : ∀ j, j < 8 → defaultValue (tyX4 j) = vp_V [.int (nI 0), .null, .null, .int (nI 0), .int (nI 0), .null, .null, .null] j := by decide +kernel
def wN5 (_ : Nat → ClassId) (b : Nat) : va_W := [(b, .inr (5, [.null, .null, .null, .null, .null, .int (bI false), .int (bI false)]))]
theorem defX5 : ∀ j, j < 7 → defaultValue (tyX5 j) = vp_V [.null, .null, .null, .null, .null, .int (bI false), .int (bI false)] j := by decide +kernel
set_option maxHeartbeats 4000000 in
set_option maxRecDepth 100000 in
theorem c_X4_init (lQ : Launch) (D : va_G) (kA : Nat → ClassId) (b : Nat) (sz : Nat)  : Met lQ yX4_init wsX4_init (rmC 1 12 5 70) (wr_Pc D vwCl [.ref b] (wN4 kA b) (tyK kA) sz) (va_Qv (S := (Nat → Nat)) (fun (u : (Nat → Nat)) => True) (wr_B D vwCl (wN4 kA b) (tyK kA) sz (fun u => (wT kA (conF b u) 0 (fun _ => 0) (fun _ => 0) 0 0 (fun _ => 0) (fun _ => 0) (fun _ => 0)))) (va_A (wN4 kA b) sz)) 5 70 (va_A (wN4 kA b) sz) := by
  refine Met.ofW (cc := cX4_init) (maxL := 1) (ret := none) (by decide) rfl ?_
  intro pQ eQ s mQ args below meth cQ s₁ B hml hv
  obtain ⟨rfl, hsz, hP, hK, hD0⟩ := hv
  have hx := B.exec
  have hb := B.bytes
  have hr := B.returns
  have hts := atoms_spec (ws := wsX4_init) B.pre
  have hown : s.vm.findClass RX4 = some mQ.cls := findClass_of_methodNamed B.named
  have hlocks : meth.locks = false := B.notSynchronized
  have hin : meth.name = "<init>" := (name_of_methodNamed B.named B.method).1
  have hS0 : CallFix pQ mQ cQ cX4_init 1 s ([.ref b] : List Value).toArray wsX4_init RX4 := ⟨hx, hb, hml, hown, hts⟩
  subst hsz
  have hD := hD0.self (sz := s.heap.size)
  generalize hAe : va_A (wN4 kA b) s.heap.size = A at hD ⊢
  have hA : ∀ q : Nat, s.heap.size ≤ q → A q := fun q h => by rw [← hAe]; exact Or.inr h
  have hS : va_S A s.heap s.heap [] := va_S.rf
  have m3 : (Cond.methodLink RX4 3 objectInit).before ([.ref b] : List Value).toArray s = true := hts _ (by decide +kernel)
  have moi : (Cond.instanceMethod objectInit).before ([.ref b] : List Value).toArray s = true := hts _ (by decide +kernel)
  have moc : (Cond.code objectInit ⟨#[0xb1]⟩ 1 none).before ([.ref b] : List Value).toArray s = true := hts _ (by decide +kernel)
  have arint : (Cond.arrayClass .int).before ([.ref b] : List Value).toArray s = true := hts _ (by decide +kernel)
  have f9 : (Cond.fieldLink RX4 9 "AskedRules$Table" "answerCount" "[I").before ([.ref b] : List Value).toArray s = true := hts _ (by decide +kernel)
  have hinX4 : ∀ w ∈ wsX40, w ∈ wsX4_init := by decide +kernel
  have f15 : (Cond.fieldLink RX4 15 "AskedRules$Table" "cost" "[I").before ([.ref b] : List Value).toArray s = true := hts _ (by decide +kernel)
  have f18 : (Cond.fieldLink RX4 18 "AskedRules$Table" "number" "[I").before ([.ref b] : List Value).toArray s = true := hts _ (by decide +kernel)
  have f21 : (Cond.fieldLink RX4 21 "AskedRules$Table" "sets" "[I").before ([.ref b] : List Value).toArray s = true := hts _ (by decide +kernel)
  have f24 : (Cond.fieldLink RX4 24 "AskedRules$Table" "action" "[I").before ([.ref b] : List Value).toArray s = true := hts _ (by decide +kernel)
  have hl := lv_entry ([.ref b]) (n := 1) (Nat.le_of_ble_eq_true rfl)
  rw [lg_entry_eq]
  generalize (lg_sl ([.ref b]) ++ List.replicate (1 - (lg_sl ([.ref b])).length) Slot.unset).toArray = ls at hl ⊢
  have hl : lv_has ls 1 [(0, .ref b)] := hl
  have hP : va_P D vwCl (wN4 kA b) s.heap := hP
  have hD : va_D A (wN4 kA b) := hD
  refine lv_aload_n hx hb dX4_init_0 rfl (lv_at hl 0 rfl) ?_
  refine W.objInit hx hb hown m3 moi moc rfl (by rw [hml]; exact hl.1) rfl dX4_init_1 (Nat.le_of_ble_eq_true rfl) (Nat.le_of_ble_eq_true rfl) ?_
  refine W.eq (g2 := F0 mQ 4 ls []) rfl ?_
  refine lv_aload_n hx hb dX4_init_4 rfl (lv_at hl 0 rfl) ?_
  refine lv_iconst (v := (nI 5)) hx hb dX4_init_5 (by decide) ?_
  refine n_newa (atype := .int) (ty := .int) (N' := 5) (f := (aN fun _ => 0)) hx hb arint rfl hK hP hD hS hA 0 rfl (fun _ _ h => h) (na_N _) (nI_pos (Nat.le_of_ble_eq_true rfl)) (nI_clamp (Nat.le_of_ble_eq_true rfl)) (Nat.le_of_ble_eq_true rfl) (Nat.le_of_ble_eq_true rfl) (Nat.le_of_ble_eq_true rfl) dX4_init_6 (fun t6_1 H hP hD hS => ?_)
  have hP : va_P D vwCl ((wN4 kA b) ++ [(t6_1, .inl (kA 0, 5, .inl (aN fun _ => 0)))]) H := hP
  have hD : va_D A ((wN4 kA b) ++ [(t6_1, .inl (kA 0, 5, .inl (aN fun _ => 0)))]) := hD
  refine n_putF (ci := 4) (v := .ref t6_1) (C := RX4) (T := TX4) (N := 8) (ws' := ([(b, .inr (4, [.int (nI 0), .ref t6_1, .null, .int (nI 0), .int (nI 0), .null, .null, .null]))] ++ [(t6_1, .inl (kA 0, 5, .inl (aN fun _ => 0)))])) hx hb hts hinX4 tyX4 tyX4_ok nmX4 hown hK hP hD hS 0 rfl rfl 1 rfl ⟨rfl, rfl, rfl, rfl⟩ f9 hin rfl rfl rfl rfl dX4_init_8 (fun H locs hP hD hS => ?_)
  refine lv_aload_n hx hb dX4_init_11 rfl (lv_at hl 0 rfl) ?_
  refine lv_iconst (v := (nI 5)) hx hb dX4_init_12 (by decide) ?_
  refine n_newa (atype := .int) (ty := .int) (N' := 5) (f := (aN fun _ => 0)) hx hb arint rfl hK hP hD hS hA 0 rfl (fun _ _ h => h) (na_N _) (nI_pos (Nat.le_of_ble_eq_true rfl)) (nI_clamp (Nat.le_of_ble_eq_true rfl)) (Nat.le_of_ble_eq_true rfl) (Nat.le_of_ble_eq_true rfl) (Nat.le_of_ble_eq_true rfl) dX4_init_13 (fun t13_2 H hP hD hS => ?_)
  have hP : va_P D vwCl ([(b, .inr (4, [.int (nI 0), .ref t6_1, .null, .int (nI 0), .int (nI 0), .null, .null, .null]))] ++ ([(t6_1, .inl (kA 0, 5, .inl (aN fun _ => 0)))] ++ [(t13_2, .inl (kA 0, 5, .inl (aN fun _ => 0)))])) H := hP
  have hD : va_D A ([(b, .inr (4, [.int (nI 0), .ref t6_1, .null, .int (nI 0), .int (nI 0), .null, .null, .null]))] ++ ([(t6_1, .inl (kA 0, 5, .inl (aN fun _ => 0)))] ++ [(t13_2, .inl (kA 0, 5, .inl (aN fun _ => 0)))])) := hD
  refine n_putF (ci := 4) (v := .ref t13_2) (C := RX4) (T := TX4) (N := 8) (ws' := ([(b, .inr (4, [.int (nI 0), .ref t6_1, .ref t13_2, .int (nI 0), .int (nI 0), .null, .null, .null]))] ++ ([(t6_1, .inl (kA 0, 5, .inl (aN fun _ => 0)))] ++ [(t13_2, .inl (kA 0, 5, .inl (aN fun _ => 0)))]))) hx hb hts hinX4 tyX4 tyX4_ok nmX4 hown hK hP hD hS 0 rfl rfl 2 rfl ⟨rfl, rfl, rfl, rfl⟩ f15 hin rfl rfl rfl rfl dX4_init_15 (fun H locs hP hD hS => ?_)
  refine lv_aload_n hx hb dX4_init_18 rfl (lv_at hl 0 rfl) ?_
  refine lv_bipush (v := (nI 20)) hx hb dX4_init_19 (by decide) ?_
  refine n_newa (atype := .int) (ty := .int) (N' := 20) (f := (aN fun _ => 0)) hx hb arint rfl hK hP hD hS hA 0 rfl (fun _ _ h => h) (na_N _) (nI_pos (Nat.le_of_ble_eq_true rfl)) (nI_clamp (Nat.le_of_ble_eq_true rfl)) (Nat.le_of_ble_eq_true rfl) (Nat.le_of_ble_eq_true rfl) (Nat.le_of_ble_eq_true rfl) dX4_init_21 (fun t21_3 H hP hD hS => ?_)
  have hP : va_P D vwCl ([(b, .inr (4, [.int (nI 0), .ref t6_1, .ref t13_2, .int (nI 0), .int (nI 0), .null, .null, .null]))] ++ ([(t6_1, .inl (kA 0, 5, .inl (aN fun _ => 0)))] ++ ([(t13_2, .inl (kA 0, 5, .inl (aN fun _ => 0)))] ++ [(t21_3, .inl (kA 0, 20, .inl (aN fun _ => 0)))]))) H := hP
  have hD : va_D A ([(b, .inr (4, [.int (nI 0), .ref t6_1, .ref t13_2, .int (nI 0), .int (nI 0), .null, .null, .null]))] ++ ([(t6_1, .inl (kA 0, 5, .inl (aN fun _ => 0)))] ++ ([(t13_2, .inl (kA 0, 5, .inl (aN fun _ => 0)))] ++ [(t21_3, .inl (kA 0, 20, .inl (aN fun _ => 0)))]))) := hD
  refine n_putF (ci := 4) (v := .ref t21_3) (C := RX4) (T := TX4) (N := 8) (ws' := ([(b, .inr (4, [.int (nI 0), .ref t6_1, .ref t13_2, .int (nI 0), .int (nI 0), .ref t21_3, .null, .null]))] ++ ([(t6_1, .inl (kA 0, 5, .inl (aN fun _ => 0)))] ++ ([(t13_2, .inl (kA 0, 5, .inl (aN fun _ => 0)))] ++ [(t21_3, .inl (kA 0, 20, .inl (aN fun _ => 0)))])))) hx hb hts hinX4 tyX4 tyX4_ok nmX4 hown hK hP hD hS 0 rfl rfl 5 rfl ⟨rfl, rfl, rfl, rfl⟩ f18 hin rfl rfl rfl rfl dX4_init_23 (fun H locs hP hD hS => ?_)
  refine lv_aload_n hx hb dX4_init_26 rfl (lv_at hl 0 rfl) ?_
  refine lv_bipush (v := (nI 20)) hx hb dX4_init_27 (by decide) ?_
  refine n_newa (atype := .int) (ty := .int) (N' := 20) (f := (aN fun _ => 0)) hx hb arint rfl hK hP hD hS hA 0 rfl (fun _ _ h => h) (na_N _) (nI_pos (Nat.le_of_ble_eq_true rfl)) (nI_clamp (Nat.le_of_ble_eq_true rfl)) (Nat.le_of_ble_eq_true rfl) (Nat.le_of_ble_eq_true rfl) (Nat.le_of_ble_eq_true rfl) dX4_init_29 (fun t29_4 H hP hD hS => ?_)
  have hP : va_P D vwCl ([(b, .inr (4, [.int (nI 0), .ref t6_1, .ref t13_2, .int (nI 0), .int (nI 0), .ref t21_3, .null, .null]))] ++ ([(t6_1, .inl (kA 0, 5, .inl (aN fun _ => 0)))] ++ ([(t13_2, .inl (kA 0, 5, .inl (aN fun _ => 0)))] ++ ([(t21_3, .inl (kA 0, 20, .inl (aN fun _ => 0)))] ++ [(t29_4, .inl (kA 0, 20, .inl (aN fun _ => 0)))])))) H := hP
  have hD : va_D A ([(b, .inr (4, [.int (nI 0), .ref t6_1, .ref t13_2, .int (nI 0), .int (nI 0), .ref t21_3, .null, .null]))] ++ ([(t6_1, .inl (kA 0, 5, .inl (aN fun _ => 0)))] ++ ([(t13_2, .inl (kA 0, 5, .inl (aN fun _ => 0)))] ++ ([(t21_3, .inl (kA 0, 20, .inl (aN fun _ => 0)))] ++ [(t29_4, .inl (kA 0, 20, .inl (aN fun _ => 0)))])))) := hD
  refine n_putF (ci := 4) (v := .ref t29_4) (C := RX4) (T := TX4) (N := 8) (ws' := ([(b, .inr (4, [.int (nI 0), .ref t6_1, .ref t13_2, .int (nI 0), .int (nI 0), .ref t21_3, .ref t29_4, .null]))] ++ ([(t6_1, .inl (kA 0, 5, .inl (aN fun _ => 0)))] ++ ([(t13_2, .inl (kA 0, 5, .inl (aN fun _ => 0)))] ++ ([(t21_3, .inl (kA 0, 20, .inl (aN fun _ => 0)))] ++ [(t29_4, .inl (kA 0, 20, .inl (aN fun _ => 0)))]))))) hx hb hts hinX4 tyX4 tyX4_ok nmX4 hown hK hP hD hS 0 rfl rfl 6 rfl ⟨rfl, rfl, rfl, rfl⟩ f21 hin rfl rfl rfl rfl dX4_init_31 (fun H locs hP hD hS => ?_)
  refine lv_aload_n hx hb dX4_init_34 rfl (lv_at hl 0 rfl) ?_
  refine lv_bipush (v := (nI 20)) hx hb dX4_init_35 (by decide) ?_
  refine n_newa (atype := .int) (ty := .int) (N' := 20) (f := (aN fun _ => 0)) hx hb arint rfl hK hP hD hS hA 0 rfl (fun _ _ h => h) (na_N _) (nI_pos (Nat.le_of_ble_eq_true rfl)) (nI_clamp (Nat.le_of_ble_eq_true rfl)) (Nat.le_of_ble_eq_true rfl) (Nat.le_of_ble_eq_true rfl) (Nat.le_of_ble_eq_true rfl) dX4_init_37 (fun t37_5 H hP hD hS => ?_)
  have hP : va_P D vwCl ([(b, .inr (4, [.int (nI 0), .ref t6_1, .ref t13_2, .int (nI 0), .int (nI 0), .ref t21_3, .ref t29_4, .null]))] ++ ([(t6_1, .inl (kA 0, 5, .inl (aN fun _ => 0)))] ++ ([(t13_2, .inl (kA 0, 5, .inl (aN fun _ => 0)))] ++ ([(t21_3, .inl (kA 0, 20, .inl (aN fun _ => 0)))] ++ ([(t29_4, .inl (kA 0, 20, .inl (aN fun _ => 0)))] ++ [(t37_5, .inl (kA 0, 20, .inl (aN fun _ => 0)))]))))) H := hP
  have hD : va_D A ([(b, .inr (4, [.int (nI 0), .ref t6_1, .ref t13_2, .int (nI 0), .int (nI 0), .ref t21_3, .ref t29_4, .null]))] ++ ([(t6_1, .inl (kA 0, 5, .inl (aN fun _ => 0)))] ++ ([(t13_2, .inl (kA 0, 5, .inl (aN fun _ => 0)))] ++ ([(t21_3, .inl (kA 0, 20, .inl (aN fun _ => 0)))] ++ ([(t29_4, .inl (kA 0, 20, .inl (aN fun _ => 0)))] ++ [(t37_5, .inl (kA 0, 20, .inl (aN fun _ => 0)))]))))) := hD
  refine n_putF (ci := 4) (v := .ref t37_5) (C := RX4) (T := TX4) (N := 8) (ws' := ([(b, .inr (4, [.int (nI 0), .ref t6_1, .ref t13_2, .int (nI 0), .int (nI 0), .ref t21_3, .ref t29_4, .ref t37_5]))] ++ ([(t6_1, .inl (kA 0, 5, .inl (aN fun _ => 0)))] ++ ([(t13_2, .inl (kA 0, 5, .inl (aN fun _ => 0)))] ++ ([(t21_3, .inl (kA 0, 20, .inl (aN fun _ => 0)))] ++ ([(t29_4, .inl (kA 0, 20, .inl (aN fun _ => 0)))] ++ [(t37_5, .inl (kA 0, 20, .inl (aN fun _ => 0)))])))))) hx hb hts hinX4 tyX4 tyX4_ok nmX4 hown hK hP hD hS 0 rfl rfl 7 rfl ⟨rfl, rfl, rfl, rfl⟩ f24 hin rfl rfl rfl rfl dX4_init_39 (fun H locs hP hD hS => ?_)
  have hP : va_P D vwCl (wT kA (conF b (lsF [t6_1, t13_2, t21_3, t29_4, t37_5])) 0 (fun _ => 0) (fun _ => 0) 0 0 (fun _ => 0) (fun _ => 0) (fun _ => 0)) H := hP
  have hD : va_D A (wT kA (conF b (lsF [t6_1, t13_2, t21_3, t29_4, t37_5])) 0 (fun _ => 0) (fun _ => 0) 0 0 (fun _ => 0) (fun _ => 0) (fun _ => 0)) := hD
  exact n_wretv hx hb hr hlocks (post := fun (u : (Nat → Nat)) => True) (w1 := fun u => (wT kA (conF b u) 0 (fun _ => 0) (fun _ => 0) 0 0 (fun _ => 0) (fun _ => 0) (fun _ => 0))) (lsF [t6_1, t13_2, t21_3, t29_4, t37_5]) trivial hP hD hK hS hAe dX4_init_42

set_option maxHeartbeats 4000000 in
set_option maxRecDepth 100000 in
theorem c_X0_init (lQ : Launch) (D : va_G) (kA : Nat → ClassId) (b : Nat) (tq : Nat → Nat) (sz : Nat)  : Met lQ yX0_init wsX0_init (rmC 1 12 8 6169) (wr_Pc D vwCl [.ref b, .ref (tq 0)] (wN0 kA b) (tyK kA) sz) (va_Qv (S := (Nat → Nat)) (fun (u : (Nat → Nat)) => True) (wr_B D vwCl (wN0 kA b) (tyK kA) sz (fun u => (wC kA (conF b u) tq 0 (fun _ => 0) (fun _ => 0) (fun _ => some 0) (fun _ => some 0) (fun _ => 0) (fun _ => 0) (fun _ => false) (fun _ => 0) 0 0 0))) (va_A (wN0 kA b) sz)) 8 6169 (va_A (wN0 kA b) sz) := by
  refine Met.ofW (cc := cX0_init) (maxL := 2) (ret := none) (by decide) rfl ?_
  intro pQ eQ s mQ args below meth cQ s₁ B hml hv
  obtain ⟨rfl, hsz, hP, hK, hD0⟩ := hv
  have hx := B.exec
  have hb := B.bytes
  have hr := B.returns
  have hts := atoms_spec (ws := wsX0_init) B.pre
  have hown : s.vm.findClass RX0 = some mQ.cls := findClass_of_methodNamed B.named
  have hlocks : meth.locks = false := B.notSynchronized
  have hin : meth.name = "<init>" := (name_of_methodNamed B.named B.method).1
  have hS0 : CallFix pQ mQ cQ cX0_init 2 s ([.ref b, .ref (tq 0)] : List Value).toArray wsX0_init RX0 := ⟨hx, hb, hml, hown, hts⟩
  subst hsz
  have hD := hD0.self (sz := s.heap.size)
  generalize hAe : va_A (wN0 kA b) s.heap.size = A at hD ⊢
  have hA : ∀ q : Nat, s.heap.size ≤ q → A q := fun q h => by rw [← hAe]; exact Or.inr h
  have hS : va_S A s.heap s.heap [] := va_S.rf
  have m3 : (Cond.methodLink RX0 3 objectInit).before ([.ref b, .ref (tq 0)] : List Value).toArray s = true := hts _ (by decide +kernel)
  have moi : (Cond.instanceMethod objectInit).before ([.ref b, .ref (tq 0)] : List Value).toArray s = true := hts _ (by decide +kernel)
  have moc : (Cond.code objectInit ⟨#[0xb1]⟩ 1 none).before ([.ref b, .ref (tq 0)] : List Value).toArray s = true := hts _ (by decide +kernel)
  have arint : (Cond.arrayClass .int).before ([.ref b, .ref (tq 0)] : List Value).toArray s = true := hts _ (by decide +kernel)
  have f9 : (Cond.fieldLink RX0 9 "AskedRules$Cases" "stride" "[I").before ([.ref b, .ref (tq 0)] : List Value).toArray s = true := hts _ (by decide +kernel)
  have hinX0 : ∀ w ∈ wsX00, w ∈ wsX0_init := by decide +kernel
  have f15 : (Cond.fieldLink RX0 15 "AskedRules$Cases" "bits" "[I").before ([.ref b, .ref (tq 0)] : List Value).toArray s = true := hts _ (by decide +kernel)
  have f18 : (Cond.fieldLink RX0 18 "AskedRules$Cases" "first" "[I").before ([.ref b, .ref (tq 0)] : List Value).toArray s = true := hts _ (by decide +kernel)
  have f21 : (Cond.fieldLink RX0 21 "AskedRules$Cases" "second" "[I").before ([.ref b, .ref (tq 0)] : List Value).toArray s = true := hts _ (by decide +kernel)
  have f24 : (Cond.fieldLink RX0 24 "AskedRules$Cases" "told" "[I").before ([.ref b, .ref (tq 0)] : List Value).toArray s = true := hts _ (by decide +kernel)
  have f27 : (Cond.fieldLink RX0 27 "AskedRules$Cases" "action" "[I").before ([.ref b, .ref (tq 0)] : List Value).toArray s = true := hts _ (by decide +kernel)
  have arboolean : (Cond.arrayClass .boolean).before ([.ref b, .ref (tq 0)] : List Value).toArray s = true := hts _ (by decide +kernel)
  have f30 : (Cond.fieldLink RX0 30 "AskedRules$Cases" "conflict" "[Z").before ([.ref b, .ref (tq 0)] : List Value).toArray s = true := hts _ (by decide +kernel)
  have f34 : (Cond.fieldLink RX0 34 "AskedRules$Cases" "owned" "[I").before ([.ref b, .ref (tq 0)] : List Value).toArray s = true := hts _ (by decide +kernel)
  have f37 : (Cond.fieldLink RX0 37 "AskedRules$Cases" "table" "LAskedRules$Table;").before ([.ref b, .ref (tq 0)] : List Value).toArray s = true := hts _ (by decide +kernel)
  have hl := lv_entry ([.ref b, .ref (tq 0)]) (n := 2) (Nat.le_of_ble_eq_true rfl)
  rw [lg_entry_eq]
  generalize (lg_sl ([.ref b, .ref (tq 0)]) ++ List.replicate (2 - (lg_sl ([.ref b, .ref (tq 0)])).length) Slot.unset).toArray = ls at hl ⊢
  have hl : lv_has ls 2 [(0, .ref b), (1, .ref (tq 0))] := hl
  have hP : va_P D vwCl (wN0 kA b) s.heap := hP
  have hD : va_D A (wN0 kA b) := hD
  refine lv_aload_n hx hb dX0_init_0 rfl (lv_at hl 0 rfl) ?_
  refine W.objInit hx hb hown m3 moi moc rfl (by rw [hml]; exact hl.1) rfl dX0_init_1 (Nat.le_of_ble_eq_true rfl) (Nat.le_of_ble_eq_true rfl) ?_
  refine W.eq (g2 := F0 mQ 4 ls []) rfl ?_
  refine lv_aload_n hx hb dX0_init_4 rfl (lv_at hl 0 rfl) ?_
  refine lv_iconst (v := (nI 5)) hx hb dX0_init_5 (by decide) ?_
  refine n_newa (atype := .int) (ty := .int) (N' := 5) (f := (aN fun _ => 0)) hx hb arint rfl hK hP hD hS hA 0 rfl (fun _ _ h => h) (na_N _) (nI_pos (Nat.le_of_ble_eq_true rfl)) (nI_clamp (Nat.le_of_ble_eq_true rfl)) (Nat.le_of_ble_eq_true rfl) (Nat.le_of_ble_eq_true rfl) (Nat.le_of_ble_eq_true rfl) dX0_init_6 (fun t6_1 H hP hD hS => ?_)
  have hP : va_P D vwCl ((wN0 kA b) ++ [(t6_1, .inl (kA 0, 5, .inl (aN fun _ => 0)))]) H := hP
  have hD : va_D A ((wN0 kA b) ++ [(t6_1, .inl (kA 0, 5, .inl (aN fun _ => 0)))]) := hD
  refine n_putF (ci := 0) (v := .ref t6_1) (C := RX0) (T := TX0) (N := 13) (ws' := ([(b, .inr (0, [.null, .int (nI 0), .ref t6_1, .null, .null, .null, .null, .null, .null, .null, .int (nI 0), .int (nI 0), .int (nI 0)]))] ++ [(t6_1, .inl (kA 0, 5, .inl (aN fun _ => 0)))])) hx hb hts hinX0 tyX0 tyX0_ok nmX0 hown hK hP hD hS 0 rfl rfl 2 rfl ⟨rfl, rfl, rfl, rfl⟩ f9 hin rfl rfl rfl rfl dX0_init_8 (fun H locs hP hD hS => ?_)
  refine lv_aload_n hx hb dX0_init_11 rfl (lv_at hl 0 rfl) ?_
  refine lv_sipush (v := (nI 1024)) hx hb dX0_init_12 (by decide) ?_
  refine n_newa (atype := .int) (ty := .int) (N' := 1024) (f := (aN fun _ => 0)) hx hb arint rfl hK hP hD hS hA 0 rfl (fun _ _ h => h) (na_N _) (nI_pos (Nat.le_of_ble_eq_true rfl)) (nI_clamp (Nat.le_of_ble_eq_true rfl)) (Nat.le_of_ble_eq_true rfl) (Nat.le_of_ble_eq_true rfl) (Nat.le_of_ble_eq_true rfl) dX0_init_15 (fun t15_2 H hP hD hS => ?_)
  have hP : va_P D vwCl ([(b, .inr (0, [.null, .int (nI 0), .ref t6_1, .null, .null, .null, .null, .null, .null, .null, .int (nI 0), .int (nI 0), .int (nI 0)]))] ++ ([(t6_1, .inl (kA 0, 5, .inl (aN fun _ => 0)))] ++ [(t15_2, .inl (kA 0, 1024, .inl (aN fun _ => 0)))])) H := hP
  have hD : va_D A ([(b, .inr (0, [.null, .int (nI 0), .ref t6_1, .null, .null, .null, .null, .null, .null, .null, .int (nI 0), .int (nI 0), .int (nI 0)]))] ++ ([(t6_1, .inl (kA 0, 5, .inl (aN fun _ => 0)))] ++ [(t15_2, .inl (kA 0, 1024, .inl (aN fun _ => 0)))])) := hD
  refine n_putF (ci := 0) (v := .ref t15_2) (C := RX0) (T := TX0) (N := 13) (ws' := ([(b, .inr (0, [.null, .int (nI 0), .ref t6_1, .ref t15_2, .null, .null, .null, .null, .null, .null, .int (nI 0), .int (nI 0), .int (nI 0)]))] ++ ([(t6_1, .inl (kA 0, 5, .inl (aN fun _ => 0)))] ++ [(t15_2, .inl (kA 0, 1024, .inl (aN fun _ => 0)))]))) hx hb hts hinX0 tyX0 tyX0_ok nmX0 hown hK hP hD hS 0 rfl rfl 3 rfl ⟨rfl, rfl, rfl, rfl⟩ f15 hin rfl rfl rfl rfl dX0_init_17 (fun H locs hP hD hS => ?_)
  refine lv_aload_n hx hb dX0_init_20 rfl (lv_at hl 0 rfl) ?_
  refine lv_sipush (v := (nI 1024)) hx hb dX0_init_21 (by decide) ?_
  refine n_newa (atype := .int) (ty := .int) (N' := 1024) (f := (aO fun _ => some 0)) hx hb arint rfl hK hP hD hS hA 0 rfl (fun _ _ h => h) (na_O _) (nI_pos (Nat.le_of_ble_eq_true rfl)) (nI_clamp (Nat.le_of_ble_eq_true rfl)) (Nat.le_of_ble_eq_true rfl) (Nat.le_of_ble_eq_true rfl) (Nat.le_of_ble_eq_true rfl) dX0_init_24 (fun t24_3 H hP hD hS => ?_)
  have hP : va_P D vwCl ([(b, .inr (0, [.null, .int (nI 0), .ref t6_1, .ref t15_2, .null, .null, .null, .null, .null, .null, .int (nI 0), .int (nI 0), .int (nI 0)]))] ++ ([(t6_1, .inl (kA 0, 5, .inl (aN fun _ => 0)))] ++ ([(t15_2, .inl (kA 0, 1024, .inl (aN fun _ => 0)))] ++ [(t24_3, .inl (kA 0, 1024, .inl (aO fun _ => some 0)))]))) H := hP
  have hD : va_D A ([(b, .inr (0, [.null, .int (nI 0), .ref t6_1, .ref t15_2, .null, .null, .null, .null, .null, .null, .int (nI 0), .int (nI 0), .int (nI 0)]))] ++ ([(t6_1, .inl (kA 0, 5, .inl (aN fun _ => 0)))] ++ ([(t15_2, .inl (kA 0, 1024, .inl (aN fun _ => 0)))] ++ [(t24_3, .inl (kA 0, 1024, .inl (aO fun _ => some 0)))]))) := hD
  refine n_putF (ci := 0) (v := .ref t24_3) (C := RX0) (T := TX0) (N := 13) (ws' := ([(b, .inr (0, [.null, .int (nI 0), .ref t6_1, .ref t15_2, .ref t24_3, .null, .null, .null, .null, .null, .int (nI 0), .int (nI 0), .int (nI 0)]))] ++ ([(t6_1, .inl (kA 0, 5, .inl (aN fun _ => 0)))] ++ ([(t15_2, .inl (kA 0, 1024, .inl (aN fun _ => 0)))] ++ [(t24_3, .inl (kA 0, 1024, .inl (aO fun _ => some 0)))])))) hx hb hts hinX0 tyX0 tyX0_ok nmX0 hown hK hP hD hS 0 rfl rfl 4 rfl ⟨rfl, rfl, rfl, rfl⟩ f18 hin rfl rfl rfl rfl dX0_init_26 (fun H locs hP hD hS => ?_)
  refine lv_aload_n hx hb dX0_init_29 rfl (lv_at hl 0 rfl) ?_
  refine lv_sipush (v := (nI 1024)) hx hb dX0_init_30 (by decide) ?_
  refine n_newa (atype := .int) (ty := .int) (N' := 1024) (f := (aO fun _ => some 0)) hx hb arint rfl hK hP hD hS hA 0 rfl (fun _ _ h => h) (na_O _) (nI_pos (Nat.le_of_ble_eq_true rfl)) (nI_clamp (Nat.le_of_ble_eq_true rfl)) (Nat.le_of_ble_eq_true rfl) (Nat.le_of_ble_eq_true rfl) (Nat.le_of_ble_eq_true rfl) dX0_init_33 (fun t33_4 H hP hD hS => ?_)
  have hP : va_P D vwCl ([(b, .inr (0, [.null, .int (nI 0), .ref t6_1, .ref t15_2, .ref t24_3, .null, .null, .null, .null, .null, .int (nI 0), .int (nI 0), .int (nI 0)]))] ++ ([(t6_1, .inl (kA 0, 5, .inl (aN fun _ => 0)))] ++ ([(t15_2, .inl (kA 0, 1024, .inl (aN fun _ => 0)))] ++ ([(t24_3, .inl (kA 0, 1024, .inl (aO fun _ => some 0)))] ++ [(t33_4, .inl (kA 0, 1024, .inl (aO fun _ => some 0)))])))) H := hP
  have hD : va_D A ([(b, .inr (0, [.null, .int (nI 0), .ref t6_1, .ref t15_2, .ref t24_3, .null, .null, .null, .null, .null, .int (nI 0), .int (nI 0), .int (nI 0)]))] ++ ([(t6_1, .inl (kA 0, 5, .inl (aN fun _ => 0)))] ++ ([(t15_2, .inl (kA 0, 1024, .inl (aN fun _ => 0)))] ++ ([(t24_3, .inl (kA 0, 1024, .inl (aO fun _ => some 0)))] ++ [(t33_4, .inl (kA 0, 1024, .inl (aO fun _ => some 0)))])))) := hD
  refine n_putF (ci := 0) (v := .ref t33_4) (C := RX0) (T := TX0) (N := 13) (ws' := ([(b, .inr (0, [.null, .int (nI 0), .ref t6_1, .ref t15_2, .ref t24_3, .ref t33_4, .null, .null, .null, .null, .int (nI 0), .int (nI 0), .int (nI 0)]))] ++ ([(t6_1, .inl (kA 0, 5, .inl (aN fun _ => 0)))] ++ ([(t15_2, .inl (kA 0, 1024, .inl (aN fun _ => 0)))] ++ ([(t24_3, .inl (kA 0, 1024, .inl (aO fun _ => some 0)))] ++ [(t33_4, .inl (kA 0, 1024, .inl (aO fun _ => some 0)))]))))) hx hb hts hinX0 tyX0 tyX0_ok nmX0 hown hK hP hD hS 0 rfl rfl 5 rfl ⟨rfl, rfl, rfl, rfl⟩ f21 hin rfl rfl rfl rfl dX0_init_35 (fun H locs hP hD hS => ?_)
  refine lv_aload_n hx hb dX0_init_38 rfl (lv_at hl 0 rfl) ?_
  refine lv_sipush (v := (nI 1024)) hx hb dX0_init_39 (by decide) ?_
  refine n_newa (atype := .int) (ty := .int) (N' := 1024) (f := (aN fun _ => 0)) hx hb arint rfl hK hP hD hS hA 0 rfl (fun _ _ h => h) (na_N _) (nI_pos (Nat.le_of_ble_eq_true rfl)) (nI_clamp (Nat.le_of_ble_eq_true rfl)) (Nat.le_of_ble_eq_true rfl) (Nat.le_of_ble_eq_true rfl) (Nat.le_of_ble_eq_true rfl) dX0_init_42 (fun t42_5 H hP hD hS => ?_)
  have hP : va_P D vwCl ([(b, .inr (0, [.null, .int (nI 0), .ref t6_1, .ref t15_2, .ref t24_3, .ref t33_4, .null, .null, .null, .null, .int (nI 0), .int (nI 0), .int (nI 0)]))] ++ ([(t6_1, .inl (kA 0, 5, .inl (aN fun _ => 0)))] ++ ([(t15_2, .inl (kA 0, 1024, .inl (aN fun _ => 0)))] ++ ([(t24_3, .inl (kA 0, 1024, .inl (aO fun _ => some 0)))] ++ ([(t33_4, .inl (kA 0, 1024, .inl (aO fun _ => some 0)))] ++ [(t42_5, .inl (kA 0, 1024, .inl (aN fun _ => 0)))]))))) H := hP
  have hD : va_D A ([(b, .inr (0, [.null, .int (nI 0), .ref t6_1, .ref t15_2, .ref t24_3, .ref t33_4, .null, .null, .null, .null, .int (nI 0), .int (nI 0), .int (nI 0)]))] ++ ([(t6_1, .inl (kA 0, 5, .inl (aN fun _ => 0)))] ++ ([(t15_2, .inl (kA 0, 1024, .inl (aN fun _ => 0)))] ++ ([(t24_3, .inl (kA 0, 1024, .inl (aO fun _ => some 0)))] ++ ([(t33_4, .inl (kA 0, 1024, .inl (aO fun _ => some 0)))] ++ [(t42_5, .inl (kA 0, 1024, .inl (aN fun _ => 0)))]))))) := hD
  refine n_putF (ci := 0) (v := .ref t42_5) (C := RX0) (T := TX0) (N := 13) (ws' := ([(b, .inr (0, [.null, .int (nI 0), .ref t6_1, .ref t15_2, .ref t24_3, .ref t33_4, .ref t42_5, .null, .null, .null, .int (nI 0), .int (nI 0), .int (nI 0)]))] ++ ([(t6_1, .inl (kA 0, 5, .inl (aN fun _ => 0)))] ++ ([(t15_2, .inl (kA 0, 1024, .inl (aN fun _ => 0)))] ++ ([(t24_3, .inl (kA 0, 1024, .inl (aO fun _ => some 0)))] ++ ([(t33_4, .inl (kA 0, 1024, .inl (aO fun _ => some 0)))] ++ [(t42_5, .inl (kA 0, 1024, .inl (aN fun _ => 0)))])))))) hx hb hts hinX0 tyX0 tyX0_ok nmX0 hown hK hP hD hS 0 rfl rfl 6 rfl ⟨rfl, rfl, rfl, rfl⟩ f24 hin rfl rfl rfl rfl dX0_init_44 (fun H locs hP hD hS => ?_)
  refine lv_aload_n hx hb dX0_init_47 rfl (lv_at hl 0 rfl) ?_
  refine lv_sipush (v := (nI 1024)) hx hb dX0_init_48 (by decide) ?_
  refine n_newa (atype := .int) (ty := .int) (N' := 1024) (f := (aN fun _ => 0)) hx hb arint rfl hK hP hD hS hA 0 rfl (fun _ _ h => h) (na_N _) (nI_pos (Nat.le_of_ble_eq_true rfl)) (nI_clamp (Nat.le_of_ble_eq_true rfl)) (Nat.le_of_ble_eq_true rfl) (Nat.le_of_ble_eq_true rfl) (Nat.le_of_ble_eq_true rfl) dX0_init_51 (fun t51_6 H hP hD hS => ?_)
  have hP : va_P D vwCl ([(b, .inr (0, [.null, .int (nI 0), .ref t6_1, .ref t15_2, .ref t24_3, .ref t33_4, .ref t42_5, .null, .null, .null, .int (nI 0), .int (nI 0), .int (nI 0)]))] ++ ([(t6_1, .inl (kA 0, 5, .inl (aN fun _ => 0)))] ++ ([(t15_2, .inl (kA 0, 1024, .inl (aN fun _ => 0)))] ++ ([(t24_3, .inl (kA 0, 1024, .inl (aO fun _ => some 0)))] ++ ([(t33_4, .inl (kA 0, 1024, .inl (aO fun _ => some 0)))] ++ ([(t42_5, .inl (kA 0, 1024, .inl (aN fun _ => 0)))] ++ [(t51_6, .inl (kA 0, 1024, .inl (aN fun _ => 0)))])))))) H := hP
  have hD : va_D A ([(b, .inr (0, [.null, .int (nI 0), .ref t6_1, .ref t15_2, .ref t24_3, .ref t33_4, .ref t42_5, .null, .null, .null, .int (nI 0), .int (nI 0), .int (nI 0)]))] ++ ([(t6_1, .inl (kA 0, 5, .inl (aN fun _ => 0)))] ++ ([(t15_2, .inl (kA 0, 1024, .inl (aN fun _ => 0)))] ++ ([(t24_3, .inl (kA 0, 1024, .inl (aO fun _ => some 0)))] ++ ([(t33_4, .inl (kA 0, 1024, .inl (aO fun _ => some 0)))] ++ ([(t42_5, .inl (kA 0, 1024, .inl (aN fun _ => 0)))] ++ [(t51_6, .inl (kA 0, 1024, .inl (aN fun _ => 0)))])))))) := hD
  refine n_putF (ci := 0) (v := .ref t51_6) (C := RX0) (T := TX0) (N := 13) (ws' := ([(b, .inr (0, [.null, .int (nI 0), .ref t6_1, .ref t15_2, .ref t24_3, .ref t33_4, .ref t42_5, .ref t51_6, .null, .null, .int (nI 0), .int (nI 0), .int (nI 0)]))] ++ ([(t6_1, .inl (kA 0, 5, .inl (aN fun _ => 0)))] ++ ([(t15_2, .inl (kA 0, 1024, .inl (aN fun _ => 0)))] ++ ([(t24_3, .inl (kA 0, 1024, .inl (aO fun _ => some 0)))] ++ ([(t33_4, .inl (kA 0, 1024, .inl (aO fun _ => some 0)))] ++ ([(t42_5, .inl (kA 0, 1024, .inl (aN fun _ => 0)))] ++ [(t51_6, .inl (kA 0, 1024, .inl (aN fun _ => 0)))]))))))) hx hb hts hinX0 tyX0 tyX0_ok nmX0 hown hK hP hD hS 0 rfl rfl 7 rfl ⟨rfl, rfl, rfl, rfl⟩ f27 hin rfl rfl rfl rfl dX0_init_53 (fun H locs hP hD hS => ?_)
  refine lv_aload_n hx hb dX0_init_56 rfl (lv_at hl 0 rfl) ?_
  refine lv_sipush (v := (nI 1024)) hx hb dX0_init_57 (by decide) ?_
  refine n_newa (atype := .boolean) (ty := .boolean) (N' := 1024) (f := (aB fun _ => false)) hx hb arboolean rfl hK hP hD hS hA 2 rfl (fun _ _ h => h) (na_B _) (nI_pos (Nat.le_of_ble_eq_true rfl)) (nI_clamp (Nat.le_of_ble_eq_true rfl)) (Nat.le_of_ble_eq_true rfl) (Nat.le_of_ble_eq_true rfl) (Nat.le_of_ble_eq_true rfl) dX0_init_60 (fun t60_7 H hP hD hS => ?_)
  have hP : va_P D vwCl ([(b, .inr (0, [.null, .int (nI 0), .ref t6_1, .ref t15_2, .ref t24_3, .ref t33_4, .ref t42_5, .ref t51_6, .null, .null, .int (nI 0), .int (nI 0), .int (nI 0)]))] ++ ([(t6_1, .inl (kA 0, 5, .inl (aN fun _ => 0)))] ++ ([(t15_2, .inl (kA 0, 1024, .inl (aN fun _ => 0)))] ++ ([(t24_3, .inl (kA 0, 1024, .inl (aO fun _ => some 0)))] ++ ([(t33_4, .inl (kA 0, 1024, .inl (aO fun _ => some 0)))] ++ ([(t42_5, .inl (kA 0, 1024, .inl (aN fun _ => 0)))] ++ ([(t51_6, .inl (kA 0, 1024, .inl (aN fun _ => 0)))] ++ [(t60_7, .inl (kA 2, 1024, .inl (aB fun _ => false)))]))))))) H := hP
  have hD : va_D A ([(b, .inr (0, [.null, .int (nI 0), .ref t6_1, .ref t15_2, .ref t24_3, .ref t33_4, .ref t42_5, .ref t51_6, .null, .null, .int (nI 0), .int (nI 0), .int (nI 0)]))] ++ ([(t6_1, .inl (kA 0, 5, .inl (aN fun _ => 0)))] ++ ([(t15_2, .inl (kA 0, 1024, .inl (aN fun _ => 0)))] ++ ([(t24_3, .inl (kA 0, 1024, .inl (aO fun _ => some 0)))] ++ ([(t33_4, .inl (kA 0, 1024, .inl (aO fun _ => some 0)))] ++ ([(t42_5, .inl (kA 0, 1024, .inl (aN fun _ => 0)))] ++ ([(t51_6, .inl (kA 0, 1024, .inl (aN fun _ => 0)))] ++ [(t60_7, .inl (kA 2, 1024, .inl (aB fun _ => false)))]))))))) := hD
  refine n_putF (ci := 0) (v := .ref t60_7) (C := RX0) (T := TX0) (N := 13) (ws' := ([(b, .inr (0, [.null, .int (nI 0), .ref t6_1, .ref t15_2, .ref t24_3, .ref t33_4, .ref t42_5, .ref t51_6, .ref t60_7, .null, .int (nI 0), .int (nI 0), .int (nI 0)]))] ++ ([(t6_1, .inl (kA 0, 5, .inl (aN fun _ => 0)))] ++ ([(t15_2, .inl (kA 0, 1024, .inl (aN fun _ => 0)))] ++ ([(t24_3, .inl (kA 0, 1024, .inl (aO fun _ => some 0)))] ++ ([(t33_4, .inl (kA 0, 1024, .inl (aO fun _ => some 0)))] ++ ([(t42_5, .inl (kA 0, 1024, .inl (aN fun _ => 0)))] ++ ([(t51_6, .inl (kA 0, 1024, .inl (aN fun _ => 0)))] ++ [(t60_7, .inl (kA 2, 1024, .inl (aB fun _ => false)))])))))))) hx hb hts hinX0 tyX0 tyX0_ok nmX0 hown hK hP hD hS 0 rfl rfl 8 rfl ⟨rfl, rfl, rfl, rfl⟩ f30 hin rfl rfl rfl rfl dX0_init_62 (fun H locs hP hD hS => ?_)
  refine lv_aload_n hx hb dX0_init_65 rfl (lv_at hl 0 rfl) ?_
  refine lv_bipush (v := (nI 20)) hx hb dX0_init_66 (by decide) ?_
  refine n_newa (atype := .int) (ty := .int) (N' := 20) (f := (aN fun _ => 0)) hx hb arint rfl hK hP hD hS hA 0 rfl (fun _ _ h => h) (na_N _) (nI_pos (Nat.le_of_ble_eq_true rfl)) (nI_clamp (Nat.le_of_ble_eq_true rfl)) (Nat.le_of_ble_eq_true rfl) (Nat.le_of_ble_eq_true rfl) (Nat.le_of_ble_eq_true rfl) dX0_init_68 (fun t68_8 H hP hD hS => ?_)
  have hP : va_P D vwCl ([(b, .inr (0, [.null, .int (nI 0), .ref t6_1, .ref t15_2, .ref t24_3, .ref t33_4, .ref t42_5, .ref t51_6, .ref t60_7, .null, .int (nI 0), .int (nI 0), .int (nI 0)]))] ++ ([(t6_1, .inl (kA 0, 5, .inl (aN fun _ => 0)))] ++ ([(t15_2, .inl (kA 0, 1024, .inl (aN fun _ => 0)))] ++ ([(t24_3, .inl (kA 0, 1024, .inl (aO fun _ => some 0)))] ++ ([(t33_4, .inl (kA 0, 1024, .inl (aO fun _ => some 0)))] ++ ([(t42_5, .inl (kA 0, 1024, .inl (aN fun _ => 0)))] ++ ([(t51_6, .inl (kA 0, 1024, .inl (aN fun _ => 0)))] ++ ([(t60_7, .inl (kA 2, 1024, .inl (aB fun _ => false)))] ++ [(t68_8, .inl (kA 0, 20, .inl (aN fun _ => 0)))])))))))) H := hP
  have hD : va_D A ([(b, .inr (0, [.null, .int (nI 0), .ref t6_1, .ref t15_2, .ref t24_3, .ref t33_4, .ref t42_5, .ref t51_6, .ref t60_7, .null, .int (nI 0), .int (nI 0), .int (nI 0)]))] ++ ([(t6_1, .inl (kA 0, 5, .inl (aN fun _ => 0)))] ++ ([(t15_2, .inl (kA 0, 1024, .inl (aN fun _ => 0)))] ++ ([(t24_3, .inl (kA 0, 1024, .inl (aO fun _ => some 0)))] ++ ([(t33_4, .inl (kA 0, 1024, .inl (aO fun _ => some 0)))] ++ ([(t42_5, .inl (kA 0, 1024, .inl (aN fun _ => 0)))] ++ ([(t51_6, .inl (kA 0, 1024, .inl (aN fun _ => 0)))] ++ ([(t60_7, .inl (kA 2, 1024, .inl (aB fun _ => false)))] ++ [(t68_8, .inl (kA 0, 20, .inl (aN fun _ => 0)))])))))))) := hD
  refine n_putF (ci := 0) (v := .ref t68_8) (C := RX0) (T := TX0) (N := 13) (ws' := ([(b, .inr (0, [.null, .int (nI 0), .ref t6_1, .ref t15_2, .ref t24_3, .ref t33_4, .ref t42_5, .ref t51_6, .ref t60_7, .ref t68_8, .int (nI 0), .int (nI 0), .int (nI 0)]))] ++ ([(t6_1, .inl (kA 0, 5, .inl (aN fun _ => 0)))] ++ ([(t15_2, .inl (kA 0, 1024, .inl (aN fun _ => 0)))] ++ ([(t24_3, .inl (kA 0, 1024, .inl (aO fun _ => some 0)))] ++ ([(t33_4, .inl (kA 0, 1024, .inl (aO fun _ => some 0)))] ++ ([(t42_5, .inl (kA 0, 1024, .inl (aN fun _ => 0)))] ++ ([(t51_6, .inl (kA 0, 1024, .inl (aN fun _ => 0)))] ++ ([(t60_7, .inl (kA 2, 1024, .inl (aB fun _ => false)))] ++ [(t68_8, .inl (kA 0, 20, .inl (aN fun _ => 0)))]))))))))) hx hb hts hinX0 tyX0 tyX0_ok nmX0 hown hK hP hD hS 0 rfl rfl 9 rfl ⟨rfl, rfl, rfl, rfl⟩ f34 hin rfl rfl rfl rfl dX0_init_70 (fun H locs hP hD hS => ?_)
  refine lv_aload_n hx hb dX0_init_73 rfl (lv_at hl 0 rfl) ?_
  refine lv_aload_n hx hb dX0_init_74 rfl (lv_at hl 1 rfl) ?_
  refine n_putF (ci := 0) (v := .ref (tq 0)) (C := RX0) (T := TX0) (N := 13) (ws' := ([(b, .inr (0, [.ref (tq 0), .int (nI 0), .ref t6_1, .ref t15_2, .ref t24_3, .ref t33_4, .ref t42_5, .ref t51_6, .ref t60_7, .ref t68_8, .int (nI 0), .int (nI 0), .int (nI 0)]))] ++ ([(t6_1, .inl (kA 0, 5, .inl (aN fun _ => 0)))] ++ ([(t15_2, .inl (kA 0, 1024, .inl (aN fun _ => 0)))] ++ ([(t24_3, .inl (kA 0, 1024, .inl (aO fun _ => some 0)))] ++ ([(t33_4, .inl (kA 0, 1024, .inl (aO fun _ => some 0)))] ++ ([(t42_5, .inl (kA 0, 1024, .inl (aN fun _ => 0)))] ++ ([(t51_6, .inl (kA 0, 1024, .inl (aN fun _ => 0)))] ++ ([(t60_7, .inl (kA 2, 1024, .inl (aB fun _ => false)))] ++ [(t68_8, .inl (kA 0, 20, .inl (aN fun _ => 0)))]))))))))) hx hb hts hinX0 tyX0 tyX0_ok nmX0 hown hK hP hD hS 0 rfl rfl 0 rfl ⟨rfl, rfl, rfl, rfl⟩ f37 hin rfl rfl rfl rfl dX0_init_75 (fun H locs hP hD hS => ?_)
  have hP : va_P D vwCl (wC kA (conF b (lsF [t6_1, t15_2, t24_3, t33_4, t42_5, t51_6, t60_7, t68_8])) tq 0 (fun _ => 0) (fun _ => 0) (fun _ => some 0) (fun _ => some 0) (fun _ => 0) (fun _ => 0) (fun _ => false) (fun _ => 0) 0 0 0) H := hP
  have hD : va_D A (wC kA (conF b (lsF [t6_1, t15_2, t24_3, t33_4, t42_5, t51_6, t60_7, t68_8])) tq 0 (fun _ => 0) (fun _ => 0) (fun _ => some 0) (fun _ => some 0) (fun _ => 0) (fun _ => 0) (fun _ => false) (fun _ => 0) 0 0 0) := hD
  exact n_wretv hx hb hr hlocks (post := fun (u : (Nat → Nat)) => True) (w1 := fun u => (wC kA (conF b u) tq 0 (fun _ => 0) (fun _ => 0) (fun _ => some 0) (fun _ => some 0) (fun _ => 0) (fun _ => 0) (fun _ => false) (fun _ => 0) 0 0 0)) (lsF [t6_1, t15_2, t24_3, t33_4, t42_5, t51_6, t60_7, t68_8]) trivial hP hD hK hS hAe dX0_init_78

set_option maxHeartbeats 4000000 in
set_option maxRecDepth 100000 in
theorem c_X2_init (lQ : Launch) (D : va_G) (kA : Nat → ClassId) (b : Nat) (tq : Nat → Nat) (cq : Nat → Nat) (sz : Nat)  : Met lQ yX2_init wsX2_init (rmC 1 12 3 6255) (wr_Pc D vwCl [.ref b, .ref (tq 0), .ref (cq 0)] (wN2 kA b) (tyK kA) sz) (va_Qv (S := (Nat → Nat)) (fun (u : (Nat → Nat)) => True) (wr_B D vwCl (wN2 kA b) (tyK kA) sz (fun u => (wP kA (conF b u) tq cq (fun _ => 0) (fun _ => 0) (fun _ => 0)))) (va_A (wN2 kA b) sz)) 3 6255 (va_A (wN2 kA b) sz) := by
  refine Met.ofW (cc := cX2_init) (maxL := 3) (ret := none) (by decide) rfl ?_
  intro pQ eQ s mQ args below meth cQ s₁ B hml hv
  obtain ⟨rfl, hsz, hP, hK, hD0⟩ := hv
  have hx := B.exec
  have hb := B.bytes
  have hr := B.returns
  have hts := atoms_spec (ws := wsX2_init) B.pre
  have hown : s.vm.findClass RX2 = some mQ.cls := findClass_of_methodNamed B.named
  have hlocks : meth.locks = false := B.notSynchronized
  have hin : meth.name = "<init>" := (name_of_methodNamed B.named B.method).1
  have hS0 : CallFix pQ mQ cQ cX2_init 3 s ([.ref b, .ref (tq 0), .ref (cq 0)] : List Value).toArray wsX2_init RX2 := ⟨hx, hb, hml, hown, hts⟩
  subst hsz
  have hD := hD0.self (sz := s.heap.size)
  generalize hAe : va_A (wN2 kA b) s.heap.size = A at hD ⊢
  have hA : ∀ q : Nat, s.heap.size ≤ q → A q := fun q h => by rw [← hAe]; exact Or.inr h
  have hS : va_S A s.heap s.heap [] := va_S.rf
  have m3 : (Cond.methodLink RX2 3 objectInit).before ([.ref b, .ref (tq 0), .ref (cq 0)] : List Value).toArray s = true := hts _ (by decide +kernel)
  have moi : (Cond.instanceMethod objectInit).before ([.ref b, .ref (tq 0), .ref (cq 0)] : List Value).toArray s = true := hts _ (by decide +kernel)
  have moc : (Cond.code objectInit ⟨#[0xb1]⟩ 1 none).before ([.ref b, .ref (tq 0), .ref (cq 0)] : List Value).toArray s = true := hts _ (by decide +kernel)
  have arint : (Cond.arrayClass .int).before ([.ref b, .ref (tq 0), .ref (cq 0)] : List Value).toArray s = true := hts _ (by decide +kernel)
  have f11 : (Cond.fieldLink RX2 11 "AskedRules$Plans" "common" "[I").before ([.ref b, .ref (tq 0), .ref (cq 0)] : List Value).toArray s = true := hts _ (by decide +kernel)
  have hinX2 : ∀ w ∈ wsX20, w ∈ wsX2_init := by decide +kernel
  have f15 : (Cond.fieldLink RX2 15 "AskedRules$Plans" "worst" "[I").before ([.ref b, .ref (tq 0), .ref (cq 0)] : List Value).toArray s = true := hts _ (by decide +kernel)
  have f18 : (Cond.fieldLink RX2 18 "AskedRules$Plans" "digit" "[I").before ([.ref b, .ref (tq 0), .ref (cq 0)] : List Value).toArray s = true := hts _ (by decide +kernel)
  have f21 : (Cond.fieldLink RX2 21 "AskedRules$Plans" "table" "LAskedRules$Table;").before ([.ref b, .ref (tq 0), .ref (cq 0)] : List Value).toArray s = true := hts _ (by decide +kernel)
  have f25 : (Cond.fieldLink RX2 25 "AskedRules$Plans" "cases" "LAskedRules$Cases;").before ([.ref b, .ref (tq 0), .ref (cq 0)] : List Value).toArray s = true := hts _ (by decide +kernel)
  have hl := lv_entry ([.ref b, .ref (tq 0), .ref (cq 0)]) (n := 3) (Nat.le_of_ble_eq_true rfl)
  rw [lg_entry_eq]
  generalize (lg_sl ([.ref b, .ref (tq 0), .ref (cq 0)]) ++ List.replicate (3 - (lg_sl ([.ref b, .ref (tq 0), .ref (cq 0)])).length) Slot.unset).toArray = ls at hl ⊢
  have hl : lv_has ls 3 [(0, .ref b), (1, .ref (tq 0)), (2, .ref (cq 0))] := hl
  have hP : va_P D vwCl (wN2 kA b) s.heap := hP
  have hD : va_D A (wN2 kA b) := hD
  refine lv_aload_n hx hb dX2_init_0 rfl (lv_at hl 0 rfl) ?_
  refine W.objInit hx hb hown m3 moi moc rfl (by rw [hml]; exact hl.1) rfl dX2_init_1 (Nat.le_of_ble_eq_true rfl) (Nat.le_of_ble_eq_true rfl) ?_
  refine W.eq (g2 := F0 mQ 4 ls []) rfl ?_
  refine lv_aload_n hx hb dX2_init_4 rfl (lv_at hl 0 rfl) ?_
  refine lv_sipush (v := (nI 3125)) hx hb dX2_init_5 (by decide) ?_
  refine n_newa (atype := .int) (ty := .int) (N' := 3125) (f := (aN fun _ => 0)) hx hb arint rfl hK hP hD hS hA 0 rfl (fun _ _ h => h) (na_N _) (nI_pos (Nat.le_of_ble_eq_true rfl)) (nI_clamp (Nat.le_of_ble_eq_true rfl)) (Nat.le_of_ble_eq_true rfl) (Nat.le_of_ble_eq_true rfl) (Nat.le_of_ble_eq_true rfl) dX2_init_8 (fun t8_1 H hP hD hS => ?_)
  have hP : va_P D vwCl ((wN2 kA b) ++ [(t8_1, .inl (kA 0, 3125, .inl (aN fun _ => 0)))]) H := hP
  have hD : va_D A ((wN2 kA b) ++ [(t8_1, .inl (kA 0, 3125, .inl (aN fun _ => 0)))]) := hD
  refine n_putF (ci := 2) (v := .ref t8_1) (C := RX2) (T := TX2) (N := 5) (ws' := ([(b, .inr (2, [.null, .null, .ref t8_1, .null, .null]))] ++ [(t8_1, .inl (kA 0, 3125, .inl (aN fun _ => 0)))])) hx hb hts hinX2 tyX2 tyX2_ok nmX2 hown hK hP hD hS 0 rfl rfl 2 rfl ⟨rfl, rfl, rfl, rfl⟩ f11 hin rfl rfl rfl rfl dX2_init_10 (fun H locs hP hD hS => ?_)
  refine lv_aload_n hx hb dX2_init_13 rfl (lv_at hl 0 rfl) ?_
  refine lv_sipush (v := (nI 3125)) hx hb dX2_init_14 (by decide) ?_
  refine n_newa (atype := .int) (ty := .int) (N' := 3125) (f := (aN fun _ => 0)) hx hb arint rfl hK hP hD hS hA 0 rfl (fun _ _ h => h) (na_N _) (nI_pos (Nat.le_of_ble_eq_true rfl)) (nI_clamp (Nat.le_of_ble_eq_true rfl)) (Nat.le_of_ble_eq_true rfl) (Nat.le_of_ble_eq_true rfl) (Nat.le_of_ble_eq_true rfl) dX2_init_17 (fun t17_2 H hP hD hS => ?_)
  have hP : va_P D vwCl ([(b, .inr (2, [.null, .null, .ref t8_1, .null, .null]))] ++ ([(t8_1, .inl (kA 0, 3125, .inl (aN fun _ => 0)))] ++ [(t17_2, .inl (kA 0, 3125, .inl (aN fun _ => 0)))])) H := hP
  have hD : va_D A ([(b, .inr (2, [.null, .null, .ref t8_1, .null, .null]))] ++ ([(t8_1, .inl (kA 0, 3125, .inl (aN fun _ => 0)))] ++ [(t17_2, .inl (kA 0, 3125, .inl (aN fun _ => 0)))])) := hD
  refine n_putF (ci := 2) (v := .ref t17_2) (C := RX2) (T := TX2) (N := 5) (ws' := ([(b, .inr (2, [.null, .null, .ref t8_1, .ref t17_2, .null]))] ++ ([(t8_1, .inl (kA 0, 3125, .inl (aN fun _ => 0)))] ++ [(t17_2, .inl (kA 0, 3125, .inl (aN fun _ => 0)))]))) hx hb hts hinX2 tyX2 tyX2_ok nmX2 hown hK hP hD hS 0 rfl rfl 3 rfl ⟨rfl, rfl, rfl, rfl⟩ f15 hin rfl rfl rfl rfl dX2_init_19 (fun H locs hP hD hS => ?_)
  refine lv_aload_n hx hb dX2_init_22 rfl (lv_at hl 0 rfl) ?_
  refine lv_iconst (v := (nI 5)) hx hb dX2_init_23 (by decide) ?_
  refine n_newa (atype := .int) (ty := .int) (N' := 5) (f := (aN fun _ => 0)) hx hb arint rfl hK hP hD hS hA 0 rfl (fun _ _ h => h) (na_N _) (nI_pos (Nat.le_of_ble_eq_true rfl)) (nI_clamp (Nat.le_of_ble_eq_true rfl)) (Nat.le_of_ble_eq_true rfl) (Nat.le_of_ble_eq_true rfl) (Nat.le_of_ble_eq_true rfl) dX2_init_24 (fun t24_3 H hP hD hS => ?_)
  have hP : va_P D vwCl ([(b, .inr (2, [.null, .null, .ref t8_1, .ref t17_2, .null]))] ++ ([(t8_1, .inl (kA 0, 3125, .inl (aN fun _ => 0)))] ++ ([(t17_2, .inl (kA 0, 3125, .inl (aN fun _ => 0)))] ++ [(t24_3, .inl (kA 0, 5, .inl (aN fun _ => 0)))]))) H := hP
  have hD : va_D A ([(b, .inr (2, [.null, .null, .ref t8_1, .ref t17_2, .null]))] ++ ([(t8_1, .inl (kA 0, 3125, .inl (aN fun _ => 0)))] ++ ([(t17_2, .inl (kA 0, 3125, .inl (aN fun _ => 0)))] ++ [(t24_3, .inl (kA 0, 5, .inl (aN fun _ => 0)))]))) := hD
  refine n_putF (ci := 2) (v := .ref t24_3) (C := RX2) (T := TX2) (N := 5) (ws' := ([(b, .inr (2, [.null, .null, .ref t8_1, .ref t17_2, .ref t24_3]))] ++ ([(t8_1, .inl (kA 0, 3125, .inl (aN fun _ => 0)))] ++ ([(t17_2, .inl (kA 0, 3125, .inl (aN fun _ => 0)))] ++ [(t24_3, .inl (kA 0, 5, .inl (aN fun _ => 0)))])))) hx hb hts hinX2 tyX2 tyX2_ok nmX2 hown hK hP hD hS 0 rfl rfl 4 rfl ⟨rfl, rfl, rfl, rfl⟩ f18 hin rfl rfl rfl rfl dX2_init_26 (fun H locs hP hD hS => ?_)
  refine lv_aload_n hx hb dX2_init_29 rfl (lv_at hl 0 rfl) ?_
  refine lv_aload_n hx hb dX2_init_30 rfl (lv_at hl 1 rfl) ?_
  refine n_putF (ci := 2) (v := .ref (tq 0)) (C := RX2) (T := TX2) (N := 5) (ws' := ([(b, .inr (2, [.ref (tq 0), .null, .ref t8_1, .ref t17_2, .ref t24_3]))] ++ ([(t8_1, .inl (kA 0, 3125, .inl (aN fun _ => 0)))] ++ ([(t17_2, .inl (kA 0, 3125, .inl (aN fun _ => 0)))] ++ [(t24_3, .inl (kA 0, 5, .inl (aN fun _ => 0)))])))) hx hb hts hinX2 tyX2 tyX2_ok nmX2 hown hK hP hD hS 0 rfl rfl 0 rfl ⟨rfl, rfl, rfl, rfl⟩ f21 hin rfl rfl rfl rfl dX2_init_31 (fun H locs hP hD hS => ?_)
  refine lv_aload_n hx hb dX2_init_34 rfl (lv_at hl 0 rfl) ?_
  refine lv_aload_n hx hb dX2_init_35 rfl (lv_at hl 2 rfl) ?_
  refine n_putF (ci := 2) (v := .ref (cq 0)) (C := RX2) (T := TX2) (N := 5) (ws' := ([(b, .inr (2, [.ref (tq 0), .ref (cq 0), .ref t8_1, .ref t17_2, .ref t24_3]))] ++ ([(t8_1, .inl (kA 0, 3125, .inl (aN fun _ => 0)))] ++ ([(t17_2, .inl (kA 0, 3125, .inl (aN fun _ => 0)))] ++ [(t24_3, .inl (kA 0, 5, .inl (aN fun _ => 0)))])))) hx hb hts hinX2 tyX2 tyX2_ok nmX2 hown hK hP hD hS 0 rfl rfl 1 rfl ⟨rfl, rfl, rfl, rfl⟩ f25 hin rfl rfl rfl rfl dX2_init_36 (fun H locs hP hD hS => ?_)
  have hP : va_P D vwCl (wP kA (conF b (lsF [t8_1, t17_2, t24_3])) tq cq (fun _ => 0) (fun _ => 0) (fun _ => 0)) H := hP
  have hD : va_D A (wP kA (conF b (lsF [t8_1, t17_2, t24_3])) tq cq (fun _ => 0) (fun _ => 0) (fun _ => 0)) := hD
  exact n_wretv hx hb hr hlocks (post := fun (u : (Nat → Nat)) => True) (w1 := fun u => (wP kA (conF b u) tq cq (fun _ => 0) (fun _ => 0) (fun _ => 0))) (lsF [t8_1, t17_2, t24_3]) trivial hP hD hK hS hAe dX2_init_39

set_option maxHeartbeats 4000000 in
set_option maxRecDepth 100000 in
theorem c_X3_init (lQ : Launch) (D : va_G) (kA : Nat → ClassId) (b : Nat) (tq : Nat → Nat) (sz : Nat)  : Met lQ yX3_init wsX3_init (rmC 1 12 1 150) (wr_Pc D vwCl [.ref b, .ref (tq 0)] (wN3 kA b) (tyK kA) sz) (va_Qv (S := (Nat → Nat)) (fun (u : (Nat → Nat)) => True) (wr_B D vwCl (wN3 kA b) (tyK kA) sz (fun u => (wS kA (conF b u) tq (fun _ => 0) 0 0 (some 0) 0 0 (some 0)))) (va_A (wN3 kA b) sz)) 1 150 (va_A (wN3 kA b) sz) := by
  refine Met.ofW (cc := cX3_init) (maxL := 2) (ret := none) (by decide) rfl ?_
  intro pQ eQ s mQ args below meth cQ s₁ B hml hv
  obtain ⟨rfl, hsz, hP, hK, hD0⟩ := hv
  have hx := B.exec
  have hb := B.bytes
  have hr := B.returns
  have hts := atoms_spec (ws := wsX3_init) B.pre
  have hown : s.vm.findClass RX3 = some mQ.cls := findClass_of_methodNamed B.named
  have hlocks : meth.locks = false := B.notSynchronized
  have hin : meth.name = "<init>" := (name_of_methodNamed B.named B.method).1
  have hS0 : CallFix pQ mQ cQ cX3_init 2 s ([.ref b, .ref (tq 0)] : List Value).toArray wsX3_init RX3 := ⟨hx, hb, hml, hown, hts⟩
  subst hsz
  have hD := hD0.self (sz := s.heap.size)
  generalize hAe : va_A (wN3 kA b) s.heap.size = A at hD ⊢
  have hA : ∀ q : Nat, s.heap.size ≤ q → A q := fun q h => by rw [← hAe]; exact Or.inr h
  have hS : va_S A s.heap s.heap [] := va_S.rf
  have m3 : (Cond.methodLink RX3 3 objectInit).before ([.ref b, .ref (tq 0)] : List Value).toArray s = true := hts _ (by decide +kernel)
  have moi : (Cond.instanceMethod objectInit).before ([.ref b, .ref (tq 0)] : List Value).toArray s = true := hts _ (by decide +kernel)
  have moc : (Cond.code objectInit ⟨#[0xb1]⟩ 1 none).before ([.ref b, .ref (tq 0)] : List Value).toArray s = true := hts _ (by decide +kernel)
  have arbyte : (Cond.arrayClass .byte).before ([.ref b, .ref (tq 0)] : List Value).toArray s = true := hts _ (by decide +kernel)
  have f9 : (Cond.fieldLink RX3 9 "AskedRules$Script" "text" "[B").before ([.ref b, .ref (tq 0)] : List Value).toArray s = true := hts _ (by decide +kernel)
  have hinX3 : ∀ w ∈ wsX30, w ∈ wsX3_init := by decide +kernel
  have f15 : (Cond.fieldLink RX3 15 "AskedRules$Script" "table" "LAskedRules$Table;").before ([.ref b, .ref (tq 0)] : List Value).toArray s = true := hts _ (by decide +kernel)
  have hl := lv_entry ([.ref b, .ref (tq 0)]) (n := 2) (Nat.le_of_ble_eq_true rfl)
  rw [lg_entry_eq]
  generalize (lg_sl ([.ref b, .ref (tq 0)]) ++ List.replicate (2 - (lg_sl ([.ref b, .ref (tq 0)])).length) Slot.unset).toArray = ls at hl ⊢
  have hl : lv_has ls 2 [(0, .ref b), (1, .ref (tq 0))] := hl
  have hP : va_P D vwCl (wN3 kA b) s.heap := hP
  have hD : va_D A (wN3 kA b) := hD
  refine lv_aload_n hx hb dX3_init_0 rfl (lv_at hl 0 rfl) ?_
  refine W.objInit hx hb hown m3 moi moc rfl (by rw [hml]; exact hl.1) rfl dX3_init_1 (Nat.le_of_ble_eq_true rfl) (Nat.le_of_ble_eq_true rfl) ?_
  refine W.eq (g2 := F0 mQ 4 ls []) rfl ?_
  refine lv_aload_n hx hb dX3_init_4 rfl (lv_at hl 0 rfl) ?_
  refine lv_sipush (v := (nI 150)) hx hb dX3_init_5 (by decide) ?_
  refine n_newa (atype := .byte) (ty := .byte) (N' := 150) (f := (aN fun _ => 0)) hx hb arbyte rfl hK hP hD hS hA 1 rfl (fun _ _ h => h) (na_Y _) (nI_pos (Nat.le_of_ble_eq_true rfl)) (nI_clamp (Nat.le_of_ble_eq_true rfl)) (Nat.le_of_ble_eq_true rfl) (Nat.le_of_ble_eq_true rfl) (Nat.le_of_ble_eq_true rfl) dX3_init_8 (fun t8_1 H hP hD hS => ?_)
  have hP : va_P D vwCl ((wN3 kA b) ++ [(t8_1, .inl (kA 1, 150, .inl (aN fun _ => 0)))]) H := hP
  have hD : va_D A ((wN3 kA b) ++ [(t8_1, .inl (kA 1, 150, .inl (aN fun _ => 0)))]) := hD
  refine n_putF (ci := 3) (v := .ref t8_1) (C := RX3) (T := TX3) (N := 8) (ws' := ([(b, .inr (3, [.null, .ref t8_1, .int (nI 0), .int (nI 0), .int (nI 0), .int (nI 0), .int (nI 0), .int (nI 0)]))] ++ [(t8_1, .inl (kA 1, 150, .inl (aN fun _ => 0)))])) hx hb hts hinX3 tyX3 tyX3_ok nmX3 hown hK hP hD hS 0 rfl rfl 1 rfl ⟨rfl, rfl, rfl, rfl⟩ f9 hin rfl rfl rfl rfl dX3_init_10 (fun H locs hP hD hS => ?_)
  refine lv_aload_n hx hb dX3_init_13 rfl (lv_at hl 0 rfl) ?_
  refine lv_aload_n hx hb dX3_init_14 rfl (lv_at hl 1 rfl) ?_
  refine n_putF (ci := 3) (v := .ref (tq 0)) (C := RX3) (T := TX3) (N := 8) (ws' := ([(b, .inr (3, [.ref (tq 0), .ref t8_1, .int (nI 0), .int (nI 0), .int (nI 0), .int (nI 0), .int (nI 0), .int (nI 0)]))] ++ [(t8_1, .inl (kA 1, 150, .inl (aN fun _ => 0)))])) hx hb hts hinX3 tyX3 tyX3_ok nmX3 hown hK hP hD hS 0 rfl rfl 0 rfl ⟨rfl, rfl, rfl, rfl⟩ f15 hin rfl rfl rfl rfl dX3_init_15 (fun H locs hP hD hS => ?_)
  have hP : va_P D vwCl (wS kA (conF b (lsF [t8_1])) tq (fun _ => 0) 0 0 (some 0) 0 0 (some 0)) H := hP
  have hD : va_D A (wS kA (conF b (lsF [t8_1])) tq (fun _ => 0) 0 0 (some 0) 0 0 (some 0)) := hD
  exact n_wretv hx hb hr hlocks (post := fun (u : (Nat → Nat)) => True) (w1 := fun u => (wS kA (conF b u) tq (fun _ => 0) 0 0 (some 0) 0 0 (some 0))) (lsF [t8_1]) trivial hP hD hK hS hAe dX3_init_18


def svL (t0 t1 t2 t3 : TSt) : Nat → TSt
  | 0 => t0
  | 1 => t1
  | 2 => t2
  | _ => t3
/-- the object itself -/
def wM (_ : Nat → ClassId) (mq : Nat) (t5 c5 p5 h5 s5 : Nat → Nat) (s1 s2 : Bool) : va_W := [(mq, .inr (5, [.ref (t5 0), .ref (c5 0), .ref (p5 0), .ref (h5 0), .ref (s5 0), .int (bI s1), .int (bI s2)]))]

set_option maxHeartbeats 4000000 in
set_option maxRecDepth 100000 in
theorem c_X1_init (lQ : Launch) (D : va_G) (kA : Nat → ClassId) (b : Nat) (sz : Nat)  : Met lQ yX1_init wsX1_init (rmC 2 32 25 316) (wrN_Pc D vwCl [.ref b] (wN1 kA b) (tyK kA) sz) (va_Qv (S := (Nat → Nat) × (Nat → TSt)) (fun (u : (Nat → Nat) × (Nat → TSt)) => True) (wr_B D vwCl (wN1 kA b) (tyK kA) sz (fun u => (wH kA (conF b u.1) 0 u.2))) (va_A (wN1 kA b) sz)) 25 316 (va_A (wN1 kA b) sz) := by
  refine Met.ofW (cc := cX1_init) (maxL := 2) (ret := none) (by decide) rfl ?_
  intro pQ eQ s mQ args below meth cQ s₁ B hml hv
  obtain ⟨rfl, hsz, hP, hK, hD0, hN⟩ := hv
  have hx := B.exec
  have hb := B.bytes
  have hr := B.returns
  have hts := atoms_spec (ws := wsX1_init) B.pre
  have hown : s.vm.findClass RX1 = some mQ.cls := findClass_of_methodNamed B.named
  have hlocks : meth.locks = false := B.notSynchronized
  have hin : meth.name = "<init>" := (name_of_methodNamed B.named B.method).1
  have hS0 : CallFix pQ mQ cQ cX1_init 2 s ([.ref b] : List Value).toArray wsX1_init RX1 := ⟨hx, hb, hml, hown, hts⟩
  subst hsz
  have hD := hD0.self (sz := s.heap.size)
  generalize hAe : va_A (wN1 kA b) s.heap.size = A at hD ⊢
  have hA : ∀ q : Nat, s.heap.size ≤ q → A q := fun q h => by rw [← hAe]; exact Or.inr h
  have hS : va_S A s.heap s.heap [] := va_S.rf
  have m3 : (Cond.methodLink RX1 3 objectInit).before ([.ref b] : List Value).toArray s = true := hts _ (by decide +kernel)
  have moi : (Cond.instanceMethod objectInit).before ([.ref b] : List Value).toArray s = true := hts _ (by decide +kernel)
  have moc : (Cond.code objectInit ⟨#[0xb1]⟩ 1 none).before ([.ref b] : List Value).toArray s = true := hts _ (by decide +kernel)
  have cl9 : (Cond.classLink RX1 9 RX4).before ([.ref b] : List Value).toArray s = true := hts _ (by decide +kernel)
  have f11 : (Cond.fieldLink RX1 11 "AskedRules$History" "saved" "[LAskedRules$Table;").before ([.ref b] : List Value).toArray s = true := hts _ (by decide +kernel)
  have hinX1 : ∀ w ∈ wsX10, w ∈ wsX1_init := by decide +kernel
  have inst4 : (Cond.instantiable RX4 8).before ([.ref b] : List Value).toArray s = true := hts _ (by decide +kernel)
  have init4 : (Cond.initialized RX4).before ([.ref b] : List Value).toArray s = true := hts _ (by decide +kernel)
  have hinX4 : ∀ w ∈ wsX40, w ∈ wsX1_init := by decide +kernel
  have imX4 : (Cond.instanceMethod yX4_init).before ([.ref b] : List Value).toArray s = true := hts _ (by decide +kernel)
  have hl := lv_entry ([.ref b]) (n := 2) (Nat.le_of_ble_eq_true rfl)
  rw [lg_entry_eq]
  generalize (lg_sl ([.ref b]) ++ List.replicate (2 - (lg_sl ([.ref b])).length) Slot.unset).toArray = ls at hl ⊢
  have hl : lv_has ls 2 [(0, .ref b)] := hl
  have hP : va_P D vwCl (wN1 kA b) s.heap := hP
  have hD : va_D A (wN1 kA b) := hD
  refine lv_aload_n hx hb dX1_init_0 rfl (lv_at hl 0 rfl) ?_
  refine W.objInit hx hb hown m3 moi moc rfl (by rw [hml]; exact hl.1) rfl dX1_init_1 (Nat.le_of_ble_eq_true rfl) (Nat.le_of_ble_eq_true rfl) ?_
  refine W.eq (g2 := F0 mQ 4 ls []) rfl ?_
  refine lv_aload_n hx hb dX1_init_4 rfl (lv_at hl 0 rfl) ?_
  refine lv_iconst (v := (nI 4)) hx hb dX1_init_5 (by decide) ?_
  refine n_newq (C := RX4) (N' := 4) hx hb hown cl9 hN.2.2 hK hP hD hS hA 3 rfl (nI_pos (Nat.le_of_ble_eq_true rfl)) (nI_clamp (Nat.le_of_ble_eq_true rfl)) (Nat.le_of_ble_eq_true rfl) (Nat.le_of_ble_eq_true rfl) (Nat.le_of_ble_eq_true rfl) dX1_init_6 (fun t6_1 H hP hD hS => ?_)
  rw [svO_n] at hP hD
  have hP : va_P D vwCl ((wN1 kA b) ++ [(t6_1, .inl (kA 3, 4, .inr (.inr (.inr (.inr (svO none none none none))))))]) H := hP
  have hD : va_D A ((wN1 kA b) ++ [(t6_1, .inl (kA 3, 4, .inr (.inr (.inr (.inr (svO none none none none))))))]) := hD
  refine n_putF (ci := 1) (v := .ref t6_1) (C := RX1) (T := TX1) (N := 2) (ws' := ([(b, .inr (1, [.ref t6_1, .int (nI 0)]))] ++ [(t6_1, .inl (kA 3, 4, .inr (.inr (.inr (.inr (svO none none none none))))))])) hx hb hts hinX1 tyX1 tyX1_ok nmX1 hown hK hP hD hS 0 rfl rfl 0 rfl ⟨rfl, rfl, rfl, rfl⟩ f11 hin rfl rfl rfl rfl dX1_init_9 (fun H locs hP hD hS => ?_)
  refine lv_iconst (v := (nI 0)) hx hb dX1_init_12 (by decide) ?_
  refine lv_istore_n (lv' := [(1, .int (nI 0)), (0, .ref b)]) hx hb dX1_init_13 rfl hl (by decide) rfl (fun ls hl => ?_)
  refine lv_iload_n hx hb dX1_init_14 rfl (lv_at hl 0 rfl) ?_
  refine lv_iconst (v := (nI 4)) hx hb dX1_init_15 (by decide) ?_
  refine lv_icmp_ge (tgt := 38) hx hb dX1_init_16 (by decide) (fun h => absurd h (by decide)) (fun _ => ?_)
  refine lv_aload_n hx hb dX1_init_19 rfl (lv_at hl 1 rfl) ?_
  refine n_get (ci := 1) (v := .ref t6_1) (C := RX1) (T := TX1) (N := 2) hx hb hts hinX1 hown hK hP 0 rfl rfl 0 rfl ⟨rfl, rfl, rfl⟩ f11 rfl dX1_init_20 ?_
  refine lv_iload_n hx hb dX1_init_23 rfl (lv_at hl 0 rfl) ?_
  refine va_new (ci := 4) (C := RX4) (T := TX4) (N := 8) hx hb hts hinX4 tyX4 tyX4_ok hown cl9 inst4 init4 hK hP hD hS hA rfl defX4 (Nat.le_of_ble_eq_true rfl) (Nat.le_of_ble_eq_true rfl) dX1_init_24 (fun t24_2 H hP hD hS => ?_)
  have hP : va_P D vwCl ([(b, .inr (1, [.ref t6_1, .int (nI 0)]))] ++ ([(t6_1, .inl (kA 3, 4, .inr (.inr (.inr (.inr (svO none none none none))))))] ++ (wN4 kA t24_2))) H := hP
  have hD : va_D A ([(b, .inr (1, [.ref t6_1, .int (nI 0)]))] ++ ([(t6_1, .inl (kA 3, 4, .inr (.inr (.inr (.inr (svO none none none none))))))] ++ (wN4 kA t24_2))) := hD
  refine lv_dup hx hb dX1_init_27 rfl ?_
  refine n_wIvH (b := t24_2) (As := []) (rest := [.ref t24_2, .int (nI 0), .ref t6_1]) (wr := ([(b, .inr (1, [.ref t6_1, .int (nI 0)]))] ++ [(t6_1, .inl (kA 3, 4, .inr (.inr (.inr (.inr (svO none none none none))))))])) (ws' := fun u => ([(b, .inr (1, [.ref t6_1, .int (nI 0)]))] ++ ([(t6_1, .inl (kA 3, 4, .inr (.inr (.inr (.inr (svO none none none none))))))] ++ (wT kA (conF t24_2 u) 0 (fun _ => 0) (fun _ => 0) 0 0 (fun _ => 0) (fun _ => 0) (fun _ => 0))))) hS0 (c_X4_init lQ D kA t24_2 H.size) ⟨va_cnB 0 hts gX1_init_X4_init_n17 rfl rfl rfl hN.1 init4 (by decide +kernel) ⟨Nat.le_of_ble_eq_true rfl, Nat.le_of_ble_eq_true rfl⟩, rfl, imX4⟩ hP hD hS hA hK hK (by simpa only [List.append_assoc, List.append_nil] using ((List.Perm.append_left _ List.perm_append_comm).trans (List.perm_append_comm_assoc _ _ _))) (fun u => List.Perm.symm (by simpa only [List.append_assoc, List.append_nil] using ((List.Perm.append_left _ List.perm_append_comm).trans (List.perm_append_comm_assoc _ _ _)))) rfl rfl hl.1 (Nat.le_of_ble_eq_true rfl) dX1_init_28 ⟨Nat.le_of_ble_eq_true rfl, Nat.le_of_ble_eq_true rfl⟩ (fun u28_3 H locs h28 hP hD hS => ?_)
  obtain ⟨u9_u28_3, rfl⟩ : ∃ z, z = u28_3 := ⟨_, rfl⟩
  have hP : va_P D vwCl ([(b, .inr (1, [.ref t6_1, .int (nI 0)]))] ++ ([(t6_1, .inl (kA 3, 4, .inr (.inr (.inr (.inr (svO none none none none))))))] ++ (wT kA (conF t24_2 u9_u28_3) 0 (fun _ => 0) (fun _ => 0) 0 0 (fun _ => 0) (fun _ => 0) (fun _ => 0)))) H := hP
  have hD : va_D A ([(b, .inr (1, [.ref t6_1, .int (nI 0)]))] ++ ([(t6_1, .inl (kA 3, 4, .inr (.inr (.inr (.inr (svO none none none none))))))] ++ (wT kA (conF t24_2 u9_u28_3) 0 (fun _ => 0) (fun _ => 0) 0 0 (fun _ => 0) (fun _ => 0) (fun _ => 0)))) := hD
  refine n_astq (i := 0) (ws' := ([(b, .inr (1, [.ref t6_1, .int (nI 0)]))] ++ ([(t6_1, .inl (kA 3, 4, .inr (.inr (.inr (.inr (svO (some t24_2) none none none))))))] ++ (wT kA (conF t24_2 u9_u28_3) 0 (fun _ => 0) (fun _ => 0) 0 0 (fun _ => 0) (fun _ => 0) (fun _ => 0))))) hx hb hK hP hD hS 1 3 2 4 rfl rfl rfl rfl (Nat.le_of_ble_eq_true rfl) (Nat.le_of_ble_eq_true rfl) svO_0 rfl dX1_init_31 (fun H locs hP hD hS => ?_)
  refine lv_iinc (v := (nI 1)) (lv' := [(1, .int (nI 1)), (0, .ref b)]) hx hb dX1_init_32 hl (k := 0) rfl (nI_inc _) (by decide) rfl (fun ls hl => ?_)
  refine lv_goto (tgt := 14) hx hb dX1_init_35 (by decide) ?_
  refine lv_iload_n hx hb dX1_init_14 rfl (lv_at hl 0 rfl) ?_
  refine lv_iconst (v := (nI 4)) hx hb dX1_init_15 (by decide) ?_
  refine lv_icmp_ge (tgt := 38) hx hb dX1_init_16 (by decide) (fun h => absurd h (by decide)) (fun _ => ?_)
  refine lv_aload_n hx hb dX1_init_19 rfl (lv_at hl 1 rfl) ?_
  refine n_get (ci := 1) (v := .ref t6_1) (C := RX1) (T := TX1) (N := 2) hx hb hts hinX1 hown hK hP 0 rfl rfl 0 rfl ⟨rfl, rfl, rfl⟩ f11 rfl dX1_init_20 ?_
  refine lv_iload_n hx hb dX1_init_23 rfl (lv_at hl 0 rfl) ?_
  refine va_new (ci := 4) (C := RX4) (T := TX4) (N := 8) hx hb hts hinX4 tyX4 tyX4_ok hown cl9 inst4 init4 hK hP hD hS hA rfl defX4 (Nat.le_of_ble_eq_true rfl) (Nat.le_of_ble_eq_true rfl) dX1_init_24 (fun t24_4 H hP hD hS => ?_)
  have hP : va_P D vwCl ([(b, .inr (1, [.ref t6_1, .int (nI 0)]))] ++ ([(t6_1, .inl (kA 3, 4, .inr (.inr (.inr (.inr (svO (some t24_2) none none none))))))] ++ ((wT kA (conF t24_2 u9_u28_3) 0 (fun _ => 0) (fun _ => 0) 0 0 (fun _ => 0) (fun _ => 0) (fun _ => 0)) ++ (wN4 kA t24_4)))) H := hP
  have hD : va_D A ([(b, .inr (1, [.ref t6_1, .int (nI 0)]))] ++ ([(t6_1, .inl (kA 3, 4, .inr (.inr (.inr (.inr (svO (some t24_2) none none none))))))] ++ ((wT kA (conF t24_2 u9_u28_3) 0 (fun _ => 0) (fun _ => 0) 0 0 (fun _ => 0) (fun _ => 0) (fun _ => 0)) ++ (wN4 kA t24_4)))) := hD
  refine lv_dup hx hb dX1_init_27 rfl ?_
  refine n_wIvH (b := t24_4) (As := []) (rest := [.ref t24_4, .int (nI 1), .ref t6_1]) (wr := ([(b, .inr (1, [.ref t6_1, .int (nI 0)]))] ++ ([(t6_1, .inl (kA 3, 4, .inr (.inr (.inr (.inr (svO (some t24_2) none none none))))))] ++ (wT kA (conF t24_2 u9_u28_3) 0 (fun _ => 0) (fun _ => 0) 0 0 (fun _ => 0) (fun _ => 0) (fun _ => 0))))) (ws' := fun u => ([(b, .inr (1, [.ref t6_1, .int (nI 0)]))] ++ ([(t6_1, .inl (kA 3, 4, .inr (.inr (.inr (.inr (svO (some t24_2) none none none))))))] ++ ((wT kA (conF t24_2 u9_u28_3) 0 (fun _ => 0) (fun _ => 0) 0 0 (fun _ => 0) (fun _ => 0) (fun _ => 0)) ++ (wT kA (conF t24_4 u) 0 (fun _ => 0) (fun _ => 0) 0 0 (fun _ => 0) (fun _ => 0) (fun _ => 0)))))) hS0 (c_X4_init lQ D kA t24_4 H.size) ⟨va_cnB 0 hts gX1_init_X4_init_n17 rfl rfl rfl hN.1 init4 (by decide +kernel) ⟨Nat.le_of_ble_eq_true rfl, Nat.le_of_ble_eq_true rfl⟩, rfl, imX4⟩ hP hD hS hA hK hK (by simpa only [List.append_assoc, List.append_nil] using ((List.Perm.append_left _ ((List.Perm.append_left _ List.perm_append_comm).trans (List.perm_append_comm_assoc _ _ _))).trans (List.perm_append_comm_assoc _ _ _))) (fun u => List.Perm.symm (by simpa only [List.append_assoc, List.append_nil] using ((List.Perm.append_left _ ((List.Perm.append_left _ List.perm_append_comm).trans (List.perm_append_comm_assoc _ _ _))).trans (List.perm_append_comm_assoc _ _ _)))) rfl rfl hl.1 (Nat.le_of_ble_eq_true rfl) dX1_init_28 ⟨Nat.le_of_ble_eq_true rfl, Nat.le_of_ble_eq_true rfl⟩ (fun u28_5 H locs h28 hP hD hS => ?_)
  obtain ⟨u9_u28_5, rfl⟩ : ∃ z, z = u28_5 := ⟨_, rfl⟩
  have hP : va_P D vwCl ([(b, .inr (1, [.ref t6_1, .int (nI 0)]))] ++ ([(t6_1, .inl (kA 3, 4, .inr (.inr (.inr (.inr (svO (some t24_2) none none none))))))] ++ ((wT kA (conF t24_2 u9_u28_3) 0 (fun _ => 0) (fun _ => 0) 0 0 (fun _ => 0) (fun _ => 0) (fun _ => 0)) ++ (wT kA (conF t24_4 u9_u28_5) 0 (fun _ => 0) (fun _ => 0) 0 0 (fun _ => 0) (fun _ => 0) (fun _ => 0))))) H := hP
  have hD : va_D A ([(b, .inr (1, [.ref t6_1, .int (nI 0)]))] ++ ([(t6_1, .inl (kA 3, 4, .inr (.inr (.inr (.inr (svO (some t24_2) none none none))))))] ++ ((wT kA (conF t24_2 u9_u28_3) 0 (fun _ => 0) (fun _ => 0) 0 0 (fun _ => 0) (fun _ => 0) (fun _ => 0)) ++ (wT kA (conF t24_4 u9_u28_5) 0 (fun _ => 0) (fun _ => 0) 0 0 (fun _ => 0) (fun _ => 0) (fun _ => 0))))) := hD
  refine n_astq (i := 1) (ws' := ([(b, .inr (1, [.ref t6_1, .int (nI 0)]))] ++ ([(t6_1, .inl (kA 3, 4, .inr (.inr (.inr (.inr (svO (some t24_2) (some t24_4) none none))))))] ++ ((wT kA (conF t24_2 u9_u28_3) 0 (fun _ => 0) (fun _ => 0) 0 0 (fun _ => 0) (fun _ => 0) (fun _ => 0)) ++ (wT kA (conF t24_4 u9_u28_5) 0 (fun _ => 0) (fun _ => 0) 0 0 (fun _ => 0) (fun _ => 0) (fun _ => 0)))))) hx hb hK hP hD hS 1 3 8 4 rfl rfl rfl rfl (Nat.le_of_ble_eq_true rfl) (Nat.le_of_ble_eq_true rfl) svO_1 rfl dX1_init_31 (fun H locs hP hD hS => ?_)
  refine lv_iinc (v := (nI 2)) (lv' := [(1, .int (nI 2)), (0, .ref b)]) hx hb dX1_init_32 hl (k := 0) rfl (nI_inc _) (by decide) rfl (fun ls hl => ?_)
  refine lv_goto (tgt := 14) hx hb dX1_init_35 (by decide) ?_
  refine lv_iload_n hx hb dX1_init_14 rfl (lv_at hl 0 rfl) ?_
  refine lv_iconst (v := (nI 4)) hx hb dX1_init_15 (by decide) ?_
  refine lv_icmp_ge (tgt := 38) hx hb dX1_init_16 (by decide) (fun h => absurd h (by decide)) (fun _ => ?_)
  refine lv_aload_n hx hb dX1_init_19 rfl (lv_at hl 1 rfl) ?_
  refine n_get (ci := 1) (v := .ref t6_1) (C := RX1) (T := TX1) (N := 2) hx hb hts hinX1 hown hK hP 0 rfl rfl 0 rfl ⟨rfl, rfl, rfl⟩ f11 rfl dX1_init_20 ?_
  refine lv_iload_n hx hb dX1_init_23 rfl (lv_at hl 0 rfl) ?_
  refine va_new (ci := 4) (C := RX4) (T := TX4) (N := 8) hx hb hts hinX4 tyX4 tyX4_ok hown cl9 inst4 init4 hK hP hD hS hA rfl defX4 (Nat.le_of_ble_eq_true rfl) (Nat.le_of_ble_eq_true rfl) dX1_init_24 (fun t24_6 H hP hD hS => ?_)
  have hP : va_P D vwCl ([(b, .inr (1, [.ref t6_1, .int (nI 0)]))] ++ ([(t6_1, .inl (kA 3, 4, .inr (.inr (.inr (.inr (svO (some t24_2) (some t24_4) none none))))))] ++ ((wT kA (conF t24_2 u9_u28_3) 0 (fun _ => 0) (fun _ => 0) 0 0 (fun _ => 0) (fun _ => 0) (fun _ => 0)) ++ ((wT kA (conF t24_4 u9_u28_5) 0 (fun _ => 0) (fun _ => 0) 0 0 (fun _ => 0) (fun _ => 0) (fun _ => 0)) ++ (wN4 kA t24_6))))) H := hP
  have hD : va_D A ([(b, .inr (1, [.ref t6_1, .int (nI 0)]))] ++ ([(t6_1, .inl (kA 3, 4, .inr (.inr (.inr (.inr (svO (some t24_2) (some t24_4) none none))))))] ++ ((wT kA (conF t24_2 u9_u28_3) 0 (fun _ => 0) (fun _ => 0) 0 0 (fun _ => 0) (fun _ => 0) (fun _ => 0)) ++ ((wT kA (conF t24_4 u9_u28_5) 0 (fun _ => 0) (fun _ => 0) 0 0 (fun _ => 0) (fun _ => 0) (fun _ => 0)) ++ (wN4 kA t24_6))))) := hD
  refine lv_dup hx hb dX1_init_27 rfl ?_
  refine n_wIvH (b := t24_6) (As := []) (rest := [.ref t24_6, .int (nI 2), .ref t6_1]) (wr := ([(b, .inr (1, [.ref t6_1, .int (nI 0)]))] ++ ([(t6_1, .inl (kA 3, 4, .inr (.inr (.inr (.inr (svO (some t24_2) (some t24_4) none none))))))] ++ ((wT kA (conF t24_2 u9_u28_3) 0 (fun _ => 0) (fun _ => 0) 0 0 (fun _ => 0) (fun _ => 0) (fun _ => 0)) ++ (wT kA (conF t24_4 u9_u28_5) 0 (fun _ => 0) (fun _ => 0) 0 0 (fun _ => 0) (fun _ => 0) (fun _ => 0)))))) (ws' := fun u => ([(b, .inr (1, [.ref t6_1, .int (nI 0)]))] ++ ([(t6_1, .inl (kA 3, 4, .inr (.inr (.inr (.inr (svO (some t24_2) (some t24_4) none none))))))] ++ ((wT kA (conF t24_2 u9_u28_3) 0 (fun _ => 0) (fun _ => 0) 0 0 (fun _ => 0) (fun _ => 0) (fun _ => 0)) ++ ((wT kA (conF t24_4 u9_u28_5) 0 (fun _ => 0) (fun _ => 0) 0 0 (fun _ => 0) (fun _ => 0) (fun _ => 0)) ++ (wT kA (conF t24_6 u) 0 (fun _ => 0) (fun _ => 0) 0 0 (fun _ => 0) (fun _ => 0) (fun _ => 0))))))) hS0 (c_X4_init lQ D kA t24_6 H.size) ⟨va_cnB 0 hts gX1_init_X4_init_n17 rfl rfl rfl hN.1 init4 (by decide +kernel) ⟨Nat.le_of_ble_eq_true rfl, Nat.le_of_ble_eq_true rfl⟩, rfl, imX4⟩ hP hD hS hA hK hK (by simpa only [List.append_assoc, List.append_nil] using ((List.Perm.append_left _ ((List.Perm.append_left _ ((List.Perm.append_left _ List.perm_append_comm).trans (List.perm_append_comm_assoc _ _ _))).trans (List.perm_append_comm_assoc _ _ _))).trans (List.perm_append_comm_assoc _ _ _))) (fun u => List.Perm.symm (by simpa only [List.append_assoc, List.append_nil] using ((List.Perm.append_left _ ((List.Perm.append_left _ ((List.Perm.append_left _ List.perm_append_comm).trans (List.perm_append_comm_assoc _ _ _))).trans (List.perm_append_comm_assoc _ _ _))).trans (List.perm_append_comm_assoc _ _ _)))) rfl rfl hl.1 (Nat.le_of_ble_eq_true rfl) dX1_init_28 ⟨Nat.le_of_ble_eq_true rfl, Nat.le_of_ble_eq_true rfl⟩ (fun u28_7 H locs h28 hP hD hS => ?_)
  obtain ⟨u9_u28_7, rfl⟩ : ∃ z, z = u28_7 := ⟨_, rfl⟩
  have hP : va_P D vwCl ([(b, .inr (1, [.ref t6_1, .int (nI 0)]))] ++ ([(t6_1, .inl (kA 3, 4, .inr (.inr (.inr (.inr (svO (some t24_2) (some t24_4) none none))))))] ++ ((wT kA (conF t24_2 u9_u28_3) 0 (fun _ => 0) (fun _ => 0) 0 0 (fun _ => 0) (fun _ => 0) (fun _ => 0)) ++ ((wT kA (conF t24_4 u9_u28_5) 0 (fun _ => 0) (fun _ => 0) 0 0 (fun _ => 0) (fun _ => 0) (fun _ => 0)) ++ (wT kA (conF t24_6 u9_u28_7) 0 (fun _ => 0) (fun _ => 0) 0 0 (fun _ => 0) (fun _ => 0) (fun _ => 0)))))) H := hP
  have hD : va_D A ([(b, .inr (1, [.ref t6_1, .int (nI 0)]))] ++ ([(t6_1, .inl (kA 3, 4, .inr (.inr (.inr (.inr (svO (some t24_2) (some t24_4) none none))))))] ++ ((wT kA (conF t24_2 u9_u28_3) 0 (fun _ => 0) (fun _ => 0) 0 0 (fun _ => 0) (fun _ => 0) (fun _ => 0)) ++ ((wT kA (conF t24_4 u9_u28_5) 0 (fun _ => 0) (fun _ => 0) 0 0 (fun _ => 0) (fun _ => 0) (fun _ => 0)) ++ (wT kA (conF t24_6 u9_u28_7) 0 (fun _ => 0) (fun _ => 0) 0 0 (fun _ => 0) (fun _ => 0) (fun _ => 0)))))) := hD
  refine n_astq (i := 2) (ws' := ([(b, .inr (1, [.ref t6_1, .int (nI 0)]))] ++ ([(t6_1, .inl (kA 3, 4, .inr (.inr (.inr (.inr (svO (some t24_2) (some t24_4) (some t24_6) none))))))] ++ ((wT kA (conF t24_2 u9_u28_3) 0 (fun _ => 0) (fun _ => 0) 0 0 (fun _ => 0) (fun _ => 0) (fun _ => 0)) ++ ((wT kA (conF t24_4 u9_u28_5) 0 (fun _ => 0) (fun _ => 0) 0 0 (fun _ => 0) (fun _ => 0) (fun _ => 0)) ++ (wT kA (conF t24_6 u9_u28_7) 0 (fun _ => 0) (fun _ => 0) 0 0 (fun _ => 0) (fun _ => 0) (fun _ => 0))))))) hx hb hK hP hD hS 1 3 14 4 rfl rfl rfl rfl (Nat.le_of_ble_eq_true rfl) (Nat.le_of_ble_eq_true rfl) svO_2 rfl dX1_init_31 (fun H locs hP hD hS => ?_)
  refine lv_iinc (v := (nI 3)) (lv' := [(1, .int (nI 3)), (0, .ref b)]) hx hb dX1_init_32 hl (k := 0) rfl (nI_inc _) (by decide) rfl (fun ls hl => ?_)
  refine lv_goto (tgt := 14) hx hb dX1_init_35 (by decide) ?_
  refine lv_iload_n hx hb dX1_init_14 rfl (lv_at hl 0 rfl) ?_
  refine lv_iconst (v := (nI 4)) hx hb dX1_init_15 (by decide) ?_
  refine lv_icmp_ge (tgt := 38) hx hb dX1_init_16 (by decide) (fun h => absurd h (by decide)) (fun _ => ?_)
  refine lv_aload_n hx hb dX1_init_19 rfl (lv_at hl 1 rfl) ?_
  refine n_get (ci := 1) (v := .ref t6_1) (C := RX1) (T := TX1) (N := 2) hx hb hts hinX1 hown hK hP 0 rfl rfl 0 rfl ⟨rfl, rfl, rfl⟩ f11 rfl dX1_init_20 ?_
  refine lv_iload_n hx hb dX1_init_23 rfl (lv_at hl 0 rfl) ?_
  refine va_new (ci := 4) (C := RX4) (T := TX4) (N := 8) hx hb hts hinX4 tyX4 tyX4_ok hown cl9 inst4 init4 hK hP hD hS hA rfl defX4 (Nat.le_of_ble_eq_true rfl) (Nat.le_of_ble_eq_true rfl) dX1_init_24 (fun t24_8 H hP hD hS => ?_)
  have hP : va_P D vwCl ([(b, .inr (1, [.ref t6_1, .int (nI 0)]))] ++ ([(t6_1, .inl (kA 3, 4, .inr (.inr (.inr (.inr (svO (some t24_2) (some t24_4) (some t24_6) none))))))] ++ ((wT kA (conF t24_2 u9_u28_3) 0 (fun _ => 0) (fun _ => 0) 0 0 (fun _ => 0) (fun _ => 0) (fun _ => 0)) ++ ((wT kA (conF t24_4 u9_u28_5) 0 (fun _ => 0) (fun _ => 0) 0 0 (fun _ => 0) (fun _ => 0) (fun _ => 0)) ++ ((wT kA (conF t24_6 u9_u28_7) 0 (fun _ => 0) (fun _ => 0) 0 0 (fun _ => 0) (fun _ => 0) (fun _ => 0)) ++ (wN4 kA t24_8)))))) H := hP
  have hD : va_D A ([(b, .inr (1, [.ref t6_1, .int (nI 0)]))] ++ ([(t6_1, .inl (kA 3, 4, .inr (.inr (.inr (.inr (svO (some t24_2) (some t24_4) (some t24_6) none))))))] ++ ((wT kA (conF t24_2 u9_u28_3) 0 (fun _ => 0) (fun _ => 0) 0 0 (fun _ => 0) (fun _ => 0) (fun _ => 0)) ++ ((wT kA (conF t24_4 u9_u28_5) 0 (fun _ => 0) (fun _ => 0) 0 0 (fun _ => 0) (fun _ => 0) (fun _ => 0)) ++ ((wT kA (conF t24_6 u9_u28_7) 0 (fun _ => 0) (fun _ => 0) 0 0 (fun _ => 0) (fun _ => 0) (fun _ => 0)) ++ (wN4 kA t24_8)))))) := hD
  refine lv_dup hx hb dX1_init_27 rfl ?_
  refine n_wIvH (b := t24_8) (As := []) (rest := [.ref t24_8, .int (nI 3), .ref t6_1]) (wr := ([(b, .inr (1, [.ref t6_1, .int (nI 0)]))] ++ ([(t6_1, .inl (kA 3, 4, .inr (.inr (.inr (.inr (svO (some t24_2) (some t24_4) (some t24_6) none))))))] ++ ((wT kA (conF t24_2 u9_u28_3) 0 (fun _ => 0) (fun _ => 0) 0 0 (fun _ => 0) (fun _ => 0) (fun _ => 0)) ++ ((wT kA (conF t24_4 u9_u28_5) 0 (fun _ => 0) (fun _ => 0) 0 0 (fun _ => 0) (fun _ => 0) (fun _ => 0)) ++ (wT kA (conF t24_6 u9_u28_7) 0 (fun _ => 0) (fun _ => 0) 0 0 (fun _ => 0) (fun _ => 0) (fun _ => 0))))))) (ws' := fun u => ([(b, .inr (1, [.ref t6_1, .int (nI 0)]))] ++ ([(t6_1, .inl (kA 3, 4, .inr (.inr (.inr (.inr (svO (some t24_2) (some t24_4) (some t24_6) none))))))] ++ ((wT kA (conF t24_2 u9_u28_3) 0 (fun _ => 0) (fun _ => 0) 0 0 (fun _ => 0) (fun _ => 0) (fun _ => 0)) ++ ((wT kA (conF t24_4 u9_u28_5) 0 (fun _ => 0) (fun _ => 0) 0 0 (fun _ => 0) (fun _ => 0) (fun _ => 0)) ++ ((wT kA (conF t24_6 u9_u28_7) 0 (fun _ => 0) (fun _ => 0) 0 0 (fun _ => 0) (fun _ => 0) (fun _ => 0)) ++ (wT kA (conF t24_8 u) 0 (fun _ => 0) (fun _ => 0) 0 0 (fun _ => 0) (fun _ => 0) (fun _ => 0)))))))) hS0 (c_X4_init lQ D kA t24_8 H.size) ⟨va_cnB 0 hts gX1_init_X4_init_n17 rfl rfl rfl hN.1 init4 (by decide +kernel) ⟨Nat.le_of_ble_eq_true rfl, Nat.le_of_ble_eq_true rfl⟩, rfl, imX4⟩ hP hD hS hA hK hK (by simpa only [List.append_assoc, List.append_nil] using ((List.Perm.append_left _ ((List.Perm.append_left _ ((List.Perm.append_left _ ((List.Perm.append_left _ List.perm_append_comm).trans (List.perm_append_comm_assoc _ _ _))).trans (List.perm_append_comm_assoc _ _ _))).trans (List.perm_append_comm_assoc _ _ _))).trans (List.perm_append_comm_assoc _ _ _))) (fun u => List.Perm.symm (by simpa only [List.append_assoc, List.append_nil] using ((List.Perm.append_left _ ((List.Perm.append_left _ ((List.Perm.append_left _ ((List.Perm.append_left _ List.perm_append_comm).trans (List.perm_append_comm_assoc _ _ _))).trans (List.perm_append_comm_assoc _ _ _))).trans (List.perm_append_comm_assoc _ _ _))).trans (List.perm_append_comm_assoc _ _ _)))) rfl rfl hl.1 (Nat.le_of_ble_eq_true rfl) dX1_init_28 ⟨Nat.le_of_ble_eq_true rfl, Nat.le_of_ble_eq_true rfl⟩ (fun u28_9 H locs h28 hP hD hS => ?_)
  obtain ⟨u9_u28_9, rfl⟩ : ∃ z, z = u28_9 := ⟨_, rfl⟩
  have hP : va_P D vwCl ([(b, .inr (1, [.ref t6_1, .int (nI 0)]))] ++ ([(t6_1, .inl (kA 3, 4, .inr (.inr (.inr (.inr (svO (some t24_2) (some t24_4) (some t24_6) none))))))] ++ ((wT kA (conF t24_2 u9_u28_3) 0 (fun _ => 0) (fun _ => 0) 0 0 (fun _ => 0) (fun _ => 0) (fun _ => 0)) ++ ((wT kA (conF t24_4 u9_u28_5) 0 (fun _ => 0) (fun _ => 0) 0 0 (fun _ => 0) (fun _ => 0) (fun _ => 0)) ++ ((wT kA (conF t24_6 u9_u28_7) 0 (fun _ => 0) (fun _ => 0) 0 0 (fun _ => 0) (fun _ => 0) (fun _ => 0)) ++ (wT kA (conF t24_8 u9_u28_9) 0 (fun _ => 0) (fun _ => 0) 0 0 (fun _ => 0) (fun _ => 0) (fun _ => 0))))))) H := hP
  have hD : va_D A ([(b, .inr (1, [.ref t6_1, .int (nI 0)]))] ++ ([(t6_1, .inl (kA 3, 4, .inr (.inr (.inr (.inr (svO (some t24_2) (some t24_4) (some t24_6) none))))))] ++ ((wT kA (conF t24_2 u9_u28_3) 0 (fun _ => 0) (fun _ => 0) 0 0 (fun _ => 0) (fun _ => 0) (fun _ => 0)) ++ ((wT kA (conF t24_4 u9_u28_5) 0 (fun _ => 0) (fun _ => 0) 0 0 (fun _ => 0) (fun _ => 0) (fun _ => 0)) ++ ((wT kA (conF t24_6 u9_u28_7) 0 (fun _ => 0) (fun _ => 0) 0 0 (fun _ => 0) (fun _ => 0) (fun _ => 0)) ++ (wT kA (conF t24_8 u9_u28_9) 0 (fun _ => 0) (fun _ => 0) 0 0 (fun _ => 0) (fun _ => 0) (fun _ => 0))))))) := hD
  refine n_astq (i := 3) (ws' := ([(b, .inr (1, [.ref t6_1, .int (nI 0)]))] ++ ([(t6_1, .inl (kA 3, 4, .inr (.inr (.inr (.inr (svO (some t24_2) (some t24_4) (some t24_6) (some t24_8)))))))] ++ ((wT kA (conF t24_2 u9_u28_3) 0 (fun _ => 0) (fun _ => 0) 0 0 (fun _ => 0) (fun _ => 0) (fun _ => 0)) ++ ((wT kA (conF t24_4 u9_u28_5) 0 (fun _ => 0) (fun _ => 0) 0 0 (fun _ => 0) (fun _ => 0) (fun _ => 0)) ++ ((wT kA (conF t24_6 u9_u28_7) 0 (fun _ => 0) (fun _ => 0) 0 0 (fun _ => 0) (fun _ => 0) (fun _ => 0)) ++ (wT kA (conF t24_8 u9_u28_9) 0 (fun _ => 0) (fun _ => 0) 0 0 (fun _ => 0) (fun _ => 0) (fun _ => 0)))))))) hx hb hK hP hD hS 1 3 20 4 rfl rfl rfl rfl (Nat.le_of_ble_eq_true rfl) (Nat.le_of_ble_eq_true rfl) svO_3 rfl dX1_init_31 (fun H locs hP hD hS => ?_)
  refine lv_iinc (v := (nI 4)) (lv' := [(1, .int (nI 4)), (0, .ref b)]) hx hb dX1_init_32 hl (k := 0) rfl (nI_inc _) (by decide) rfl (fun ls hl => ?_)
  refine lv_goto (tgt := 14) hx hb dX1_init_35 (by decide) ?_
  refine lv_iload_n hx hb dX1_init_14 rfl (lv_at hl 0 rfl) ?_
  refine lv_iconst (v := (nI 4)) hx hb dX1_init_15 (by decide) ?_
  refine lv_icmp_ge (tgt := 38) hx hb dX1_init_16 (by decide) (fun _ => ?_) (fun h => absurd (by decide) h)
  have hP : va_P D vwCl (wH kA (conF b (lsF [t6_1])) 0 (svL (conF t24_2 u9_u28_3, 0, (fun _ => 0), (fun _ => 0), 0, 0, (fun _ => 0), (fun _ => 0), (fun _ => 0)) (conF t24_4 u9_u28_5, 0, (fun _ => 0), (fun _ => 0), 0, 0, (fun _ => 0), (fun _ => 0), (fun _ => 0)) (conF t24_6 u9_u28_7, 0, (fun _ => 0), (fun _ => 0), 0, 0, (fun _ => 0), (fun _ => 0), (fun _ => 0)) (conF t24_8 u9_u28_9, 0, (fun _ => 0), (fun _ => 0), 0, 0, (fun _ => 0), (fun _ => 0), (fun _ => 0)))) H := hP
  have hD : va_D A (wH kA (conF b (lsF [t6_1])) 0 (svL (conF t24_2 u9_u28_3, 0, (fun _ => 0), (fun _ => 0), 0, 0, (fun _ => 0), (fun _ => 0), (fun _ => 0)) (conF t24_4 u9_u28_5, 0, (fun _ => 0), (fun _ => 0), 0, 0, (fun _ => 0), (fun _ => 0), (fun _ => 0)) (conF t24_6 u9_u28_7, 0, (fun _ => 0), (fun _ => 0), 0, 0, (fun _ => 0), (fun _ => 0), (fun _ => 0)) (conF t24_8 u9_u28_9, 0, (fun _ => 0), (fun _ => 0), 0, 0, (fun _ => 0), (fun _ => 0), (fun _ => 0)))) := hD
  exact n_wretv hx hb hr hlocks (post := fun (u : (Nat → Nat) × (Nat → TSt)) => True) (w1 := fun u => (wH kA (conF b u.1) 0 u.2)) ((lsF [t6_1]), (svL (conF t24_2 u9_u28_3, 0, (fun _ => 0), (fun _ => 0), 0, 0, (fun _ => 0), (fun _ => 0), (fun _ => 0)) (conF t24_4 u9_u28_5, 0, (fun _ => 0), (fun _ => 0), 0, 0, (fun _ => 0), (fun _ => 0), (fun _ => 0)) (conF t24_6 u9_u28_7, 0, (fun _ => 0), (fun _ => 0), 0, 0, (fun _ => 0), (fun _ => 0), (fun _ => 0)) (conF t24_8 u9_u28_9, 0, (fun _ => 0), (fun _ => 0), 0, 0, (fun _ => 0), (fun _ => 0), (fun _ => 0)))) trivial hP hD hK hS hAe dX1_init_38

set_option maxHeartbeats 4000000 in
set_option maxRecDepth 100000 in
theorem c_X5_init (lQ : Launch) (D : va_G) (kA : Nat → ClassId) (b : Nat) (sz : Nat)  : Met lQ yX5_init wsX5_init (rmC 3 53 47 12996) (wrN_Pc D vwCl [.ref b] (wN5 kA b) (tyK kA) sz) (va_Qv (S := (Nat → Nat) × (Nat → Nat) × (Nat → Nat) × (Nat → Nat) × (Nat → Nat) × (Nat → TSt)) (fun (u : (Nat → Nat) × (Nat → Nat) × (Nat → Nat) × (Nat → Nat) × (Nat → Nat) × (Nat → TSt)) => True) (wr_B D vwCl (wN5 kA b) (tyK kA) sz (fun u => ((wM kA b u.1 u.2.1 u.2.2.1 u.2.2.2.1 u.2.2.2.2.1 true true) ++ ((wT kA u.1 0 (fun _ => 0) (fun _ => 0) 0 0 (fun _ => 0) (fun _ => 0) (fun _ => 0)) ++ ((wC kA u.2.1 u.1 0 (fun _ => 0) (fun _ => 0) (fun _ => some 0) (fun _ => some 0) (fun _ => 0) (fun _ => 0) (fun _ => false) (fun _ => 0) 0 0 0) ++ ((wP kA u.2.2.1 u.1 u.2.1 (fun _ => 0) (fun _ => 0) (fun _ => 0)) ++ ((wH kA u.2.2.2.1 0 u.2.2.2.2.2) ++ (wS kA u.2.2.2.2.1 u.1 (fun _ => 0) 0 0 (some 0) 0 0 (some 0))))))))) (va_A (wN5 kA b) sz)) 47 12996 (va_A (wN5 kA b) sz) := by
  refine Met.ofW (cc := cX5_init) (maxL := 1) (ret := none) (by decide) rfl ?_
  intro pQ eQ s mQ args below meth cQ s₁ B hml hv
  obtain ⟨rfl, hsz, hP, hK, hD0, hN⟩ := hv
  have hx := B.exec
  have hb := B.bytes
  have hr := B.returns
  have hts := atoms_spec (ws := wsX5_init) B.pre
  have hown : s.vm.findClass RX5 = some mQ.cls := findClass_of_methodNamed B.named
  have hlocks : meth.locks = false := B.notSynchronized
  have hin : meth.name = "<init>" := (name_of_methodNamed B.named B.method).1
  have hS0 : CallFix pQ mQ cQ cX5_init 1 s ([.ref b] : List Value).toArray wsX5_init RX5 := ⟨hx, hb, hml, hown, hts⟩
  subst hsz
  have hD := hD0.self (sz := s.heap.size)
  generalize hAe : va_A (wN5 kA b) s.heap.size = A at hD ⊢
  have hA : ∀ q : Nat, s.heap.size ≤ q → A q := fun q h => by rw [← hAe]; exact Or.inr h
  have hS : va_S A s.heap s.heap [] := va_S.rf
  have m1 : (Cond.methodLink RX5 1 objectInit).before ([.ref b] : List Value).toArray s = true := hts _ (by decide +kernel)
  have moi : (Cond.instanceMethod objectInit).before ([.ref b] : List Value).toArray s = true := hts _ (by decide +kernel)
  have moc : (Cond.code objectInit ⟨#[0xb1]⟩ 1 none).before ([.ref b] : List Value).toArray s = true := hts _ (by decide +kernel)
  have cl7 : (Cond.classLink RX5 7 RX4).before ([.ref b] : List Value).toArray s = true := hts _ (by decide +kernel)
  have inst4 : (Cond.instantiable RX4 8).before ([.ref b] : List Value).toArray s = true := hts _ (by decide +kernel)
  have init4 : (Cond.initialized RX4).before ([.ref b] : List Value).toArray s = true := hts _ (by decide +kernel)
  have hinX4 : ∀ w ∈ wsX40, w ∈ wsX5_init := by decide +kernel
  have imX4 : (Cond.instanceMethod yX4_init).before ([.ref b] : List Value).toArray s = true := hts _ (by decide +kernel)
  have f10 : (Cond.fieldLink RX5 10 "AskedRules" "table" "LAskedRules$Table;").before ([.ref b] : List Value).toArray s = true := hts _ (by decide +kernel)
  have hinX5 : ∀ w ∈ wsX50, w ∈ wsX5_init := by decide +kernel
  have cl16 : (Cond.classLink RX5 16 RX0).before ([.ref b] : List Value).toArray s = true := hts _ (by decide +kernel)
  have inst0 : (Cond.instantiable RX0 13).before ([.ref b] : List Value).toArray s = true := hts _ (by decide +kernel)
  have init0 : (Cond.initialized RX0).before ([.ref b] : List Value).toArray s = true := hts _ (by decide +kernel)
  have hinX0 : ∀ w ∈ wsX00, w ∈ wsX5_init := by decide +kernel
  have imX0 : (Cond.instanceMethod yX0_init).before ([.ref b] : List Value).toArray s = true := hts _ (by decide +kernel)
  have ml18 : (Cond.methodLink RX5 18 yX0_init).before ([.ref b] : List Value).toArray s = true := hts _ (by decide +kernel)
  have f21 : (Cond.fieldLink RX5 21 "AskedRules" "cases" "LAskedRules$Cases;").before ([.ref b] : List Value).toArray s = true := hts _ (by decide +kernel)
  have cl25 : (Cond.classLink RX5 25 RX2).before ([.ref b] : List Value).toArray s = true := hts _ (by decide +kernel)
  have inst2 : (Cond.instantiable RX2 5).before ([.ref b] : List Value).toArray s = true := hts _ (by decide +kernel)
  have init2 : (Cond.initialized RX2).before ([.ref b] : List Value).toArray s = true := hts _ (by decide +kernel)
  have hinX2 : ∀ w ∈ wsX20, w ∈ wsX5_init := by decide +kernel
  have imX2 : (Cond.instanceMethod yX2_init).before ([.ref b] : List Value).toArray s = true := hts _ (by decide +kernel)
  have ml27 : (Cond.methodLink RX5 27 yX2_init).before ([.ref b] : List Value).toArray s = true := hts _ (by decide +kernel)
  have f30 : (Cond.fieldLink RX5 30 "AskedRules" "plans" "LAskedRules$Plans;").before ([.ref b] : List Value).toArray s = true := hts _ (by decide +kernel)
  have cl34 : (Cond.classLink RX5 34 RX1).before ([.ref b] : List Value).toArray s = true := hts _ (by decide +kernel)
  have inst1 : (Cond.instantiable RX1 2).before ([.ref b] : List Value).toArray s = true := hts _ (by decide +kernel)
  have init1 : (Cond.initialized RX1).before ([.ref b] : List Value).toArray s = true := hts _ (by decide +kernel)
  have hinX1 : ∀ w ∈ wsX10, w ∈ wsX5_init := by decide +kernel
  have imX1 : (Cond.instanceMethod yX1_init).before ([.ref b] : List Value).toArray s = true := hts _ (by decide +kernel)
  have ml36 : (Cond.methodLink RX5 36 yX1_init).before ([.ref b] : List Value).toArray s = true := hts _ (by decide +kernel)
  have f37 : (Cond.fieldLink RX5 37 "AskedRules" "history" "LAskedRules$History;").before ([.ref b] : List Value).toArray s = true := hts _ (by decide +kernel)
  have cl41 : (Cond.classLink RX5 41 RX3).before ([.ref b] : List Value).toArray s = true := hts _ (by decide +kernel)
  have inst3 : (Cond.instantiable RX3 8).before ([.ref b] : List Value).toArray s = true := hts _ (by decide +kernel)
  have init3 : (Cond.initialized RX3).before ([.ref b] : List Value).toArray s = true := hts _ (by decide +kernel)
  have hinX3 : ∀ w ∈ wsX30, w ∈ wsX5_init := by decide +kernel
  have imX3 : (Cond.instanceMethod yX3_init).before ([.ref b] : List Value).toArray s = true := hts _ (by decide +kernel)
  have ml43 : (Cond.methodLink RX5 43 yX3_init).before ([.ref b] : List Value).toArray s = true := hts _ (by decide +kernel)
  have f44 : (Cond.fieldLink RX5 44 "AskedRules" "script" "LAskedRules$Script;").before ([.ref b] : List Value).toArray s = true := hts _ (by decide +kernel)
  have f48 : (Cond.fieldLink RX5 48 "AskedRules" "casesStale" "Z").before ([.ref b] : List Value).toArray s = true := hts _ (by decide +kernel)
  have f52 : (Cond.fieldLink RX5 52 "AskedRules" "plansStale" "Z").before ([.ref b] : List Value).toArray s = true := hts _ (by decide +kernel)
  have hl := lv_entry ([.ref b]) (n := 1) (Nat.le_of_ble_eq_true rfl)
  rw [lg_entry_eq]
  generalize (lg_sl ([.ref b]) ++ List.replicate (1 - (lg_sl ([.ref b])).length) Slot.unset).toArray = ls at hl ⊢
  have hl : lv_has ls 1 [(0, .ref b)] := hl
  have hP : va_P D vwCl (wN5 kA b) s.heap := hP
  have hD : va_D A (wN5 kA b) := hD
  refine lv_aload_n hx hb dX5_init_0 rfl (lv_at hl 0 rfl) ?_
  refine W.objInit hx hb hown m1 moi moc rfl (by rw [hml]; exact hl.1) rfl dX5_init_1 (Nat.le_of_ble_eq_true rfl) (Nat.le_of_ble_eq_true rfl) ?_
  refine W.eq (g2 := F0 mQ 4 ls []) rfl ?_
  refine lv_aload_n hx hb dX5_init_4 rfl (lv_at hl 0 rfl) ?_
  refine va_new (ci := 4) (C := RX4) (T := TX4) (N := 8) hx hb hts hinX4 tyX4 tyX4_ok hown cl7 inst4 init4 hK hP hD hS hA rfl defX4 (Nat.le_of_ble_eq_true rfl) (Nat.le_of_ble_eq_true rfl) dX5_init_5 (fun t5_1 H hP hD hS => ?_)
  have hP : va_P D vwCl ((wN5 kA b) ++ (wN4 kA t5_1)) H := hP
  have hD : va_D A ((wN5 kA b) ++ (wN4 kA t5_1)) := hD
  refine lv_dup hx hb dX5_init_8 rfl ?_
  refine n_wIvH (b := t5_1) (As := []) (rest := [.ref t5_1, .ref b]) (wr := (wN5 kA b)) (ws' := fun u => ((wN5 kA b) ++ (wT kA (conF t5_1 u) 0 (fun _ => 0) (fun _ => 0) 0 0 (fun _ => 0) (fun _ => 0) (fun _ => 0)))) hS0 (c_X4_init lQ D kA t5_1 H.size) ⟨va_cnB 0 hts gX5_init_X4_init_n9 rfl rfl rfl hN.2.1 init4 (by decide +kernel) ⟨Nat.le_of_ble_eq_true rfl, Nat.le_of_ble_eq_true rfl⟩, rfl, imX4⟩ hP hD hS hA hK hK (by simpa only [List.append_assoc, List.append_nil] using List.perm_append_comm) (fun u => List.Perm.symm (by simpa only [List.append_assoc, List.append_nil] using List.perm_append_comm)) rfl rfl hl.1 (Nat.le_of_ble_eq_true rfl) dX5_init_9 ⟨Nat.le_of_ble_eq_true rfl, Nat.le_of_ble_eq_true rfl⟩ (fun u9_2 H locs h9 hP hD hS => ?_)
  obtain ⟨u9_u9_2, rfl⟩ : ∃ z, z = u9_2 := ⟨_, rfl⟩
  have hP : va_P D vwCl ((wN5 kA b) ++ (wT kA (conF t5_1 u9_u9_2) 0 (fun _ => 0) (fun _ => 0) 0 0 (fun _ => 0) (fun _ => 0) (fun _ => 0))) H := hP
  have hD : va_D A ((wN5 kA b) ++ (wT kA (conF t5_1 u9_u9_2) 0 (fun _ => 0) (fun _ => 0) 0 0 (fun _ => 0) (fun _ => 0) (fun _ => 0))) := hD
  refine n_putF (ci := 5) (v := .ref t5_1) (C := RX5) (T := TX5) (N := 7) (ws' := ([(b, .inr (5, [.ref t5_1, .null, .null, .null, .null, .int (bI false), .int (bI false)]))] ++ (wT kA (conF t5_1 u9_u9_2) 0 (fun _ => 0) (fun _ => 0) 0 0 (fun _ => 0) (fun _ => 0) (fun _ => 0)))) hx hb hts hinX5 tyX5 tyX5_ok nmX5 hown hK hP hD hS 0 rfl rfl 0 rfl ⟨rfl, rfl, rfl, rfl⟩ f10 hin rfl rfl rfl rfl dX5_init_12 (fun H locs hP hD hS => ?_)
  refine lv_aload_n hx hb dX5_init_15 rfl (lv_at hl 0 rfl) ?_
  refine va_new (ci := 0) (C := RX0) (T := TX0) (N := 13) hx hb hts hinX0 tyX0 tyX0_ok hown cl16 inst0 init0 hK hP hD hS hA rfl defX0 (Nat.le_of_ble_eq_true rfl) (Nat.le_of_ble_eq_true rfl) dX5_init_16 (fun t16_3 H hP hD hS => ?_)
  have hP : va_P D vwCl ([(b, .inr (5, [.ref t5_1, .null, .null, .null, .null, .int (bI false), .int (bI false)]))] ++ ((wT kA (conF t5_1 u9_u9_2) 0 (fun _ => 0) (fun _ => 0) 0 0 (fun _ => 0) (fun _ => 0) (fun _ => 0)) ++ (wN0 kA t16_3))) H := hP
  have hD : va_D A ([(b, .inr (5, [.ref t5_1, .null, .null, .null, .null, .int (bI false), .int (bI false)]))] ++ ((wT kA (conF t5_1 u9_u9_2) 0 (fun _ => 0) (fun _ => 0) 0 0 (fun _ => 0) (fun _ => 0) (fun _ => 0)) ++ (wN0 kA t16_3))) := hD
  refine lv_dup hx hb dX5_init_19 rfl ?_
  refine lv_aload_n hx hb dX5_init_20 rfl (lv_at hl 0 rfl) ?_
  refine n_get (ci := 5) (v := .ref t5_1) (C := RX5) (T := TX5) (N := 7) hx hb hts hinX5 hown hK hP 0 rfl rfl 0 rfl ⟨rfl, rfl, rfl⟩ f10 rfl dX5_init_21 ?_
  refine n_wIv (b := t16_3) (As := [.ref t5_1]) (rest := [.ref t16_3, .ref b]) (wr := ([(b, .inr (5, [.ref t5_1, .null, .null, .null, .null, .int (bI false), .int (bI false)]))] ++ (wT kA (conF t5_1 u9_u9_2) 0 (fun _ => 0) (fun _ => 0) 0 0 (fun _ => 0) (fun _ => 0) (fun _ => 0)))) (ws' := fun u => ([(b, .inr (5, [.ref t5_1, .null, .null, .null, .null, .int (bI false), .int (bI false)]))] ++ ((wT kA (conF t5_1 u9_u9_2) 0 (fun _ => 0) (fun _ => 0) 0 0 (fun _ => 0) (fun _ => 0) (fun _ => 0)) ++ (wC kA (conF t16_3 u) (conF t5_1 u9_u9_2) 0 (fun _ => 0) (fun _ => 0) (fun _ => some 0) (fun _ => some 0) (fun _ => 0) (fun _ => 0) (fun _ => false) (fun _ => 0) 0 0 0)))) hS0 (c_X0_init lQ D kA t16_3 (conF t5_1 u9_u9_2) H.size) ⟨callB_of 1 hts gX5_init_X0_init rfl rfl rfl init0 ml18 (by decide +kernel) ⟨Nat.le_of_ble_eq_true rfl, Nat.le_of_ble_eq_true rfl⟩, rfl, imX0⟩ hP hD hS hA hK hK (by simpa only [List.append_assoc, List.append_nil] using ((List.Perm.append_left _ List.perm_append_comm).trans (List.perm_append_comm_assoc _ _ _))) (fun u => List.Perm.symm (by simpa only [List.append_assoc, List.append_nil] using ((List.Perm.append_left _ List.perm_append_comm).trans (List.perm_append_comm_assoc _ _ _)))) rfl rfl hl.1 (Nat.le_of_ble_eq_true rfl) dX5_init_24 ⟨Nat.le_of_ble_eq_true rfl, Nat.le_of_ble_eq_true rfl⟩ (fun u24_4 H locs h24 hP hD hS => ?_)
  obtain ⟨u9_u24_4, rfl⟩ : ∃ z, z = u24_4 := ⟨_, rfl⟩
  have hP : va_P D vwCl ([(b, .inr (5, [.ref t5_1, .null, .null, .null, .null, .int (bI false), .int (bI false)]))] ++ ((wT kA (conF t5_1 u9_u9_2) 0 (fun _ => 0) (fun _ => 0) 0 0 (fun _ => 0) (fun _ => 0) (fun _ => 0)) ++ (wC kA (conF t16_3 u9_u24_4) (conF t5_1 u9_u9_2) 0 (fun _ => 0) (fun _ => 0) (fun _ => some 0) (fun _ => some 0) (fun _ => 0) (fun _ => 0) (fun _ => false) (fun _ => 0) 0 0 0))) H := hP
  have hD : va_D A ([(b, .inr (5, [.ref t5_1, .null, .null, .null, .null, .int (bI false), .int (bI false)]))] ++ ((wT kA (conF t5_1 u9_u9_2) 0 (fun _ => 0) (fun _ => 0) 0 0 (fun _ => 0) (fun _ => 0) (fun _ => 0)) ++ (wC kA (conF t16_3 u9_u24_4) (conF t5_1 u9_u9_2) 0 (fun _ => 0) (fun _ => 0) (fun _ => some 0) (fun _ => some 0) (fun _ => 0) (fun _ => 0) (fun _ => false) (fun _ => 0) 0 0 0))) := hD
  refine n_putF (ci := 5) (v := .ref t16_3) (C := RX5) (T := TX5) (N := 7) (ws' := ([(b, .inr (5, [.ref t5_1, .ref t16_3, .null, .null, .null, .int (bI false), .int (bI false)]))] ++ ((wT kA (conF t5_1 u9_u9_2) 0 (fun _ => 0) (fun _ => 0) 0 0 (fun _ => 0) (fun _ => 0) (fun _ => 0)) ++ (wC kA (conF t16_3 u9_u24_4) (conF t5_1 u9_u9_2) 0 (fun _ => 0) (fun _ => 0) (fun _ => some 0) (fun _ => some 0) (fun _ => 0) (fun _ => 0) (fun _ => false) (fun _ => 0) 0 0 0)))) hx hb hts hinX5 tyX5 tyX5_ok nmX5 hown hK hP hD hS 0 rfl rfl 1 rfl ⟨rfl, rfl, rfl, rfl⟩ f21 hin rfl rfl rfl rfl dX5_init_27 (fun H locs hP hD hS => ?_)
  refine lv_aload_n hx hb dX5_init_30 rfl (lv_at hl 0 rfl) ?_
  refine va_new (ci := 2) (C := RX2) (T := TX2) (N := 5) hx hb hts hinX2 tyX2 tyX2_ok hown cl25 inst2 init2 hK hP hD hS hA rfl defX2 (Nat.le_of_ble_eq_true rfl) (Nat.le_of_ble_eq_true rfl) dX5_init_31 (fun t31_5 H hP hD hS => ?_)
  have hP : va_P D vwCl ([(b, .inr (5, [.ref t5_1, .ref t16_3, .null, .null, .null, .int (bI false), .int (bI false)]))] ++ ((wT kA (conF t5_1 u9_u9_2) 0 (fun _ => 0) (fun _ => 0) 0 0 (fun _ => 0) (fun _ => 0) (fun _ => 0)) ++ ((wC kA (conF t16_3 u9_u24_4) (conF t5_1 u9_u9_2) 0 (fun _ => 0) (fun _ => 0) (fun _ => some 0) (fun _ => some 0) (fun _ => 0) (fun _ => 0) (fun _ => false) (fun _ => 0) 0 0 0) ++ (wN2 kA t31_5)))) H := hP
  have hD : va_D A ([(b, .inr (5, [.ref t5_1, .ref t16_3, .null, .null, .null, .int (bI false), .int (bI false)]))] ++ ((wT kA (conF t5_1 u9_u9_2) 0 (fun _ => 0) (fun _ => 0) 0 0 (fun _ => 0) (fun _ => 0) (fun _ => 0)) ++ ((wC kA (conF t16_3 u9_u24_4) (conF t5_1 u9_u9_2) 0 (fun _ => 0) (fun _ => 0) (fun _ => some 0) (fun _ => some 0) (fun _ => 0) (fun _ => 0) (fun _ => false) (fun _ => 0) 0 0 0) ++ (wN2 kA t31_5)))) := hD
  refine lv_dup hx hb dX5_init_34 rfl ?_
  refine lv_aload_n hx hb dX5_init_35 rfl (lv_at hl 0 rfl) ?_
  refine n_get (ci := 5) (v := .ref t5_1) (C := RX5) (T := TX5) (N := 7) hx hb hts hinX5 hown hK hP 0 rfl rfl 0 rfl ⟨rfl, rfl, rfl⟩ f10 rfl dX5_init_36 ?_
  refine lv_aload_n hx hb dX5_init_39 rfl (lv_at hl 0 rfl) ?_
  refine n_get (ci := 5) (v := .ref t16_3) (C := RX5) (T := TX5) (N := 7) hx hb hts hinX5 hown hK hP 0 rfl rfl 1 rfl ⟨rfl, rfl, rfl⟩ f21 rfl dX5_init_40 ?_
  refine n_wIv (b := t31_5) (As := [.ref t5_1, .ref t16_3]) (rest := [.ref t31_5, .ref b]) (wr := ([(b, .inr (5, [.ref t5_1, .ref t16_3, .null, .null, .null, .int (bI false), .int (bI false)]))] ++ ((wT kA (conF t5_1 u9_u9_2) 0 (fun _ => 0) (fun _ => 0) 0 0 (fun _ => 0) (fun _ => 0) (fun _ => 0)) ++ (wC kA (conF t16_3 u9_u24_4) (conF t5_1 u9_u9_2) 0 (fun _ => 0) (fun _ => 0) (fun _ => some 0) (fun _ => some 0) (fun _ => 0) (fun _ => 0) (fun _ => false) (fun _ => 0) 0 0 0)))) (ws' := fun u => ([(b, .inr (5, [.ref t5_1, .ref t16_3, .null, .null, .null, .int (bI false), .int (bI false)]))] ++ ((wT kA (conF t5_1 u9_u9_2) 0 (fun _ => 0) (fun _ => 0) 0 0 (fun _ => 0) (fun _ => 0) (fun _ => 0)) ++ ((wC kA (conF t16_3 u9_u24_4) (conF t5_1 u9_u9_2) 0 (fun _ => 0) (fun _ => 0) (fun _ => some 0) (fun _ => some 0) (fun _ => 0) (fun _ => 0) (fun _ => false) (fun _ => 0) 0 0 0) ++ (wP kA (conF t31_5 u) (conF t5_1 u9_u9_2) (conF t16_3 u9_u24_4) (fun _ => 0) (fun _ => 0) (fun _ => 0)))))) hS0 (c_X2_init lQ D kA t31_5 (conF t5_1 u9_u9_2) (conF t16_3 u9_u24_4) H.size) ⟨callB_of 2 hts gX5_init_X2_init rfl rfl rfl init2 ml27 (by decide +kernel) ⟨Nat.le_of_ble_eq_true rfl, Nat.le_of_ble_eq_true rfl⟩, rfl, imX2⟩ hP hD hS hA hK hK (by simpa only [List.append_assoc, List.append_nil] using ((List.Perm.append_left _ ((List.Perm.append_left _ List.perm_append_comm).trans (List.perm_append_comm_assoc _ _ _))).trans (List.perm_append_comm_assoc _ _ _))) (fun u => List.Perm.symm (by simpa only [List.append_assoc, List.append_nil] using ((List.Perm.append_left _ ((List.Perm.append_left _ List.perm_append_comm).trans (List.perm_append_comm_assoc _ _ _))).trans (List.perm_append_comm_assoc _ _ _)))) rfl rfl hl.1 (Nat.le_of_ble_eq_true rfl) dX5_init_43 ⟨Nat.le_of_ble_eq_true rfl, Nat.le_of_ble_eq_true rfl⟩ (fun u43_6 H locs h43 hP hD hS => ?_)
  obtain ⟨u9_u43_6, rfl⟩ : ∃ z, z = u43_6 := ⟨_, rfl⟩
  have hP : va_P D vwCl ([(b, .inr (5, [.ref t5_1, .ref t16_3, .null, .null, .null, .int (bI false), .int (bI false)]))] ++ ((wT kA (conF t5_1 u9_u9_2) 0 (fun _ => 0) (fun _ => 0) 0 0 (fun _ => 0) (fun _ => 0) (fun _ => 0)) ++ ((wC kA (conF t16_3 u9_u24_4) (conF t5_1 u9_u9_2) 0 (fun _ => 0) (fun _ => 0) (fun _ => some 0) (fun _ => some 0) (fun _ => 0) (fun _ => 0) (fun _ => false) (fun _ => 0) 0 0 0) ++ (wP kA (conF t31_5 u9_u43_6) (conF t5_1 u9_u9_2) (conF t16_3 u9_u24_4) (fun _ => 0) (fun _ => 0) (fun _ => 0))))) H := hP
  have hD : va_D A ([(b, .inr (5, [.ref t5_1, .ref t16_3, .null, .null, .null, .int (bI false), .int (bI false)]))] ++ ((wT kA (conF t5_1 u9_u9_2) 0 (fun _ => 0) (fun _ => 0) 0 0 (fun _ => 0) (fun _ => 0) (fun _ => 0)) ++ ((wC kA (conF t16_3 u9_u24_4) (conF t5_1 u9_u9_2) 0 (fun _ => 0) (fun _ => 0) (fun _ => some 0) (fun _ => some 0) (fun _ => 0) (fun _ => 0) (fun _ => false) (fun _ => 0) 0 0 0) ++ (wP kA (conF t31_5 u9_u43_6) (conF t5_1 u9_u9_2) (conF t16_3 u9_u24_4) (fun _ => 0) (fun _ => 0) (fun _ => 0))))) := hD
  refine n_putF (ci := 5) (v := .ref t31_5) (C := RX5) (T := TX5) (N := 7) (ws' := ([(b, .inr (5, [.ref t5_1, .ref t16_3, .ref t31_5, .null, .null, .int (bI false), .int (bI false)]))] ++ ((wT kA (conF t5_1 u9_u9_2) 0 (fun _ => 0) (fun _ => 0) 0 0 (fun _ => 0) (fun _ => 0) (fun _ => 0)) ++ ((wC kA (conF t16_3 u9_u24_4) (conF t5_1 u9_u9_2) 0 (fun _ => 0) (fun _ => 0) (fun _ => some 0) (fun _ => some 0) (fun _ => 0) (fun _ => 0) (fun _ => false) (fun _ => 0) 0 0 0) ++ (wP kA (conF t31_5 u9_u43_6) (conF t5_1 u9_u9_2) (conF t16_3 u9_u24_4) (fun _ => 0) (fun _ => 0) (fun _ => 0)))))) hx hb hts hinX5 tyX5 tyX5_ok nmX5 hown hK hP hD hS 0 rfl rfl 2 rfl ⟨rfl, rfl, rfl, rfl⟩ f30 hin rfl rfl rfl rfl dX5_init_46 (fun H locs hP hD hS => ?_)
  refine lv_aload_n hx hb dX5_init_49 rfl (lv_at hl 0 rfl) ?_
  refine va_new (ci := 1) (C := RX1) (T := TX1) (N := 2) hx hb hts hinX1 tyX1 tyX1_ok hown cl34 inst1 init1 hK hP hD hS hA rfl defX1 (Nat.le_of_ble_eq_true rfl) (Nat.le_of_ble_eq_true rfl) dX5_init_50 (fun t50_7 H hP hD hS => ?_)
  have hP : va_P D vwCl ([(b, .inr (5, [.ref t5_1, .ref t16_3, .ref t31_5, .null, .null, .int (bI false), .int (bI false)]))] ++ ((wT kA (conF t5_1 u9_u9_2) 0 (fun _ => 0) (fun _ => 0) 0 0 (fun _ => 0) (fun _ => 0) (fun _ => 0)) ++ ((wC kA (conF t16_3 u9_u24_4) (conF t5_1 u9_u9_2) 0 (fun _ => 0) (fun _ => 0) (fun _ => some 0) (fun _ => some 0) (fun _ => 0) (fun _ => 0) (fun _ => false) (fun _ => 0) 0 0 0) ++ ((wP kA (conF t31_5 u9_u43_6) (conF t5_1 u9_u9_2) (conF t16_3 u9_u24_4) (fun _ => 0) (fun _ => 0) (fun _ => 0)) ++ (wN1 kA t50_7))))) H := hP
  have hD : va_D A ([(b, .inr (5, [.ref t5_1, .ref t16_3, .ref t31_5, .null, .null, .int (bI false), .int (bI false)]))] ++ ((wT kA (conF t5_1 u9_u9_2) 0 (fun _ => 0) (fun _ => 0) 0 0 (fun _ => 0) (fun _ => 0) (fun _ => 0)) ++ ((wC kA (conF t16_3 u9_u24_4) (conF t5_1 u9_u9_2) 0 (fun _ => 0) (fun _ => 0) (fun _ => some 0) (fun _ => some 0) (fun _ => 0) (fun _ => 0) (fun _ => false) (fun _ => 0) 0 0 0) ++ ((wP kA (conF t31_5 u9_u43_6) (conF t5_1 u9_u9_2) (conF t16_3 u9_u24_4) (fun _ => 0) (fun _ => 0) (fun _ => 0)) ++ (wN1 kA t50_7))))) := hD
  refine lv_dup hx hb dX5_init_53 rfl ?_
  refine n_wIvN hN (b := t50_7) (As := []) (rest := [.ref t50_7, .ref b]) (wr := ([(b, .inr (5, [.ref t5_1, .ref t16_3, .ref t31_5, .null, .null, .int (bI false), .int (bI false)]))] ++ ((wT kA (conF t5_1 u9_u9_2) 0 (fun _ => 0) (fun _ => 0) 0 0 (fun _ => 0) (fun _ => 0) (fun _ => 0)) ++ ((wC kA (conF t16_3 u9_u24_4) (conF t5_1 u9_u9_2) 0 (fun _ => 0) (fun _ => 0) (fun _ => some 0) (fun _ => some 0) (fun _ => 0) (fun _ => 0) (fun _ => false) (fun _ => 0) 0 0 0) ++ (wP kA (conF t31_5 u9_u43_6) (conF t5_1 u9_u9_2) (conF t16_3 u9_u24_4) (fun _ => 0) (fun _ => 0) (fun _ => 0)))))) (ws' := fun u => ([(b, .inr (5, [.ref t5_1, .ref t16_3, .ref t31_5, .null, .null, .int (bI false), .int (bI false)]))] ++ ((wT kA (conF t5_1 u9_u9_2) 0 (fun _ => 0) (fun _ => 0) 0 0 (fun _ => 0) (fun _ => 0) (fun _ => 0)) ++ ((wC kA (conF t16_3 u9_u24_4) (conF t5_1 u9_u9_2) 0 (fun _ => 0) (fun _ => 0) (fun _ => some 0) (fun _ => some 0) (fun _ => 0) (fun _ => 0) (fun _ => false) (fun _ => 0) 0 0 0) ++ ((wP kA (conF t31_5 u9_u43_6) (conF t5_1 u9_u9_2) (conF t16_3 u9_u24_4) (fun _ => 0) (fun _ => 0) (fun _ => 0)) ++ (wH kA (conF t50_7 u.1) 0 u.2)))))) hS0 (c_X1_init lQ D kA t50_7 H.size) ⟨callB_of 0 hts gX5_init_X1_init rfl rfl rfl init1 ml36 (by decide +kernel) ⟨Nat.le_of_ble_eq_true rfl, Nat.le_of_ble_eq_true rfl⟩, rfl, imX1⟩ hP hD hS hA hK hK (by simpa only [List.append_assoc, List.append_nil] using ((List.Perm.append_left _ ((List.Perm.append_left _ ((List.Perm.append_left _ List.perm_append_comm).trans (List.perm_append_comm_assoc _ _ _))).trans (List.perm_append_comm_assoc _ _ _))).trans (List.perm_append_comm_assoc _ _ _))) (fun u => List.Perm.symm (by simpa only [List.append_assoc, List.append_nil] using ((List.Perm.append_left _ ((List.Perm.append_left _ ((List.Perm.append_left _ List.perm_append_comm).trans (List.perm_append_comm_assoc _ _ _))).trans (List.perm_append_comm_assoc _ _ _))).trans (List.perm_append_comm_assoc _ _ _)))) rfl rfl hl.1 (Nat.le_of_ble_eq_true rfl) dX5_init_54 ⟨Nat.le_of_ble_eq_true rfl, Nat.le_of_ble_eq_true rfl⟩ (fun u54_8 H locs h54 hP hD hS => ?_)
  obtain ⟨u9_u54_8, sv9_u54_8⟩ := u54_8
  have hP : va_P D vwCl ([(b, .inr (5, [.ref t5_1, .ref t16_3, .ref t31_5, .null, .null, .int (bI false), .int (bI false)]))] ++ ((wT kA (conF t5_1 u9_u9_2) 0 (fun _ => 0) (fun _ => 0) 0 0 (fun _ => 0) (fun _ => 0) (fun _ => 0)) ++ ((wC kA (conF t16_3 u9_u24_4) (conF t5_1 u9_u9_2) 0 (fun _ => 0) (fun _ => 0) (fun _ => some 0) (fun _ => some 0) (fun _ => 0) (fun _ => 0) (fun _ => false) (fun _ => 0) 0 0 0) ++ ((wP kA (conF t31_5 u9_u43_6) (conF t5_1 u9_u9_2) (conF t16_3 u9_u24_4) (fun _ => 0) (fun _ => 0) (fun _ => 0)) ++ (wH kA (conF t50_7 u9_u54_8) 0 sv9_u54_8))))) H := hP
  have hD : va_D A ([(b, .inr (5, [.ref t5_1, .ref t16_3, .ref t31_5, .null, .null, .int (bI false), .int (bI false)]))] ++ ((wT kA (conF t5_1 u9_u9_2) 0 (fun _ => 0) (fun _ => 0) 0 0 (fun _ => 0) (fun _ => 0) (fun _ => 0)) ++ ((wC kA (conF t16_3 u9_u24_4) (conF t5_1 u9_u9_2) 0 (fun _ => 0) (fun _ => 0) (fun _ => some 0) (fun _ => some 0) (fun _ => 0) (fun _ => 0) (fun _ => false) (fun _ => 0) 0 0 0) ++ ((wP kA (conF t31_5 u9_u43_6) (conF t5_1 u9_u9_2) (conF t16_3 u9_u24_4) (fun _ => 0) (fun _ => 0) (fun _ => 0)) ++ (wH kA (conF t50_7 u9_u54_8) 0 sv9_u54_8))))) := hD
  refine n_putF (ci := 5) (v := .ref t50_7) (C := RX5) (T := TX5) (N := 7) (ws' := ([(b, .inr (5, [.ref t5_1, .ref t16_3, .ref t31_5, .ref t50_7, .null, .int (bI false), .int (bI false)]))] ++ ((wT kA (conF t5_1 u9_u9_2) 0 (fun _ => 0) (fun _ => 0) 0 0 (fun _ => 0) (fun _ => 0) (fun _ => 0)) ++ ((wC kA (conF t16_3 u9_u24_4) (conF t5_1 u9_u9_2) 0 (fun _ => 0) (fun _ => 0) (fun _ => some 0) (fun _ => some 0) (fun _ => 0) (fun _ => 0) (fun _ => false) (fun _ => 0) 0 0 0) ++ ((wP kA (conF t31_5 u9_u43_6) (conF t5_1 u9_u9_2) (conF t16_3 u9_u24_4) (fun _ => 0) (fun _ => 0) (fun _ => 0)) ++ (wH kA (conF t50_7 u9_u54_8) 0 sv9_u54_8)))))) hx hb hts hinX5 tyX5 tyX5_ok nmX5 hown hK hP hD hS 0 rfl rfl 3 rfl ⟨rfl, rfl, rfl, rfl⟩ f37 hin rfl rfl rfl rfl dX5_init_57 (fun H locs hP hD hS => ?_)
  refine lv_aload_n hx hb dX5_init_60 rfl (lv_at hl 0 rfl) ?_
  refine va_new (ci := 3) (C := RX3) (T := TX3) (N := 8) hx hb hts hinX3 tyX3 tyX3_ok hown cl41 inst3 init3 hK hP hD hS hA rfl defX3 (Nat.le_of_ble_eq_true rfl) (Nat.le_of_ble_eq_true rfl) dX5_init_61 (fun t61_9 H hP hD hS => ?_)
  have hP : va_P D vwCl ([(b, .inr (5, [.ref t5_1, .ref t16_3, .ref t31_5, .ref t50_7, .null, .int (bI false), .int (bI false)]))] ++ ((wT kA (conF t5_1 u9_u9_2) 0 (fun _ => 0) (fun _ => 0) 0 0 (fun _ => 0) (fun _ => 0) (fun _ => 0)) ++ ((wC kA (conF t16_3 u9_u24_4) (conF t5_1 u9_u9_2) 0 (fun _ => 0) (fun _ => 0) (fun _ => some 0) (fun _ => some 0) (fun _ => 0) (fun _ => 0) (fun _ => false) (fun _ => 0) 0 0 0) ++ ((wP kA (conF t31_5 u9_u43_6) (conF t5_1 u9_u9_2) (conF t16_3 u9_u24_4) (fun _ => 0) (fun _ => 0) (fun _ => 0)) ++ ((wH kA (conF t50_7 u9_u54_8) 0 sv9_u54_8) ++ (wN3 kA t61_9)))))) H := hP
  have hD : va_D A ([(b, .inr (5, [.ref t5_1, .ref t16_3, .ref t31_5, .ref t50_7, .null, .int (bI false), .int (bI false)]))] ++ ((wT kA (conF t5_1 u9_u9_2) 0 (fun _ => 0) (fun _ => 0) 0 0 (fun _ => 0) (fun _ => 0) (fun _ => 0)) ++ ((wC kA (conF t16_3 u9_u24_4) (conF t5_1 u9_u9_2) 0 (fun _ => 0) (fun _ => 0) (fun _ => some 0) (fun _ => some 0) (fun _ => 0) (fun _ => 0) (fun _ => false) (fun _ => 0) 0 0 0) ++ ((wP kA (conF t31_5 u9_u43_6) (conF t5_1 u9_u9_2) (conF t16_3 u9_u24_4) (fun _ => 0) (fun _ => 0) (fun _ => 0)) ++ ((wH kA (conF t50_7 u9_u54_8) 0 sv9_u54_8) ++ (wN3 kA t61_9)))))) := hD
  refine lv_dup hx hb dX5_init_64 rfl ?_
  refine lv_aload_n hx hb dX5_init_65 rfl (lv_at hl 0 rfl) ?_
  refine n_get (ci := 5) (v := .ref t5_1) (C := RX5) (T := TX5) (N := 7) hx hb hts hinX5 hown hK hP 0 rfl rfl 0 rfl ⟨rfl, rfl, rfl⟩ f10 rfl dX5_init_66 ?_
  refine n_wIv (b := t61_9) (As := [.ref t5_1]) (rest := [.ref t61_9, .ref b]) (wr := ([(b, .inr (5, [.ref t5_1, .ref t16_3, .ref t31_5, .ref t50_7, .null, .int (bI false), .int (bI false)]))] ++ ((wT kA (conF t5_1 u9_u9_2) 0 (fun _ => 0) (fun _ => 0) 0 0 (fun _ => 0) (fun _ => 0) (fun _ => 0)) ++ ((wC kA (conF t16_3 u9_u24_4) (conF t5_1 u9_u9_2) 0 (fun _ => 0) (fun _ => 0) (fun _ => some 0) (fun _ => some 0) (fun _ => 0) (fun _ => 0) (fun _ => false) (fun _ => 0) 0 0 0) ++ ((wP kA (conF t31_5 u9_u43_6) (conF t5_1 u9_u9_2) (conF t16_3 u9_u24_4) (fun _ => 0) (fun _ => 0) (fun _ => 0)) ++ (wH kA (conF t50_7 u9_u54_8) 0 sv9_u54_8)))))) (ws' := fun u => ([(b, .inr (5, [.ref t5_1, .ref t16_3, .ref t31_5, .ref t50_7, .null, .int (bI false), .int (bI false)]))] ++ ((wT kA (conF t5_1 u9_u9_2) 0 (fun _ => 0) (fun _ => 0) 0 0 (fun _ => 0) (fun _ => 0) (fun _ => 0)) ++ ((wC kA (conF t16_3 u9_u24_4) (conF t5_1 u9_u9_2) 0 (fun _ => 0) (fun _ => 0) (fun _ => some 0) (fun _ => some 0) (fun _ => 0) (fun _ => 0) (fun _ => false) (fun _ => 0) 0 0 0) ++ ((wP kA (conF t31_5 u9_u43_6) (conF t5_1 u9_u9_2) (conF t16_3 u9_u24_4) (fun _ => 0) (fun _ => 0) (fun _ => 0)) ++ ((wH kA (conF t50_7 u9_u54_8) 0 sv9_u54_8) ++ (wS kA (conF t61_9 u) (conF t5_1 u9_u9_2) (fun _ => 0) 0 0 (some 0) 0 0 (some 0)))))))) hS0 (c_X3_init lQ D kA t61_9 (conF t5_1 u9_u9_2) H.size) ⟨callB_of 1 hts gX5_init_X3_init rfl rfl rfl init3 ml43 (by decide +kernel) ⟨Nat.le_of_ble_eq_true rfl, Nat.le_of_ble_eq_true rfl⟩, rfl, imX3⟩ hP hD hS hA hK hK (by simpa only [List.append_assoc, List.append_nil] using ((List.Perm.append_left _ ((List.Perm.append_left _ ((List.Perm.append_left _ ((List.Perm.append_left _ List.perm_append_comm).trans (List.perm_append_comm_assoc _ _ _))).trans (List.perm_append_comm_assoc _ _ _))).trans (List.perm_append_comm_assoc _ _ _))).trans (List.perm_append_comm_assoc _ _ _))) (fun u => List.Perm.symm (by simpa only [List.append_assoc, List.append_nil] using ((List.Perm.append_left _ ((List.Perm.append_left _ ((List.Perm.append_left _ ((List.Perm.append_left _ List.perm_append_comm).trans (List.perm_append_comm_assoc _ _ _))).trans (List.perm_append_comm_assoc _ _ _))).trans (List.perm_append_comm_assoc _ _ _))).trans (List.perm_append_comm_assoc _ _ _)))) rfl rfl hl.1 (Nat.le_of_ble_eq_true rfl) dX5_init_69 ⟨Nat.le_of_ble_eq_true rfl, Nat.le_of_ble_eq_true rfl⟩ (fun u69_10 H locs h69 hP hD hS => ?_)
  obtain ⟨u9_u69_10, rfl⟩ : ∃ z, z = u69_10 := ⟨_, rfl⟩
  have hP : va_P D vwCl ([(b, .inr (5, [.ref t5_1, .ref t16_3, .ref t31_5, .ref t50_7, .null, .int (bI false), .int (bI false)]))] ++ ((wT kA (conF t5_1 u9_u9_2) 0 (fun _ => 0) (fun _ => 0) 0 0 (fun _ => 0) (fun _ => 0) (fun _ => 0)) ++ ((wC kA (conF t16_3 u9_u24_4) (conF t5_1 u9_u9_2) 0 (fun _ => 0) (fun _ => 0) (fun _ => some 0) (fun _ => some 0) (fun _ => 0) (fun _ => 0) (fun _ => false) (fun _ => 0) 0 0 0) ++ ((wP kA (conF t31_5 u9_u43_6) (conF t5_1 u9_u9_2) (conF t16_3 u9_u24_4) (fun _ => 0) (fun _ => 0) (fun _ => 0)) ++ ((wH kA (conF t50_7 u9_u54_8) 0 sv9_u54_8) ++ (wS kA (conF t61_9 u9_u69_10) (conF t5_1 u9_u9_2) (fun _ => 0) 0 0 (some 0) 0 0 (some 0))))))) H := hP
  have hD : va_D A ([(b, .inr (5, [.ref t5_1, .ref t16_3, .ref t31_5, .ref t50_7, .null, .int (bI false), .int (bI false)]))] ++ ((wT kA (conF t5_1 u9_u9_2) 0 (fun _ => 0) (fun _ => 0) 0 0 (fun _ => 0) (fun _ => 0) (fun _ => 0)) ++ ((wC kA (conF t16_3 u9_u24_4) (conF t5_1 u9_u9_2) 0 (fun _ => 0) (fun _ => 0) (fun _ => some 0) (fun _ => some 0) (fun _ => 0) (fun _ => 0) (fun _ => false) (fun _ => 0) 0 0 0) ++ ((wP kA (conF t31_5 u9_u43_6) (conF t5_1 u9_u9_2) (conF t16_3 u9_u24_4) (fun _ => 0) (fun _ => 0) (fun _ => 0)) ++ ((wH kA (conF t50_7 u9_u54_8) 0 sv9_u54_8) ++ (wS kA (conF t61_9 u9_u69_10) (conF t5_1 u9_u9_2) (fun _ => 0) 0 0 (some 0) 0 0 (some 0))))))) := hD
  refine n_putF (ci := 5) (v := .ref t61_9) (C := RX5) (T := TX5) (N := 7) (ws' := ([(b, .inr (5, [.ref t5_1, .ref t16_3, .ref t31_5, .ref t50_7, .ref t61_9, .int (bI false), .int (bI false)]))] ++ ((wT kA (conF t5_1 u9_u9_2) 0 (fun _ => 0) (fun _ => 0) 0 0 (fun _ => 0) (fun _ => 0) (fun _ => 0)) ++ ((wC kA (conF t16_3 u9_u24_4) (conF t5_1 u9_u9_2) 0 (fun _ => 0) (fun _ => 0) (fun _ => some 0) (fun _ => some 0) (fun _ => 0) (fun _ => 0) (fun _ => false) (fun _ => 0) 0 0 0) ++ ((wP kA (conF t31_5 u9_u43_6) (conF t5_1 u9_u9_2) (conF t16_3 u9_u24_4) (fun _ => 0) (fun _ => 0) (fun _ => 0)) ++ ((wH kA (conF t50_7 u9_u54_8) 0 sv9_u54_8) ++ (wS kA (conF t61_9 u9_u69_10) (conF t5_1 u9_u9_2) (fun _ => 0) 0 0 (some 0) 0 0 (some 0)))))))) hx hb hts hinX5 tyX5 tyX5_ok nmX5 hown hK hP hD hS 0 rfl rfl 4 rfl ⟨rfl, rfl, rfl, rfl⟩ f44 hin rfl rfl rfl rfl dX5_init_72 (fun H locs hP hD hS => ?_)
  refine lv_aload_n hx hb dX5_init_75 rfl (lv_at hl 0 rfl) ?_
  refine lv_iconst (v := (nI 1)) hx hb dX5_init_76 (by decide) ?_
  refine n_put (ci := 5) (v := .int (bI true)) (C := RX5) (T := TX5) (N := 7) (ws' := ([(b, .inr (5, [.ref t5_1, .ref t16_3, .ref t31_5, .ref t50_7, .ref t61_9, .int (bI true), .int (bI false)]))] ++ ((wT kA (conF t5_1 u9_u9_2) 0 (fun _ => 0) (fun _ => 0) 0 0 (fun _ => 0) (fun _ => 0) (fun _ => 0)) ++ ((wC kA (conF t16_3 u9_u24_4) (conF t5_1 u9_u9_2) 0 (fun _ => 0) (fun _ => 0) (fun _ => some 0) (fun _ => some 0) (fun _ => 0) (fun _ => 0) (fun _ => false) (fun _ => 0) 0 0 0) ++ ((wP kA (conF t31_5 u9_u43_6) (conF t5_1 u9_u9_2) (conF t16_3 u9_u24_4) (fun _ => 0) (fun _ => 0) (fun _ => 0)) ++ ((wH kA (conF t50_7 u9_u54_8) 0 sv9_u54_8) ++ (wS kA (conF t61_9 u9_u69_10) (conF t5_1 u9_u9_2) (fun _ => 0) 0 0 (some 0) 0 0 (some 0)))))))) hx hb hts hinX5 tyX5 tyX5_ok nmX5 hown hK hP hD hS 0 rfl rfl 5 rfl ⟨rfl, rfl, rfl, rfl⟩ f48 (narrow_bI _) (fits_bI _) rfl rfl dX5_init_77 (fun H locs hP hD hS => ?_)
  refine lv_aload_n hx hb dX5_init_80 rfl (lv_at hl 0 rfl) ?_
  refine lv_iconst (v := (nI 1)) hx hb dX5_init_81 (by decide) ?_
  refine n_put (ci := 5) (v := .int (bI true)) (C := RX5) (T := TX5) (N := 7) (ws' := ([(b, .inr (5, [.ref t5_1, .ref t16_3, .ref t31_5, .ref t50_7, .ref t61_9, .int (bI true), .int (bI true)]))] ++ ((wT kA (conF t5_1 u9_u9_2) 0 (fun _ => 0) (fun _ => 0) 0 0 (fun _ => 0) (fun _ => 0) (fun _ => 0)) ++ ((wC kA (conF t16_3 u9_u24_4) (conF t5_1 u9_u9_2) 0 (fun _ => 0) (fun _ => 0) (fun _ => some 0) (fun _ => some 0) (fun _ => 0) (fun _ => 0) (fun _ => false) (fun _ => 0) 0 0 0) ++ ((wP kA (conF t31_5 u9_u43_6) (conF t5_1 u9_u9_2) (conF t16_3 u9_u24_4) (fun _ => 0) (fun _ => 0) (fun _ => 0)) ++ ((wH kA (conF t50_7 u9_u54_8) 0 sv9_u54_8) ++ (wS kA (conF t61_9 u9_u69_10) (conF t5_1 u9_u9_2) (fun _ => 0) 0 0 (some 0) 0 0 (some 0)))))))) hx hb hts hinX5 tyX5 tyX5_ok nmX5 hown hK hP hD hS 0 rfl rfl 6 rfl ⟨rfl, rfl, rfl, rfl⟩ f52 (narrow_bI _) (fits_bI _) rfl rfl dX5_init_82 (fun H locs hP hD hS => ?_)
  have hP : va_P D vwCl ((wM kA b (conF t5_1 u9_u9_2) (conF t16_3 u9_u24_4) (conF t31_5 u9_u43_6) (conF t50_7 u9_u54_8) (conF t61_9 u9_u69_10) true true) ++ ((wT kA (conF t5_1 u9_u9_2) 0 (fun _ => 0) (fun _ => 0) 0 0 (fun _ => 0) (fun _ => 0) (fun _ => 0)) ++ ((wC kA (conF t16_3 u9_u24_4) (conF t5_1 u9_u9_2) 0 (fun _ => 0) (fun _ => 0) (fun _ => some 0) (fun _ => some 0) (fun _ => 0) (fun _ => 0) (fun _ => false) (fun _ => 0) 0 0 0) ++ ((wP kA (conF t31_5 u9_u43_6) (conF t5_1 u9_u9_2) (conF t16_3 u9_u24_4) (fun _ => 0) (fun _ => 0) (fun _ => 0)) ++ ((wH kA (conF t50_7 u9_u54_8) 0 sv9_u54_8) ++ (wS kA (conF t61_9 u9_u69_10) (conF t5_1 u9_u9_2) (fun _ => 0) 0 0 (some 0) 0 0 (some 0))))))) H := hP
  have hD : va_D A ((wM kA b (conF t5_1 u9_u9_2) (conF t16_3 u9_u24_4) (conF t31_5 u9_u43_6) (conF t50_7 u9_u54_8) (conF t61_9 u9_u69_10) true true) ++ ((wT kA (conF t5_1 u9_u9_2) 0 (fun _ => 0) (fun _ => 0) 0 0 (fun _ => 0) (fun _ => 0) (fun _ => 0)) ++ ((wC kA (conF t16_3 u9_u24_4) (conF t5_1 u9_u9_2) 0 (fun _ => 0) (fun _ => 0) (fun _ => some 0) (fun _ => some 0) (fun _ => 0) (fun _ => 0) (fun _ => false) (fun _ => 0) 0 0 0) ++ ((wP kA (conF t31_5 u9_u43_6) (conF t5_1 u9_u9_2) (conF t16_3 u9_u24_4) (fun _ => 0) (fun _ => 0) (fun _ => 0)) ++ ((wH kA (conF t50_7 u9_u54_8) 0 sv9_u54_8) ++ (wS kA (conF t61_9 u9_u69_10) (conF t5_1 u9_u9_2) (fun _ => 0) 0 0 (some 0) 0 0 (some 0))))))) := hD
  exact n_wretv hx hb hr hlocks (post := fun (u : (Nat → Nat) × (Nat → Nat) × (Nat → Nat) × (Nat → Nat) × (Nat → Nat) × (Nat → TSt)) => True) (w1 := fun u => ((wM kA b u.1 u.2.1 u.2.2.1 u.2.2.2.1 u.2.2.2.2.1 true true) ++ ((wT kA u.1 0 (fun _ => 0) (fun _ => 0) 0 0 (fun _ => 0) (fun _ => 0) (fun _ => 0)) ++ ((wC kA u.2.1 u.1 0 (fun _ => 0) (fun _ => 0) (fun _ => some 0) (fun _ => some 0) (fun _ => 0) (fun _ => 0) (fun _ => false) (fun _ => 0) 0 0 0) ++ ((wP kA u.2.2.1 u.1 u.2.1 (fun _ => 0) (fun _ => 0) (fun _ => 0)) ++ ((wH kA u.2.2.2.1 0 u.2.2.2.2.2) ++ (wS kA u.2.2.2.2.1 u.1 (fun _ => 0) 0 0 (some 0) 0 0 (some 0)))))))) ((conF t5_1 u9_u9_2), (conF t16_3 u9_u24_4), (conF t31_5 u9_u43_6), (conF t50_7 u9_u54_8), (conF t61_9 u9_u69_10), sv9_u54_8) trivial hP hD hK hS hAe dX5_init_85

