section NJK
variable {p : Program} {l : Launch} {e : Env} {R : Room} {s : State} {m : MethodId} {args : Array Value} {below : List Frame} {meth : Method} {c : Code} {H : Heap} {locs : List Loc} {cells slots : Nat} {Q : State → Prop}
variable {cc : ByteArray} {pc : Nat} {ls : Array Slot} {rest : List Value} {D : va_G} {cl : List vw_C} {ws : va_W} {tys : List (ClassId × FieldType)} {a : Nat} {A : Nat → Prop} {H0 : Heap}
variable {y : MethodName} {bytes : ByteArray} {maxL nL mc ms n index : Nat} {ret : Option FieldType} {wsy : List Cond} {rm : Room} {Ts : List Cond} {own C : String} {b : Nat} {As st : List Value} {wc : va_W} {tysc : List (ClassId × FieldType)}
variable {adK adV : Nat → Nat}

/-- the length of a static or constant's row, and a byte of it -/
theorem n_tlen {cc : ByteArray} {A : Nat → Prop} (hx : p.tables.exec = Jvm.exec) (hb : c.code = cc) {t N : Nat} {ty : FieldType} {f : Nat → Value} (hT : va_T ty t N f A s s.heap) (hS : va_S A s.heap H locs) (hdg : decode cc pc = .ok (.arraylength, 1)) (k : W p l e R s m args below meth c H locs cells slots Q (F0 m (pc + 1) ls (.int (nI N) :: rest))) : W p l e R s m args below meth c H locs cells slots Q (F0 m pc ls (.ref t :: rest)) := by
  obtain ⟨cell, h1, h2, h3, h4, h5, h6, h7⟩ := hT
  have hl := (Array.getElem?_eq_some_iff.mp h1).1
  exact W.alen (n := nI N) hx hb (by rw [hS.2.1 t hl h7]; exact h1) h2 h5 rfl rfl hdg k
theorem n_tbald {cc : ByteArray} {A : Nat → Prop} (hx : p.tables.exec = Jvm.exec) (hb : c.code = cc) {t N : Nat} {f : Nat → Int32} (hT : va_T .byte t N (fun j => .int (f j)) A s s.heap) (hS : va_S A s.heap H locs) {i : Nat} (hi : i < N) (hN : N ≤ 100000) (hdg : decode cc pc = .ok (.baload, 1)) (k : W p l e R s m args below meth c H locs cells slots Q (F0 m (pc + 1) ls (.int (f i) :: rest))) : W p l e R s m args below meth c H locs cells slots Q (F0 m pc ls (.int (nI i) :: .ref t :: rest)) := by
  obtain ⟨cell, h1, h2, h3, h4, h5, h6, h7⟩ := hT
  have hl := (Array.getElem?_eq_some_iff.mp h1).1
  have hc : (nI i).toNatClampNeg = i := nI_clamp (by omega)
  refine W.bald (v := .int (f i)) hx hb (by rw [hS.2.1 t hl h7]; exact h1) h2 h3 ?_ (by rw [hc]; exact h6 i hi) rfl rfl hdg k
  rw [hc]
  rintro (h | h)
  · exact nI_pos (by omega) h
  · omega

theorem n_cVKE (hS0 : CallFix p m c cc nL s args Ts own) {post : Int32 → Prop} (hM : Met l y wsy rm (rdE_Pc D cl adK adV (.ref b :: As) wc tysc) (vp_Si post) 0 0 (fun _ => False)) (cw : CallW R s args own C index y bytes maxL ret wsy rm 0 0 n) (hP : va_P D cl wc H) (hK : va_K D cl tysc s) (hrec : ∃ cell : Cell, H[b]? = some cell ∧ cell.vm.isStatics = false ∧ s.vm.findClass C = some cell.cls) (hE : evS adK adV A s s.heap) (hS : va_S A s.heap H locs) (hst : st = As.reverse ++ .ref b :: rest) (hn : As.length = n) (hls : ls.size = nL) (hroom : (rest.map fun v => v.category).sum ≤ 8) (hdg : decode cc pc = .ok (.invokevirtual index, 3)) (hcs : cells ≤ R.cells ∧ slots ≤ R.slots) (kk : ∀ r : Int32, post r → W p l e R s m args below meth c H locs cells slots Q (F0 m (pc + 3) ls (.int r :: rest))) : W p l e R s m args below meth c H locs cells slots Q (F0 m pc ls st) := by
  subst hst
  refine vp_callSi (W.runV (As := As) (rest := rest) hS0 hM cw ⟨rdE_blind, ?_, fun U hU hW => ⟨rfl, by rw [hU]; exact hP, va_K.moved hW.alike hK, evS.go hE hS (fun _ h => h.elim) hU hW⟩⟩ rfl hn hls rfl (lv_room hroom) hdg hcs) kk
  exact hrec
theorem n_cSvE (hS0 : CallFix p m c cc nL s args Ts own) {post : Unit → Prop} (hM : Met l y wsy rm (rdE_Pc D cl adK adV As wc tysc) (va_Sv post) 0 0 (fun _ => False)) (cw : CallB R s args own index y bytes maxL ret wsy rm 0 0 n ∧ (Cond.static y).before args s = true) (hP : va_P D cl wc H) (hK : va_K D cl tysc s) (hE : evS adK adV A s s.heap) (hS : va_S A s.heap H locs) (hst : st = As.reverse ++ rest) (hn : As.length = n) (hls : ls.size = nL) (hroom : (rest.map fun v => v.category).sum ≤ 8) (hdg : decode cc pc = .ok (.invokestatic index, 3)) (hcs : cells ≤ R.cells ∧ slots ≤ R.slots) (kk : post () → W p l e R s m args below meth c H locs cells slots Q (F0 m (pc + 3) ls rest)) : W p l e R s m args below meth c H locs cells slots Q (F0 m pc ls st) := by
  subst hst
  exact va_csv (W.runS (As := As) (rest := rest) hS0 hM cw ⟨rdE_blind, fun U hU hW => ⟨rfl, by rw [hU]; exact hP, va_K.moved hW.alike hK, evS.go hE hS (fun _ h => h.elim) hU hW⟩⟩ rfl hn hls rfl (lv_room hroom) hdg hcs) kk
end NJK

def chN (i k : Nat) : Nat := (((bytW.getD i []).getD k 0) &&& 255).toNatClampNeg
theorem lenW_le : ∀ i, i < 4 → lenW.getD i 0 ≤ 5 := by decide +kernel
theorem chW_eq : ∀ i, i < 4 → ∀ k, k < lenW.getD i 0 → ((((bytW.getD i []).getD k 0) &&& nI 255).toUInt32 % 65536).toInt32 = nI (chN i k) := by decide +kernel
theorem chW_lt : ∀ i, i < 4 → ∀ k, k < lenW.getD i 0 → chN i k < 128 := by decide +kernel

set_option maxHeartbeats 4000000 in
set_option maxRecDepth 100000 in
theorem c_J0_coder_7d493 (lQ : Launch) (D : va_G) (kA : Nat → ClassId) (adK adV : Nat → Nat) (i : Nat) (hi : i < 4) : Met lQ yJ0_coder_7d493 wsJ0_coder_7d493 (rmN 0 0) (rdE_Pc D vwCl adK adV [.ref (adK i)] [] (tyK kA)) (vp_Si (fun r : Int32 => r = (nI 0))) 0 0 (fun _ => False) := by
  refine Met.ofW (cc := cJ0_coder_7d493) (maxL := 1) (ret := (some .byte)) (by decide) rfl ?_
  intro pQ eQ s mQ args below meth cQ s₁ B hml hv
  obtain ⟨rfl, hP, hK, hE⟩ := hv
  have hx := B.exec
  have hb := B.bytes
  have hr := B.returns
  have hts := atoms_spec (ws := wsJ0_coder_7d493) B.pre
  have hown : s.vm.findClass RJ0 = some mQ.cls := findClass_of_methodNamed B.named
  have hlocks : meth.locks = false := B.notSynchronized
  have hS0 : CallFix pQ mQ cQ cJ0_coder_7d493 1 s ([.ref (adK i)] : List Value).toArray wsJ0_coder_7d493 RJ0 := ⟨hx, hb, hml, hown, hts⟩
  have f38 : (Cond.fieldLink RJ0 38 "java/lang/String" "COMPACT_STRINGS" "Z").before ([.ref (adK i)] : List Value).toArray s = true := hts _ (by decide +kernel)
  have f15 : (Cond.fieldLink RJ0 15 "java/lang/String" "coder" "B").before ([.ref (adK i)] : List Value).toArray s = true := hts _ (by decide +kernel)
  have hl := lv_entry ([.ref (adK i)]) (n := 1) (Nat.le_of_ble_eq_true rfl)
  rw [lg_entry_eq]
  generalize (lg_sl ([.ref (adK i)]) ++ List.replicate (1 - (lg_sl ([.ref (adK i)])).length) Slot.unset).toArray = ls at hl ⊢
  have hl : lv_has ls 1 [(0, .ref (adK i))] := hl
  have hP : va_P D vwCl [] s.heap := hP
  refine va_gets (C := "java/lang/String") hx hb hE.2.2.2.2.1 va_S.rf hown f38 (fun _ h9 => h9) dJ0_coder_7d493_0 ?_
  refine lv_if_eq (tgt := 13) hx hb dJ0_coder_7d493_3 (by decide) (fun c3 => ?_) (fun c3 => ?_)
  · exact absurd c3 (by decide)
  · refine lv_aload_n hx hb dJ0_coder_7d493_6 rfl (lv_at hl 0 rfl) ?_
    refine vk_getf hx hb (hE.2.2.2.1.1.1 i hi).2.1 va_S.rf hown f15 (fun _ h9 => h9) dJ0_coder_7d493_7 ?_
    refine lv_goto (tgt := 14) hx hb dJ0_coder_7d493_10 (by decide) ?_
    exact n_retz hx hb hr hlocks (post := fun r : Int32 => r = (nI 0)) (by decide) (by decide) rfl dJ0_coder_7d493_14

set_option maxHeartbeats 4000000 in
set_option maxRecDepth 100000 in
theorem c_J0_isLatin1_aae02 (lQ : Launch) (D : va_G) (kA : Nat → ClassId) (adK adV : Nat → Nat) (i : Nat) (hi : i < 4) : Met lQ yJ0_isLatin1_aae02 wsJ0_isLatin1_aae02 (rmN 0 0) (rdE_Pc D vwCl adK adV [.ref (adK i)] [] (tyK kA)) (vp_Si (fun r : Int32 => r = (bI true))) 0 0 (fun _ => False) := by
  refine Met.ofW (cc := cJ0_isLatin1_aae02) (maxL := 1) (ret := (some .boolean)) (by decide) rfl ?_
  intro pQ eQ s mQ args below meth cQ s₁ B hml hv
  obtain ⟨rfl, hP, hK, hE⟩ := hv
  have hx := B.exec
  have hb := B.bytes
  have hr := B.returns
  have hts := atoms_spec (ws := wsJ0_isLatin1_aae02) B.pre
  have hown : s.vm.findClass RJ0 = some mQ.cls := findClass_of_methodNamed B.named
  have hlocks : meth.locks = false := B.notSynchronized
  have hS0 : CallFix pQ mQ cQ cJ0_isLatin1_aae02 1 s ([.ref (adK i)] : List Value).toArray wsJ0_isLatin1_aae02 RJ0 := ⟨hx, hb, hml, hown, hts⟩
  have f38 : (Cond.fieldLink RJ0 38 "java/lang/String" "COMPACT_STRINGS" "Z").before ([.ref (adK i)] : List Value).toArray s = true := hts _ (by decide +kernel)
  have f15 : (Cond.fieldLink RJ0 15 "java/lang/String" "coder" "B").before ([.ref (adK i)] : List Value).toArray s = true := hts _ (by decide +kernel)
  have hl := lv_entry ([.ref (adK i)]) (n := 1) (Nat.le_of_ble_eq_true rfl)
  rw [lg_entry_eq]
  generalize (lg_sl ([.ref (adK i)]) ++ List.replicate (1 - (lg_sl ([.ref (adK i)])).length) Slot.unset).toArray = ls at hl ⊢
  have hl : lv_has ls 1 [(0, .ref (adK i))] := hl
  have hP : va_P D vwCl [] s.heap := hP
  refine va_gets (C := "java/lang/String") hx hb hE.2.2.2.2.1 va_S.rf hown f38 (fun _ h9 => h9) dJ0_isLatin1_aae02_0 ?_
  refine lv_if_eq (tgt := 17) hx hb dJ0_isLatin1_aae02_3 (by decide) (fun c3 => ?_) (fun c3 => ?_)
  · exact absurd c3 (by decide)
  · refine lv_aload_n hx hb dJ0_isLatin1_aae02_6 rfl (lv_at hl 0 rfl) ?_
    refine vk_getf hx hb (hE.2.2.2.1.1.1 i hi).2.1 va_S.rf hown f15 (fun _ h9 => h9) dJ0_isLatin1_aae02_7 ?_
    refine lv_if_ne (tgt := 17) hx hb dJ0_isLatin1_aae02_10 (by decide) (fun c10 => ?_) (fun c10 => ?_)
    · exact absurd rfl c10
    · refine lv_iconst (v := (nI 1)) hx hb dJ0_isLatin1_aae02_13 (by decide) ?_
      refine lv_goto (tgt := 18) hx hb dJ0_isLatin1_aae02_14 (by decide) ?_
      exact n_retz hx hb hr hlocks (post := fun r : Int32 => r = (bI true)) rfl rfl rfl dJ0_isLatin1_aae02_18

set_option maxHeartbeats 4000000 in
set_option maxRecDepth 100000 in
theorem c_J0_length_8abf5 (lQ : Launch) (D : va_G) (kA : Nat → ClassId) (adK adV : Nat → Nat) (i : Nat) (hi : i < 4) : Met lQ yJ0_length_8abf5 wsJ0_length_8abf5 (rmN 1 20) (rdE_Pc D vwCl adK adV [.ref (adK i)] [] (tyK kA)) (vp_Si (fun r : Int32 => r = (nI (lenW.getD i 0)))) 0 0 (fun _ => False) := by
  refine Met.ofW (cc := cJ0_length_8abf5) (maxL := 1) (ret := (some .int)) (by decide) rfl ?_
  intro pQ eQ s mQ args below meth cQ s₁ B hml hv
  obtain ⟨rfl, hP, hK, hE⟩ := hv
  have hx := B.exec
  have hb := B.bytes
  have hr := B.returns
  have hts := atoms_spec (ws := wsJ0_length_8abf5) B.pre
  have hown : s.vm.findClass RJ0 = some mQ.cls := findClass_of_methodNamed B.named
  have hlocks : meth.locks = false := B.notSynchronized
  have hS0 : CallFix pQ mQ cQ cJ0_length_8abf5 1 s ([.ref (adK i)] : List Value).toArray wsJ0_length_8abf5 RJ0 := ⟨hx, hb, hml, hown, hts⟩
  have f9 : (Cond.fieldLink RJ0 9 "java/lang/String" "value" "[B").before ([.ref (adK i)] : List Value).toArray s = true := hts _ (by decide +kernel)
  have hl := lv_entry ([.ref (adK i)]) (n := 1) (Nat.le_of_ble_eq_true rfl)
  rw [lg_entry_eq]
  generalize (lg_sl ([.ref (adK i)]) ++ List.replicate (1 - (lg_sl ([.ref (adK i)])).length) Slot.unset).toArray = ls at hl ⊢
  have hl : lv_has ls 1 [(0, .ref (adK i))] := hl
  have hP : va_P D vwCl [] s.heap := hP
  have hlen := lenW_le i hi
  refine lv_aload_n hx hb dJ0_length_8abf5_0 rfl (lv_at hl 0 rfl) ?_
  refine vk_getf hx hb (hE.2.2.2.1.1.1 i hi).2.2.1 va_S.rf hown f9 (fun _ h9 => h9) dJ0_length_8abf5_1 ?_
  refine n_tlen hx hb (hE.2.2.2.1.1.1 i hi).2.2.2 va_S.rf dJ0_length_8abf5_4 ?_
  refine lv_aload_n hx hb dJ0_length_8abf5_5 rfl (lv_at hl 0 rfl) ?_
  refine n_cVKE (C := RJ0) (b := adK i) (As := []) (rest := [.int (nI (lenW.getD i 0))]) (wc := []) hS0 (c_J0_coder_7d493 lQ D kA adK adV i hi) (cwV 0 hts gJ0_length_8abf5_J0_coder_7d493 rfl rfl rfl (by decide +kernel) ⟨Nat.le_of_ble_eq_true rfl, Nat.le_of_ble_eq_true rfl⟩) hP hK (vk_recv hE.2.2.2.1.1 hi va_S.rf) hE va_S.rf rfl rfl hl.1 (Nat.le_of_ble_eq_true rfl) dJ0_length_8abf5_6 ⟨Nat.le_refl _, Nat.le_refl _⟩ (fun r6 h6 => ?_)
  subst h6
  refine n_ishr (v := (nI ((lenW.getD i 0) >>> 0))) hx hb (nN_shr (by omega) (by omega)) dJ0_length_8abf5_9 ?_
  exact n_reti hx hb hr hlocks (post := fun r : Int32 => r = (nI (lenW.getD i 0))) (by rw [Nat.shiftRight_zero]) rfl dJ0_length_8abf5_10

set_option maxHeartbeats 4000000 in
set_option maxRecDepth 100000 in
theorem c_J3n (lQ : Launch) (D : va_G) (kA : Nat → ClassId) (adK adV : Nat → Nat) (i : Nat) (n : Nat) (hin2 : i < n) (hnn : n ≤ 100000) : Met lQ yJ3_checkIndex_8e157 wsJ3_checkIndex_8e157 (rmN 0 0) (rdE_Pc D vwCl adK adV [.int (nI i), .int (nI n), .null] [] (tyK kA)) (vp_Si (fun r : Int32 => r = (nI i))) 0 0 (fun _ => False) := by
  refine Met.ofW (cc := cJ3_checkIndex_8e157) (maxL := 3) (ret := (some .int)) (by decide) rfl ?_
  intro pQ eQ s mQ args below meth cQ s₁ B hml hv
  obtain ⟨rfl, hP, hK, hE⟩ := hv
  have hx := B.exec
  have hb := B.bytes
  have hr := B.returns
  have hts := atoms_spec (ws := wsJ3_checkIndex_8e157) B.pre
  have hown : s.vm.findClass RJ3 = some mQ.cls := findClass_of_methodNamed B.named
  have hlocks : meth.locks = false := B.notSynchronized
  have hS0 : CallFix pQ mQ cQ cJ3_checkIndex_8e157 3 s ([.int (nI i), .int (nI n), .null] : List Value).toArray wsJ3_checkIndex_8e157 RJ3 := ⟨hx, hb, hml, hown, hts⟩
  skip
  have hl := lv_entry ([.int (nI i), .int (nI n), .null]) (n := 3) (Nat.le_of_ble_eq_true rfl)
  rw [lg_entry_eq]
  generalize (lg_sl ([.int (nI i), .int (nI n), .null]) ++ List.replicate (3 - (lg_sl ([.int (nI i), .int (nI n), .null])).length) Slot.unset).toArray = ls at hl ⊢
  have hl : lv_has ls 3 [(0, .int (nI i)), (1, .int (nI n)), (2, .null)] := hl
  have hP : va_P D vwCl [] s.heap := hP
  refine lv_iload_n hx hb dJ3_checkIndex_8e157_0 rfl (lv_at hl 0 rfl) ?_
  refine n_ifn_lt (a := i) (tgt := 9) hx hb (by omega) dJ3_checkIndex_8e157_1 (by decide) ?_
  refine lv_iload_n hx hb dJ3_checkIndex_8e157_4 rfl (lv_at hl 0 rfl) ?_
  refine lv_iload_n hx hb dJ3_checkIndex_8e157_5 rfl (lv_at hl 1 rfl) ?_
  refine n_icmp_lt (a := i) (b := n) (tgt := 16) hx hb (by omega) (by omega) dJ3_checkIndex_8e157_6 (by decide) (fun c6 => ?_) (fun c6 => ?_)
  · refine lv_iload_n hx hb dJ3_checkIndex_8e157_16 rfl (lv_at hl 0 rfl) ?_
    exact n_reti hx hb hr hlocks (post := fun r : Int32 => r = (nI i)) rfl rfl dJ3_checkIndex_8e157_17
  · exact absurd hin2 (by omega)

set_option maxHeartbeats 4000000 in
set_option maxRecDepth 100000 in
theorem c_J3r (lQ : Launch) (D : va_G) (kA : Nat → ClassId) (adK adV : Nat → Nat) (i : Nat) (n : Nat) (t : Nat) (hin2 : i < n) (hnn : n ≤ 100000) : Met lQ yJ3_checkIndex_8e157 wsJ3_checkIndex_8e157 (rmN 0 0) (rdE_Pc D vwCl adK adV [.int (nI i), .int (nI n), .ref t] [] (tyK kA)) (vp_Si (fun r : Int32 => r = (nI i))) 0 0 (fun _ => False) := by
  refine Met.ofW (cc := cJ3_checkIndex_8e157) (maxL := 3) (ret := (some .int)) (by decide) rfl ?_
  intro pQ eQ s mQ args below meth cQ s₁ B hml hv
  obtain ⟨rfl, hP, hK, hE⟩ := hv
  have hx := B.exec
  have hb := B.bytes
  have hr := B.returns
  have hts := atoms_spec (ws := wsJ3_checkIndex_8e157) B.pre
  have hown : s.vm.findClass RJ3 = some mQ.cls := findClass_of_methodNamed B.named
  have hlocks : meth.locks = false := B.notSynchronized
  have hS0 : CallFix pQ mQ cQ cJ3_checkIndex_8e157 3 s ([.int (nI i), .int (nI n), .ref t] : List Value).toArray wsJ3_checkIndex_8e157 RJ3 := ⟨hx, hb, hml, hown, hts⟩
  skip
  have hl := lv_entry ([.int (nI i), .int (nI n), .ref t]) (n := 3) (Nat.le_of_ble_eq_true rfl)
  rw [lg_entry_eq]
  generalize (lg_sl ([.int (nI i), .int (nI n), .ref t]) ++ List.replicate (3 - (lg_sl ([.int (nI i), .int (nI n), .ref t])).length) Slot.unset).toArray = ls at hl ⊢
  have hl : lv_has ls 3 [(0, .int (nI i)), (1, .int (nI n)), (2, .ref t)] := hl
  have hP : va_P D vwCl [] s.heap := hP
  refine lv_iload_n hx hb dJ3_checkIndex_8e157_0 rfl (lv_at hl 0 rfl) ?_
  refine n_ifn_lt (a := i) (tgt := 9) hx hb (by omega) dJ3_checkIndex_8e157_1 (by decide) ?_
  refine lv_iload_n hx hb dJ3_checkIndex_8e157_4 rfl (lv_at hl 0 rfl) ?_
  refine lv_iload_n hx hb dJ3_checkIndex_8e157_5 rfl (lv_at hl 1 rfl) ?_
  refine n_icmp_lt (a := i) (b := n) (tgt := 16) hx hb (by omega) (by omega) dJ3_checkIndex_8e157_6 (by decide) (fun c6 => ?_) (fun c6 => ?_)
  · refine lv_iload_n hx hb dJ3_checkIndex_8e157_16 rfl (lv_at hl 0 rfl) ?_
    exact n_reti hx hb hr hlocks (post := fun r : Int32 => r = (nI i)) rfl rfl dJ3_checkIndex_8e157_17
  · exact absurd hin2 (by omega)

set_option maxHeartbeats 4000000 in
set_option maxRecDepth 100000 in
theorem c_J0_checkIndex_df160 (lQ : Launch) (D : va_G) (kA : Nat → ClassId) (adK adV : Nat → Nat) (i : Nat) (n : Nat) (hin2 : i < n) (hnn : n ≤ 100000) : Met lQ yJ0_checkIndex_df160 wsJ0_checkIndex_df160 (rmN 1 22) (rdE_Pc D vwCl adK adV [.int (nI i), .int (nI n)] [] (tyK kA)) (va_Sv (fun _ => True)) 0 0 (fun _ => False) := by
  refine Met.ofW (cc := cJ0_checkIndex_df160) (maxL := 2) (ret := none) (by decide) rfl ?_
  intro pQ eQ s mQ args below meth cQ s₁ B hml hv
  obtain ⟨rfl, hP, hK, hE⟩ := hv
  have hx := B.exec
  have hb := B.bytes
  have hr := B.returns
  have hts := atoms_spec (ws := wsJ0_checkIndex_df160) B.pre
  have hown : s.vm.findClass RJ0 = some mQ.cls := findClass_of_methodNamed B.named
  have hlocks : meth.locks = false := B.notSynchronized
  have hS0 : CallFix pQ mQ cQ cJ0_checkIndex_df160 2 s ([.int (nI i), .int (nI n)] : List Value).toArray wsJ0_checkIndex_df160 RJ0 := ⟨hx, hb, hml, hown, hts⟩
  have f1053 : (Cond.fieldLink RJ0 1053 "jdk/internal/util/Preconditions" "SIOOBE_FORMATTER" "Ljava/util/function/BiFunction;").before ([.int (nI i), .int (nI n)] : List Value).toArray s = true := hts _ (by decide +kernel)
  have hl := lv_entry ([.int (nI i), .int (nI n)]) (n := 2) (Nat.le_of_ble_eq_true rfl)
  rw [lg_entry_eq]
  generalize (lg_sl ([.int (nI i), .int (nI n)]) ++ List.replicate (2 - (lg_sl ([.int (nI i), .int (nI n)])).length) Slot.unset).toArray = ls at hl ⊢
  have hl : lv_has ls 2 [(0, .int (nI i)), (1, .int (nI n))] := hl
  have hP : va_P D vwCl [] s.heap := hP
  refine lv_iload_n hx hb dJ0_checkIndex_df160_0 rfl (lv_at hl 0 rfl) ?_
  refine lv_iload_n hx hb dJ0_checkIndex_df160_1 rfl (lv_at hl 1 rfl) ?_
  rcases hE.2.2.2.2.2 with hq9 | ⟨t9, hq9⟩
  · refine va_gets (C := "jdk/internal/util/Preconditions") hx hb hq9 va_S.rf hown f1053 (fun _ h9 => h9) dJ0_checkIndex_df160_2 ?_
    refine n_cSE (As := [.int (nI i), .int (nI n), .null]) (rest := []) (wc := []) hS0 (c_J3n lQ D kA adK adV i n hin2 hnn) (va_cwS 3 hts gJ0_checkIndex_df160_J3_checkIndex_8e157 rfl rfl rfl (by decide +kernel) ⟨Nat.le_of_ble_eq_true rfl, Nat.le_of_ble_eq_true rfl⟩) hP hK hE va_S.rf rfl rfl hl.1 (Nat.le_of_ble_eq_true rfl) dJ0_checkIndex_df160_5 ⟨Nat.le_refl _, Nat.le_refl _⟩ (fun r5 h5 => ?_)
    subst h5
    refine lv_pop hx hb dJ0_checkIndex_df160_8 rfl ?_
    exact W.vret hx hb hr (fun t ht hW => ⟨rfl, trivial, by rw [ht]⟩) (fun q h => by cases h) dJ0_checkIndex_df160_9 hlocks
  · refine va_gets (C := "jdk/internal/util/Preconditions") hx hb hq9 va_S.rf hown f1053 (fun _ h9 => h9) dJ0_checkIndex_df160_2 ?_
    refine n_cSE (As := [.int (nI i), .int (nI n), .ref t9]) (rest := []) (wc := []) hS0 (c_J3r lQ D kA adK adV i n t9 hin2 hnn) (va_cwS 3 hts gJ0_checkIndex_df160_J3_checkIndex_8e157 rfl rfl rfl (by decide +kernel) ⟨Nat.le_of_ble_eq_true rfl, Nat.le_of_ble_eq_true rfl⟩) hP hK hE va_S.rf rfl rfl hl.1 (Nat.le_of_ble_eq_true rfl) dJ0_checkIndex_df160_5 ⟨Nat.le_refl _, Nat.le_refl _⟩ (fun r5 h5 => ?_)
    subst h5
    refine lv_pop hx hb dJ0_checkIndex_df160_8 rfl ?_
    exact W.vret hx hb hr (fun t ht hW => ⟨rfl, trivial, by rw [ht]⟩) (fun q h => by cases h) dJ0_checkIndex_df160_9 hlocks

set_option maxHeartbeats 4000000 in
set_option maxRecDepth 100000 in
theorem c_J1_charAt_3b067 (lQ : Launch) (D : va_G) (kA : Nat → ClassId) (adK adV : Nat → Nat) (k : Nat) (i : Nat) (hi : i < 4) (hk2 : k < lenW.getD i 0) : Met lQ yJ1_charAt_3b067 wsJ1_charAt_3b067 (rmN 2 43) (rdE_Pc D vwCl adK adV [.ref (adV i), .int (nI k)] [] (tyK kA)) (vp_Si (fun r : Int32 => r = (nI (chN i k)))) 0 0 (fun _ => False) := by
  refine Met.ofW (cc := cJ1_charAt_3b067) (maxL := 2) (ret := (some .char)) (by decide) rfl ?_
  intro pQ eQ s mQ args below meth cQ s₁ B hml hv
  obtain ⟨rfl, hP, hK, hE⟩ := hv
  have hx := B.exec
  have hb := B.bytes
  have hr := B.returns
  have hts := atoms_spec (ws := wsJ1_charAt_3b067) B.pre
  have hown : s.vm.findClass RJ1 = some mQ.cls := findClass_of_methodNamed B.named
  have hlocks : meth.locks = false := B.notSynchronized
  have hS0 : CallFix pQ mQ cQ cJ1_charAt_3b067 2 s ([.ref (adV i), .int (nI k)] : List Value).toArray wsJ1_charAt_3b067 RJ1 := ⟨hx, hb, hml, hown, hts⟩
  skip
  have hl := lv_entry ([.ref (adV i), .int (nI k)]) (n := 2) (Nat.le_of_ble_eq_true rfl)
  rw [lg_entry_eq]
  generalize (lg_sl ([.ref (adV i), .int (nI k)]) ++ List.replicate (2 - (lg_sl ([.ref (adV i), .int (nI k)])).length) Slot.unset).toArray = ls at hl ⊢
  have hl : lv_has ls 2 [(0, .ref (adV i)), (1, .int (nI k))] := hl
  have hP : va_P D vwCl [] s.heap := hP
  refine lv_iload_n hx hb dJ1_charAt_3b067_0 rfl (lv_at hl 1 rfl) ?_
  refine lv_aload_n hx hb dJ1_charAt_3b067_1 rfl (lv_at hl 0 rfl) ?_
  refine n_tlen hx hb (hE.2.2.2.1.1.1 i hi).2.2.2 va_S.rf dJ1_charAt_3b067_2 ?_
  refine n_cSvE (As := [.int (nI k), .int (nI (lenW.getD i 0))]) (rest := []) (wc := []) hS0 (c_J0_checkIndex_df160 lQ D kA adK adV k (lenW.getD i 0) hk2 (Nat.le_trans (lenW_le i hi) (by decide))) (va_cwS 2 hts gJ1_charAt_3b067_J0_checkIndex_df160 rfl rfl rfl (by decide +kernel) ⟨Nat.le_of_ble_eq_true rfl, Nat.le_of_ble_eq_true rfl⟩) hP hK hE va_S.rf rfl rfl hl.1 (Nat.le_of_ble_eq_true rfl) dJ1_charAt_3b067_3 ⟨Nat.le_refl _, Nat.le_refl _⟩ (fun _ => ?_)
  refine lv_aload_n hx hb dJ1_charAt_3b067_6 rfl (lv_at hl 0 rfl) ?_
  refine lv_iload_n hx hb dJ1_charAt_3b067_7 rfl (lv_at hl 1 rfl) ?_
  refine n_tbald (i := k) hx hb (hE.2.2.2.1.1.1 i hi).2.2.2 va_S.rf hk2 (Nat.le_trans (lenW_le i hi) (by decide)) dJ1_charAt_3b067_8 ?_
  refine lv_sipush (v := (nI 255)) hx hb dJ1_charAt_3b067_9 (by decide) ?_
  refine n_iand (v := (((bytW.getD i []).getD k 0) &&& (nI 255))) hx hb rfl dJ1_charAt_3b067_12 ?_
  refine lv_i2c (v := nI (chN i k)) hx hb dJ1_charAt_3b067_13 (chW_eq i hi k hk2) ?_
  exact n_retz hx hb hr hlocks (post := fun r : Int32 => r = (nI (chN i k))) (pk_charN (Nat.lt_trans (chW_lt i hi k hk2) (by decide))).1 rfl rfl dJ1_charAt_3b067_14

set_option maxHeartbeats 4000000 in
set_option maxRecDepth 100000 in
theorem c_J0_charAt_5068e (lQ : Launch) (D : va_G) (kA : Nat → ClassId) (adK adV : Nat → Nat) (k : Nat) (i : Nat) (hi : i < 4) (hk2 : k < lenW.getD i 0) : Met lQ yJ0_charAt_5068e wsJ0_charAt_5068e (rmN 3 64) (rdE_Pc D vwCl adK adV [.ref (adK i), .int (nI k)] [] (tyK kA)) (vp_Si (fun r : Int32 => r = (nI (chN i k)))) 0 0 (fun _ => False) := by
  refine Met.ofW (cc := cJ0_charAt_5068e) (maxL := 2) (ret := (some .char)) (by decide) rfl ?_
  intro pQ eQ s mQ args below meth cQ s₁ B hml hv
  obtain ⟨rfl, hP, hK, hE⟩ := hv
  have hx := B.exec
  have hb := B.bytes
  have hr := B.returns
  have hts := atoms_spec (ws := wsJ0_charAt_5068e) B.pre
  have hown : s.vm.findClass RJ0 = some mQ.cls := findClass_of_methodNamed B.named
  have hlocks : meth.locks = false := B.notSynchronized
  have hS0 : CallFix pQ mQ cQ cJ0_charAt_5068e 2 s ([.ref (adK i), .int (nI k)] : List Value).toArray wsJ0_charAt_5068e RJ0 := ⟨hx, hb, hml, hown, hts⟩
  have f9 : (Cond.fieldLink RJ0 9 "java/lang/String" "value" "[B").before ([.ref (adK i), .int (nI k)] : List Value).toArray s = true := hts _ (by decide +kernel)
  have hl := lv_entry ([.ref (adK i), .int (nI k)]) (n := 2) (Nat.le_of_ble_eq_true rfl)
  rw [lg_entry_eq]
  generalize (lg_sl ([.ref (adK i), .int (nI k)]) ++ List.replicate (2 - (lg_sl ([.ref (adK i), .int (nI k)])).length) Slot.unset).toArray = ls at hl ⊢
  have hl : lv_has ls 2 [(0, .ref (adK i)), (1, .int (nI k))] := hl
  have hP : va_P D vwCl [] s.heap := hP
  refine lv_aload_n hx hb dJ0_charAt_5068e_0 rfl (lv_at hl 0 rfl) ?_
  refine n_cVKE (C := RJ0) (b := adK i) (As := []) (rest := []) (wc := []) hS0 (c_J0_isLatin1_aae02 lQ D kA adK adV i hi) (cwV 0 hts gJ0_charAt_5068e_J0_isLatin1_aae02 rfl rfl rfl (by decide +kernel) ⟨Nat.le_of_ble_eq_true rfl, Nat.le_of_ble_eq_true rfl⟩) hP hK (vk_recv hE.2.2.2.1.1 hi va_S.rf) hE va_S.rf rfl rfl hl.1 (Nat.le_of_ble_eq_true rfl) dJ0_charAt_5068e_1 ⟨Nat.le_refl _, Nat.le_refl _⟩ (fun r1 h1 => ?_)
  subst h1
  refine n_ifb_eq (b := true) (tgt := 16) hx hb dJ0_charAt_5068e_4 (by decide) (fun c4 => ?_) (fun c4 => ?_)
  · cases c4
  · refine lv_aload_n hx hb dJ0_charAt_5068e_7 rfl (lv_at hl 0 rfl) ?_
    refine vk_getf hx hb (hE.2.2.2.1.1.1 i hi).2.2.1 va_S.rf hown f9 (fun _ h9 => h9) dJ0_charAt_5068e_8 ?_
    refine lv_iload_n hx hb dJ0_charAt_5068e_11 rfl (lv_at hl 1 rfl) ?_
    refine n_cSE (As := [.ref (adV i), .int (nI k)]) (rest := []) (wc := []) hS0 (c_J1_charAt_3b067 lQ D kA adK adV k i hi hk2) (va_cwS 2 hts gJ0_charAt_5068e_J1_charAt_3b067 rfl rfl rfl (by decide +kernel) ⟨Nat.le_of_ble_eq_true rfl, Nat.le_of_ble_eq_true rfl⟩) hP hK hE va_S.rf rfl rfl hl.1 (Nat.le_of_ble_eq_true rfl) dJ0_charAt_5068e_12 ⟨Nat.le_refl _, Nat.le_refl _⟩ (fun r12 h12 => ?_)
    subst h12
    exact n_retz hx hb hr hlocks (post := fun r : Int32 => r = (nI (chN i k))) (pk_charN (Nat.lt_trans (chW_lt i hi k hk2) (by decide))).1 rfl rfl dJ0_charAt_5068e_15
