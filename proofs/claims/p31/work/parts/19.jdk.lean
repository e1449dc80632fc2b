section NJK
variable {p : Program} {l : Launch} {e : Env} {R : Room} {s : State} {m : MethodId} {args : Array Value} {below : List Frame} {meth : Method} {c : Code} {H : Heap} {locs : List Loc} {cells slots : Nat} {Q : State → Prop}
variable {cc : ByteArray} {pc : Nat} {ls : Array Slot} {rest : List Value} {D : va_G} {cl : List vw_C} {ws : va_W} {tys : List (ClassId × FieldType)} {a : Nat} {A : Nat → Prop} {H0 : Heap}
variable {y : MethodName} {bytes : ByteArray} {maxL nL mc ms n index : Nat} {ret : Option FieldType} {wsy : List Cond} {rm : Room} {Ts : List Cond} {own C : String} {b : Nat} {As st : List Value} {wc : va_W} {tysc : List (ClassId × FieldType)}
variable {adK adV : Nat → Nat}

/-- the length of a static or constant's row, and a byte of it -/
theorem n_tlen {cc : ByteArray} {A : Nat → Prop} (hx : p.tables.exec = Jvm.exec) (hb : c.code = cc) {t N : Nat} {ty : FieldType} {f : Nat → Value} (hT : va_T ty t N f A s s.heap) (hS : va_S A s.heap H locs) (hdg : decode cc pc = .ok (.arraylength, 1)) (k : W p l e R s m args below meth c H locs cells slots Q (F0 m (pc + 1) ls (.int (nI N) :: rest))) : W p l e R s m args below meth c H locs cells slots Q (F0 m pc ls (.ref t :: rest)) := by
  obtain ⟨cell, h1, h2, h3, h4, h5, h6, h7⟩ := hT
  have hl := (Array.getElem?_eq_some_iff.mp h1).1
  exact W.alen (n := nI N) hx hb (by rw [hS.2.1 t hl h7]; exact h1) h2 h5 rfl rfl hdg k
theorem n_tbald {cc : ByteArray} {A : Nat → Prop} (hx : p.tables.exec = Jvm.exec) (hb : c.code = cc) {t N : Nat} {f : Nat → Int32} (hT : va_T .byte t N (fun j => .int (f j)) A s s.heap) (hS : va_S A s.heap H locs) {i : Nat} (hi : i < N) (hN : N ≤ 100000) (hdg : decode cc pc = .ok (.baload, 1)) (k : W p l e R s m args below meth c H locs cells slots Q (F0 m (pc + 1) ls (.int (f i) :: rest))) : W p l e R s m args below meth c H locs cells slots Q (F0 m pc ls (.int (nI i) :: .ref t :: rest)) := by
  obtain ⟨cell, h1, h2, h3, h4, h5, h6, h7⟩ := hT
  have hl := (Array.getElem?_eq_some_iff.mp h1).1
  have hc : (nI i).toNatClampNeg = i := nI_clamp (by omega)
  refine W.bald (v := .int (f i)) hx hb (by rw [hS.2.1 t hl h7]; exact h1) h2 h3 ?_ (by rw [hc]; exact h6 i hi) rfl rfl hdg k
  rw [hc]
  rintro (h | h)
  · exact nI_pos (by omega) h
  · omega

theorem n_cVKE (hS0 : CallFix p m c cc nL s args Ts own) {post : Int32 → Prop} (hM : Met l y wsy rm (rdE_Pc D cl adK adV (.ref b :: As) wc tysc) (vp_Si post) 0 0 (fun _ => False)) (cw : CallW R s args own C index y bytes maxL ret wsy rm 0 0 n) (hP : va_P D cl wc H) (hK : va_K D cl tysc s) (hrec : ∃ cell : Cell, H[b]? = some cell ∧ cell.vm.isStatics = false ∧ s.vm.findClass C = some cell.cls) (hE : evS adK adV A s s.heap) (hS : va_S A s.heap H locs) (hst : st = As.reverse ++ .ref b :: rest) (hn : As.length = n) (hls : ls.size = nL) (hroom : (rest.map fun v => v.category).sum ≤ 8) (hdg : decode cc pc = .ok (.invokevirtual index, 3)) (hcs : cells ≤ R.cells ∧ slots ≤ R.slots) (kk : ∀ r : Int32, post r → W p l e R s m args below meth c H locs cells slots Q (F0 m (pc + 3) ls (.int r :: rest))) : W p l e R s m args below meth c H locs cells slots Q (F0 m pc ls st) := by
  subst hst
  refine vp_callSi (W.runV (As := As) (rest := rest) hS0 hM cw ⟨rdE_blind, ?_, fun U hU hW => ⟨rfl, by rw [hU]; exact hP, va_K.moved hW.alike hK, evS.go hE hS (fun _ h => h.elim) hU hW⟩⟩ rfl hn hls rfl (lv_room hroom) hdg hcs) kk
  exact hrec
theorem n_cSvE (hS0 : CallFix p m c cc nL s args Ts own) {post : Unit → Prop} (hM : Met l y wsy rm (rdE_Pc D cl adK adV As wc tysc) (va_Sv post) 0 0 (fun _ => False)) (cw : CallB R s args own index y bytes maxL ret wsy rm 0 0 n ∧ (Cond.static y).before args s = true) (hP : va_P D cl wc H) (hK : va_K D cl tysc s) (hE : evS adK adV A s s.heap) (hS : va_S A s.heap H locs) (hst : st = As.reverse ++ rest) (hn : As.length = n) (hls : ls.size = nL) (hroom : (rest.map fun v => v.category).sum ≤ 8) (hdg : decode cc pc = .ok (.invokestatic index, 3)) (hcs : cells ≤ R.cells ∧ slots ≤ R.slots) (kk : post () → W p l e R s m args below meth c H locs cells slots Q (F0 m (pc + 3) ls rest)) : W p l e R s m args below meth c H locs cells slots Q (F0 m pc ls st) := by
  subst hst
  exact va_csv (W.runS (As := As) (rest := rest) hS0 hM cw ⟨rdE_blind, fun U hU hW => ⟨rfl, by rw [hU]; exact hP, va_K.moved hW.alike hK, evS.go hE hS (fun _ h => h.elim) hU hW⟩⟩ rfl hn hls rfl (lv_room hroom) hdg hcs) kk
end NJK

def chN (i k : Nat) : Nat := (((bytW.getD i []).getD k 0) &&& 255).toNatClampNeg
theorem lenW_le : ∀ i, i < 4 → lenW.getD i 0 ≤ 5 := by decide +kernel
theorem chW_eq : ∀ i, i < 4 → ∀ k, k < lenW.getD i 0 → ((((bytW.getD i []).getD k 0) &&& nI 255).toUInt32 % 65536).toInt32 = nI (chN i k) := by decide +kernel
theorem chW_lt : ∀ i, i < 4 → ∀ k, k < lenW.getD i 0 → chN i k < 128 := by decide +kernel
