
theorem aN_cpy (f g : Nat → Nat) (n : Nat) : va_cpy (aN f) (aN g) 0 0 n = aN (va_cpy f g 0 0 n) := by
  funext j; simp only [va_cpy, aN]; split <;> rfl
theorem cpy_lt {f g : Nat → Nat} {n j : Nat} (h : j < n) : va_cpy f g 0 0 n j = f j := by
  unfold va_cpy; rw [if_pos (by omega)]; congr 1; omega
section NCP
variable {p : Program} {l : Launch} {e : Env} {R : Room} {s : State} {m : MethodId} {args : Array Value} {below : List Frame} {meth : Method} {c : Code} {H : Heap} {locs : List Loc} {cells slots : Nat} {Q : State → Prop}
variable {cc : ByteArray} {pc : Nat} {ls : Array Slot} {rest : List Value} {D : va_G} {cl : List vw_C} {A : Nat → Prop} {a : Nat} {tys : List (ClassId × FieldType)} {ws : va_W} {H0 : Heap}
theorem n_copy (hx : p.tables.exec = Jvm.exec) (hb : c.code = cc) (hml : c.maxLocals = ls.size) {own : String} {index : Nat} (hown : s.vm.findClass own = some m.cls) (hlink : (Cond.methodLink own index arraycopyName).before args s = true) (hnat : (Cond.native arraycopyName).before args s = true) (hstat : (Cond.static arraycopyName).before args s = true) (hini : (Cond.initialized "java/lang/System").before args s = true) (hK : va_K D cl tys s) (hP : va_P D cl ws H) (hD : va_D A ws) (hS : va_S A H0 H locs) (q0 q1 : Nat) {a0 : Nat} {c0 : ClassId} {n : Nat} {f g : Nat → Nat} {ws' : va_W} (ha0 : ws[q0]? = some (a0, .inl (c0, n, .inl (aN f)))) (ha1 : ws[q1]? = some (a, .inl (c0, n, .inl (aN g)))) (ht : tys[0]? = some (c0, .int)) (hn : n ≤ 100000)
    (hframes : 1 ≤ R.frames) (hlocals : (rest.map fun v => v.category).sum + (nativeFrameWords "java/lang/System" "arraycopy" 5 + 11) ≤ R.locals) (hws : ws.set q1 (a, .inl (c0, n, .inl (aN (va_cpy f g 0 0 n)))) = ws') (hdg : decode cc pc = .ok (.invokestatic index, 3))
    (kk : ∀ (H1 : Heap) (locs1 : List Loc), va_P D cl ws' H1 → va_D A ws' → va_S A H0 H1 locs1 → W p l e R s m args below meth c H1 locs1 cells slots Q (F0 m (pc + 3) ls rest)) : W p l e R s m args below meth c H locs cells slots Q (F0 m pc ls (.int (nI n) :: .int (nI 0) :: .ref a :: .int (nI 0) :: .ref a0 :: rest)) := by
  have hc : (nI n).toNatClampNeg = n := nI_clamp (by omega)
  have h0 : (nI 0).toNatClampNeg = 0 := rfl
  refine va_copyi hx hb hml hown hlink hnat hstat hini hK hP hD hS q0 q1 0 0 ha0 ha1 ht ht rfl (by decide) (by decide) (nI_pos (by omega)) (by rw [hc, h0]; omega) (by rw [hc, h0]; omega) (fun _ _ => rfl) hframes hlocals hdg (fun H1 locs1 g1 g2 g3 => ?_)
  rw [hc, h0, aN_cpy, hws] at g1 g2
  exact kk H1 locs1 g1 g2 g3
end NCP
def bcI (i : Int32) : Int32 :=
  let a := i - ((i.toUInt32 >>> ((nI 1).toUInt32 &&& Int32.toUInt32 31)).toInt32 &&& nI 1431655765)
  let b := (a &&& nI 858993459) + ((a.toUInt32 >>> ((nI 2).toUInt32 &&& Int32.toUInt32 31)).toInt32 &&& nI 858993459)
  let d := (b + (b.toUInt32 >>> ((nI 4).toUInt32 &&& Int32.toUInt32 31)).toInt32) &&& nI 252645135
  let e := d + (d.toUInt32 >>> ((nI 8).toUInt32 &&& Int32.toUInt32 31)).toInt32
  let f := e + (e.toUInt32 >>> ((nI 16).toUInt32 &&& Int32.toUInt32 31)).toInt32
  f &&& nI 63
theorem bcI_eq : ∀ x, x < 2048 → bcI (nI x) = nI (bitsN x 11) := by decide +kernel
theorem bits_4 : ∀ x, x < 16 → bitsN x 11 = bitsN x 4 := by decide +kernel
/-- a set at a condition, in place of the one that stands there -/
def replN (x k s : Nat) : Nat := x - (nibN x k <<< (4 * k)) + (s <<< (4 * k))
def ordF (f : Nat → Nat) (n m : Nat) : Nat → Nat := fun j => if j < n then f j ||| m else f j
theorem ordF_0 (f : Nat → Nat) (m : Nat) : ordF f 0 m = f := by funext j; unfold ordF; rw [if_neg (by omega)]
theorem ordF_up (f : Nat → Nat) (i m : Nat) : va_up (ordF f i m) i (ordF f i m i ||| m) = ordF f (i + 1) m := by
  funext j; unfold va_up ordF
  by_cases e : j = i
  · subst e; rw [if_pos rfl, if_neg (by omega), if_pos (by omega)]
  · rw [if_neg e]
    by_cases e2 : j < i
    · rw [if_pos e2, if_pos (by omega)]
    · rw [if_neg e2, if_neg (by omega)]
theorem up_s {α : Type} (f : Nat → α) (k : Nat) (v : α) : va_up f k v k = v := by unfold va_up; rw [if_pos rfl]
theorem up_n {α : Type} (f : Nat → α) {k j : Nat} (v : α) (h : j ≠ k) : va_up f k v j = f j := by unfold va_up; rw [if_neg h]
def areSetsB (x : Int32) (cc : Nat) (ac : Nat → Nat) : Bool := decide (0 ≤ x) && (decide (x.toNatClampNeg >>> (4 * cc) = 0) && allB (fun k => isSetB (nI (nibN x.toNatClampNeg k)) (fulN (ac k))) cc)
theorem areSets_n {x : Int32} {cc : Nat} {ac : Nat → Nat} {n : Nat} (hx : x = nI n) (hn : n < 2147483648) : areSetsB x cc ac = (decide (n >>> (4 * cc) = 0) && allB (fun k => isSetB (nI (nibN n k)) (fulN (ac k))) cc) := by
  unfold areSetsB
  rw [hx, decide_eq_true (nI_pos' hn), nI_clamp hn]
  rfl
abbrev Rws : Type := Nat × (Nat → Nat) × (Nat → Nat) × (Nat → Nat)
/-- merging all: rows, numbers, sets, actions; at most n times; and how often -/
def mgAll (cc : Nat) : Nat → Nat → (Nat → Nat) → (Nat → Nat) → (Nat → Nat) → Nat × Rws
  | 0, rc, nm, st, an => (0, rc, nm, st, an)
  | n + 1, rc, nm, st, an => match firstF (fun p => decide (whyN cc rc st an p = 0)) rc with
    | none => (0, rc, nm, st, an)
    | some p => let r := mgAll cc n (rc - 1) (shifF nm (p + 1) rc) (mrgS st p rc) (shifF an (p + 1) rc); (r.1 + 1, r.2)
theorem mgAll_some {cc n rc p : Nat} {nm st an : Nat → Nat} (h : firstF (fun p => decide (whyN cc rc st an p = 0)) rc = some p) : mgAll cc (n + 1) rc nm st an = ((mgAll cc n (rc - 1) (shifF nm (p + 1) rc) (mrgS st p rc) (shifF an (p + 1) rc)).1 + 1, (mgAll cc n (rc - 1) (shifF nm (p + 1) rc) (mrgS st p rc) (shifF an (p + 1) rc)).2) := by
  show (match firstF (fun p => decide (whyN cc rc st an p = 0)) rc with | none => _ | some p => _) = _
  rw [h]
theorem mgAll_none {cc rc : Nat} {nm st an : Nat → Nat} (h : firstF (fun p => decide (whyN cc rc st an p = 0)) rc = none) : ∀ n, mgAll cc n rc nm st an = (0, rc, nm, st, an)
  | 0 => rfl
  | n + 1 => by
    show (match firstF (fun p => decide (whyN cc rc st an p = 0)) rc with | none => _ | some p => _) = _
    rw [h]
theorem or_lt20 {a b : Nat} (ha : a < 1048576) (hb : b < 1048576) : a ||| b < 1048576 := Nat.or_lt_two_pow (n := 20) ha hb
theorem mrgS_lt {st : Nat → Nat} {p rc : Nat} (hp : p + 1 < rc) (h : ∀ j, j < rc → st j < 1048576) : ∀ j, j < rc - 1 → mrgS st p rc j < 1048576 := by
  intro j hj; unfold mrgS shifF
  have h2 : ∀ i, i < rc → va_up st p (st p ||| st (p + 1)) i < 1048576 := by
    intro i hi; unfold va_up
    split
    · exact or_lt20 (h _ (by omega)) (h _ (by omega))
    · exact h i hi
  split <;> exact h2 _ (by omega)
theorem shifF_all {P : Nat → Prop} {f : Nat → Nat} {p rc : Nat} (h : ∀ j, j < rc → P (f j)) : ∀ j, j < rc - 1 → P (shifF f p rc j) := by
  intro j hj; unfold shifF
  split <;> exact h _ (by omega)

set_option maxHeartbeats 4000000 in
set_option maxRecDepth 100000 in
theorem c_J6_bitCount_0f7a4 (lQ : Launch) (D : va_G) (kA : Nat → ClassId) (x : Nat) (hx2 : x < 2048) : Met lQ yJ6_bitCount_0f7a4 wsJ6_bitCount_0f7a4 (rmN 0 0) (rd_Pc D vwCl [.int (nI x)] [] (tyK kA)) (vp_Si (fun r : Int32 => r = (nI (bitsN x 11)))) 0 0 (fun _ => False) := by
  refine Met.ofW (cc := cJ6_bitCount_0f7a4) (maxL := 1) (ret := (some .int)) (by decide) rfl ?_
  intro pQ eQ s mQ args below meth cQ s₁ B hml hv
  obtain ⟨rfl, hP, hK⟩ := hv
  have hx := B.exec
  have hb := B.bytes
  have hr := B.returns
  have hts := atoms_spec (ws := wsJ6_bitCount_0f7a4) B.pre
  have hown : s.vm.findClass RJ6 = some mQ.cls := findClass_of_methodNamed B.named
  have hlocks : meth.locks = false := B.notSynchronized
  have hS0 : CallFix pQ mQ cQ cJ6_bitCount_0f7a4 1 s ([.int (nI x)] : List Value).toArray wsJ6_bitCount_0f7a4 RJ6 := ⟨hx, hb, hml, hown, hts⟩
  have k265 : (Cond.constant RJ6 265 (nI 1431655765)).before ([.int (nI x)] : List Value).toArray s = true := hts _ (by decide +kernel)
  have k266 : (Cond.constant RJ6 266 (nI 858993459)).before ([.int (nI x)] : List Value).toArray s = true := hts _ (by decide +kernel)
  have k267 : (Cond.constant RJ6 267 (nI 252645135)).before ([.int (nI x)] : List Value).toArray s = true := hts _ (by decide +kernel)
  have hl := lv_entry ([.int (nI x)]) (n := 1) (Nat.le_of_ble_eq_true rfl)
  rw [lg_entry_eq]
  generalize (lg_sl ([.int (nI x)]) ++ List.replicate (1 - (lg_sl ([.int (nI x)])).length) Slot.unset).toArray = ls at hl ⊢
  have hl : lv_has ls 1 [(0, .int (nI x))] := hl
  have hP : va_P D vwCl [] s.heap := hP
  refine lv_iload_n hx hb dJ6_bitCount_0f7a4_0 rfl (lv_at hl 0 rfl) ?_
  refine lv_iload_n hx hb dJ6_bitCount_0f7a4_1 rfl (lv_at hl 0 rfl) ?_
  refine lv_iconst (v := (nI 1)) hx hb dJ6_bitCount_0f7a4_2 (by decide) ?_
  refine lv_iushr (v := (((nI x).toUInt32 >>> ((nI 1).toUInt32 &&& Int32.toUInt32 31)).toInt32)) hx hb dJ6_bitCount_0f7a4_3 rfl ?_
  refine lv_ldcw (v := (nI 1431655765)) hx hb hown k265 dJ6_bitCount_0f7a4_4 ?_
  refine n_iand (v := ((((nI x).toUInt32 >>> ((nI 1).toUInt32 &&& Int32.toUInt32 31)).toInt32) &&& (nI 1431655765))) hx hb rfl dJ6_bitCount_0f7a4_7 ?_
  refine n_isub (v := ((nI x) - ((((nI x).toUInt32 >>> ((nI 1).toUInt32 &&& Int32.toUInt32 31)).toInt32) &&& (nI 1431655765)))) hx hb rfl dJ6_bitCount_0f7a4_8 ?_
  refine lv_istore_n (lv' := [(0, .int ((nI x) - ((((nI x).toUInt32 >>> ((nI 1).toUInt32 &&& Int32.toUInt32 31)).toInt32) &&& (nI 1431655765))))]) hx hb dJ6_bitCount_0f7a4_9 rfl hl (by decide) rfl (fun ls hl => ?_)
  refine lv_iload_n hx hb dJ6_bitCount_0f7a4_10 rfl (lv_at hl 0 rfl) ?_
  refine lv_ldcw (v := (nI 858993459)) hx hb hown k266 dJ6_bitCount_0f7a4_11 ?_
  refine n_iand (v := (((nI x) - ((((nI x).toUInt32 >>> ((nI 1).toUInt32 &&& Int32.toUInt32 31)).toInt32) &&& (nI 1431655765))) &&& (nI 858993459))) hx hb rfl dJ6_bitCount_0f7a4_14 ?_
  refine lv_iload_n hx hb dJ6_bitCount_0f7a4_15 rfl (lv_at hl 0 rfl) ?_
  refine lv_iconst (v := (nI 2)) hx hb dJ6_bitCount_0f7a4_16 (by decide) ?_
  refine lv_iushr (v := ((((nI x) - ((((nI x).toUInt32 >>> ((nI 1).toUInt32 &&& Int32.toUInt32 31)).toInt32) &&& (nI 1431655765))).toUInt32 >>> ((nI 2).toUInt32 &&& Int32.toUInt32 31)).toInt32)) hx hb dJ6_bitCount_0f7a4_17 rfl ?_
  refine lv_ldcw (v := (nI 858993459)) hx hb hown k266 dJ6_bitCount_0f7a4_18 ?_
  refine n_iand (v := (((((nI x) - ((((nI x).toUInt32 >>> ((nI 1).toUInt32 &&& Int32.toUInt32 31)).toInt32) &&& (nI 1431655765))).toUInt32 >>> ((nI 2).toUInt32 &&& Int32.toUInt32 31)).toInt32) &&& (nI 858993459))) hx hb rfl dJ6_bitCount_0f7a4_21 ?_
  refine n_iadd (v := ((((nI x) - ((((nI x).toUInt32 >>> ((nI 1).toUInt32 &&& Int32.toUInt32 31)).toInt32) &&& (nI 1431655765))) &&& (nI 858993459)) + (((((nI x) - ((((nI x).toUInt32 >>> ((nI 1).toUInt32 &&& Int32.toUInt32 31)).toInt32) &&& (nI 1431655765))).toUInt32 >>> ((nI 2).toUInt32 &&& Int32.toUInt32 31)).toInt32) &&& (nI 858993459)))) hx hb rfl dJ6_bitCount_0f7a4_22 ?_
  refine lv_istore_n (lv' := [(0, .int ((((nI x) - ((((nI x).toUInt32 >>> ((nI 1).toUInt32 &&& Int32.toUInt32 31)).toInt32) &&& (nI 1431655765))) &&& (nI 858993459)) + (((((nI x) - ((((nI x).toUInt32 >>> ((nI 1).toUInt32 &&& Int32.toUInt32 31)).toInt32) &&& (nI 1431655765))).toUInt32 >>> ((nI 2).toUInt32 &&& Int32.toUInt32 31)).toInt32) &&& (nI 858993459))))]) hx hb dJ6_bitCount_0f7a4_23 rfl hl (by decide) rfl (fun ls hl => ?_)
  refine lv_iload_n hx hb dJ6_bitCount_0f7a4_24 rfl (lv_at hl 0 rfl) ?_
  refine lv_iload_n hx hb dJ6_bitCount_0f7a4_25 rfl (lv_at hl 0 rfl) ?_
  refine lv_iconst (v := (nI 4)) hx hb dJ6_bitCount_0f7a4_26 (by decide) ?_
  refine lv_iushr (v := ((((((nI x) - ((((nI x).toUInt32 >>> ((nI 1).toUInt32 &&& Int32.toUInt32 31)).toInt32) &&& (nI 1431655765))) &&& (nI 858993459)) + (((((nI x) - ((((nI x).toUInt32 >>> ((nI 1).toUInt32 &&& Int32.toUInt32 31)).toInt32) &&& (nI 1431655765))).toUInt32 >>> ((nI 2).toUInt32 &&& Int32.toUInt32 31)).toInt32) &&& (nI 858993459))).toUInt32 >>> ((nI 4).toUInt32 &&& Int32.toUInt32 31)).toInt32)) hx hb dJ6_bitCount_0f7a4_27 rfl ?_
  refine n_iadd (v := (((((nI x) - ((((nI x).toUInt32 >>> ((nI 1).toUInt32 &&& Int32.toUInt32 31)).toInt32) &&& (nI 1431655765))) &&& (nI 858993459)) + (((((nI x) - ((((nI x).toUInt32 >>> ((nI 1).toUInt32 &&& Int32.toUInt32 31)).toInt32) &&& (nI 1431655765))).toUInt32 >>> ((nI 2).toUInt32 &&& Int32.toUInt32 31)).toInt32) &&& (nI 858993459))) + ((((((nI x) - ((((nI x).toUInt32 >>> ((nI 1).toUInt32 &&& Int32.toUInt32 31)).toInt32) &&& (nI 1431655765))) &&& (nI 858993459)) + (((((nI x) - ((((nI x).toUInt32 >>> ((nI 1).toUInt32 &&& Int32.toUInt32 31)).toInt32) &&& (nI 1431655765))).toUInt32 >>> ((nI 2).toUInt32 &&& Int32.toUInt32 31)).toInt32) &&& (nI 858993459))).toUInt32 >>> ((nI 4).toUInt32 &&& Int32.toUInt32 31)).toInt32))) hx hb rfl dJ6_bitCount_0f7a4_28 ?_
  refine lv_ldcw (v := (nI 252645135)) hx hb hown k267 dJ6_bitCount_0f7a4_29 ?_
  refine n_iand (v := ((((((nI x) - ((((nI x).toUInt32 >>> ((nI 1).toUInt32 &&& Int32.toUInt32 31)).toInt32) &&& (nI 1431655765))) &&& (nI 858993459)) + (((((nI x) - ((((nI x).toUInt32 >>> ((nI 1).toUInt32 &&& Int32.toUInt32 31)).toInt32) &&& (nI 1431655765))).toUInt32 >>> ((nI 2).toUInt32 &&& Int32.toUInt32 31)).toInt32) &&& (nI 858993459))) + ((((((nI x) - ((((nI x).toUInt32 >>> ((nI 1).toUInt32 &&& Int32.toUInt32 31)).toInt32) &&& (nI 1431655765))) &&& (nI 858993459)) + (((((nI x) - ((((nI x).toUInt32 >>> ((nI 1).toUInt32 &&& Int32.toUInt32 31)).toInt32) &&& (nI 1431655765))).toUInt32 >>> ((nI 2).toUInt32 &&& Int32.toUInt32 31)).toInt32) &&& (nI 858993459))).toUInt32 >>> ((nI 4).toUInt32 &&& Int32.toUInt32 31)).toInt32)) &&& (nI 252645135))) hx hb rfl dJ6_bitCount_0f7a4_32 ?_
  refine lv_istore_n (lv' := [(0, .int ((((((nI x) - ((((nI x).toUInt32 >>> ((nI 1).toUInt32 &&& Int32.toUInt32 31)).toInt32) &&& (nI 1431655765))) &&& (nI 858993459)) + (((((nI x) - ((((nI x).toUInt32 >>> ((nI 1).toUInt32 &&& Int32.toUInt32 31)).toInt32) &&& (nI 1431655765))).toUInt32 >>> ((nI 2).toUInt32 &&& Int32.toUInt32 31)).toInt32) &&& (nI 858993459))) + ((((((nI x) - ((((nI x).toUInt32 >>> ((nI 1).toUInt32 &&& Int32.toUInt32 31)).toInt32) &&& (nI 1431655765))) &&& (nI 858993459)) + (((((nI x) - ((((nI x).toUInt32 >>> ((nI 1).toUInt32 &&& Int32.toUInt32 31)).toInt32) &&& (nI 1431655765))).toUInt32 >>> ((nI 2).toUInt32 &&& Int32.toUInt32 31)).toInt32) &&& (nI 858993459))).toUInt32 >>> ((nI 4).toUInt32 &&& Int32.toUInt32 31)).toInt32)) &&& (nI 252645135)))]) hx hb dJ6_bitCount_0f7a4_33 rfl hl (by decide) rfl (fun ls hl => ?_)
  refine lv_iload_n hx hb dJ6_bitCount_0f7a4_34 rfl (lv_at hl 0 rfl) ?_
  refine lv_iload_n hx hb dJ6_bitCount_0f7a4_35 rfl (lv_at hl 0 rfl) ?_
  refine lv_bipush (v := (nI 8)) hx hb dJ6_bitCount_0f7a4_36 (by decide) ?_
  refine lv_iushr (v := ((((((((nI x) - ((((nI x).toUInt32 >>> ((nI 1).toUInt32 &&& Int32.toUInt32 31)).toInt32) &&& (nI 1431655765))) &&& (nI 858993459)) + (((((nI x) - ((((nI x).toUInt32 >>> ((nI 1).toUInt32 &&& Int32.toUInt32 31)).toInt32) &&& (nI 1431655765))).toUInt32 >>> ((nI 2).toUInt32 &&& Int32.toUInt32 31)).toInt32) &&& (nI 858993459))) + ((((((nI x) - ((((nI x).toUInt32 >>> ((nI 1).toUInt32 &&& Int32.toUInt32 31)).toInt32) &&& (nI 1431655765))) &&& (nI 858993459)) + (((((nI x) - ((((nI x).toUInt32 >>> ((nI 1).toUInt32 &&& Int32.toUInt32 31)).toInt32) &&& (nI 1431655765))).toUInt32 >>> ((nI 2).toUInt32 &&& Int32.toUInt32 31)).toInt32) &&& (nI 858993459))).toUInt32 >>> ((nI 4).toUInt32 &&& Int32.toUInt32 31)).toInt32)) &&& (nI 252645135)).toUInt32 >>> ((nI 8).toUInt32 &&& Int32.toUInt32 31)).toInt32)) hx hb dJ6_bitCount_0f7a4_38 rfl ?_
  refine n_iadd (v := (((((((nI x) - ((((nI x).toUInt32 >>> ((nI 1).toUInt32 &&& Int32.toUInt32 31)).toInt32) &&& (nI 1431655765))) &&& (nI 858993459)) + (((((nI x) - ((((nI x).toUInt32 >>> ((nI 1).toUInt32 &&& Int32.toUInt32 31)).toInt32) &&& (nI 1431655765))).toUInt32 >>> ((nI 2).toUInt32 &&& Int32.toUInt32 31)).toInt32) &&& (nI 858993459))) + ((((((nI x) - ((((nI x).toUInt32 >>> ((nI 1).toUInt32 &&& Int32.toUInt32 31)).toInt32) &&& (nI 1431655765))) &&& (nI 858993459)) + (((((nI x) - ((((nI x).toUInt32 >>> ((nI 1).toUInt32 &&& Int32.toUInt32 31)).toInt32) &&& (nI 1431655765))).toUInt32 >>> ((nI 2).toUInt32 &&& Int32.toUInt32 31)).toInt32) &&& (nI 858993459))).toUInt32 >>> ((nI 4).toUInt32 &&& Int32.toUInt32 31)).toInt32)) &&& (nI 252645135)) + ((((((((nI x) - ((((nI x).toUInt32 >>> ((nI 1).toUInt32 &&& Int32.toUInt32 31)).toInt32) &&& (nI 1431655765))) &&& (nI 858993459)) + (((((nI x) - ((((nI x).toUInt32 >>> ((nI 1).toUInt32 &&& Int32.toUInt32 31)).toInt32) &&& (nI 1431655765))).toUInt32 >>> ((nI 2).toUInt32 &&& Int32.toUInt32 31)).toInt32) &&& (nI 858993459))) + ((((((nI x) - ((((nI x).toUInt32 >>> ((nI 1).toUInt32 &&& Int32.toUInt32 31)).toInt32) &&& (nI 1431655765))) &&& (nI 858993459)) + (((((nI x) - ((((nI x).toUInt32 >>> ((nI 1).toUInt32 &&& Int32.toUInt32 31)).toInt32) &&& (nI 1431655765))).toUInt32 >>> ((nI 2).toUInt32 &&& Int32.toUInt32 31)).toInt32) &&& (nI 858993459))).toUInt32 >>> ((nI 4).toUInt32 &&& Int32.toUInt32 31)).toInt32)) &&& (nI 252645135)).toUInt32 >>> ((nI 8).toUInt32 &&& Int32.toUInt32 31)).toInt32))) hx hb rfl dJ6_bitCount_0f7a4_39 ?_
  refine lv_istore_n (lv' := [(0, .int (((((((nI x) - ((((nI x).toUInt32 >>> ((nI 1).toUInt32 &&& Int32.toUInt32 31)).toInt32) &&& (nI 1431655765))) &&& (nI 858993459)) + (((((nI x) - ((((nI x).toUInt32 >>> ((nI 1).toUInt32 &&& Int32.toUInt32 31)).toInt32) &&& (nI 1431655765))).toUInt32 >>> ((nI 2).toUInt32 &&& Int32.toUInt32 31)).toInt32) &&& (nI 858993459))) + ((((((nI x) - ((((nI x).toUInt32 >>> ((nI 1).toUInt32 &&& Int32.toUInt32 31)).toInt32) &&& (nI 1431655765))) &&& (nI 858993459)) + (((((nI x) - ((((nI x).toUInt32 >>> ((nI 1).toUInt32 &&& Int32.toUInt32 31)).toInt32) &&& (nI 1431655765))).toUInt32 >>> ((nI 2).toUInt32 &&& Int32.toUInt32 31)).toInt32) &&& (nI 858993459))).toUInt32 >>> ((nI 4).toUInt32 &&& Int32.toUInt32 31)).toInt32)) &&& (nI 252645135)) + ((((((((nI x) - ((((nI x).toUInt32 >>> ((nI 1).toUInt32 &&& Int32.toUInt32 31)).toInt32) &&& (nI 1431655765))) &&& (nI 858993459)) + (((((nI x) - ((((nI x).toUInt32 >>> ((nI 1).toUInt32 &&& Int32.toUInt32 31)).toInt32) &&& (nI 1431655765))).toUInt32 >>> ((nI 2).toUInt32 &&& Int32.toUInt32 31)).toInt32) &&& (nI 858993459))) + ((((((nI x) - ((((nI x).toUInt32 >>> ((nI 1).toUInt32 &&& Int32.toUInt32 31)).toInt32) &&& (nI 1431655765))) &&& (nI 858993459)) + (((((nI x) - ((((nI x).toUInt32 >>> ((nI 1).toUInt32 &&& Int32.toUInt32 31)).toInt32) &&& (nI 1431655765))).toUInt32 >>> ((nI 2).toUInt32 &&& Int32.toUInt32 31)).toInt32) &&& (nI 858993459))).toUInt32 >>> ((nI 4).toUInt32 &&& Int32.toUInt32 31)).toInt32)) &&& (nI 252645135)).toUInt32 >>> ((nI 8).toUInt32 &&& Int32.toUInt32 31)).toInt32)))]) hx hb dJ6_bitCount_0f7a4_40 rfl hl (by decide) rfl (fun ls hl => ?_)
  refine lv_iload_n hx hb dJ6_bitCount_0f7a4_41 rfl (lv_at hl 0 rfl) ?_
  refine lv_iload_n hx hb dJ6_bitCount_0f7a4_42 rfl (lv_at hl 0 rfl) ?_
  refine lv_bipush (v := (nI 16)) hx hb dJ6_bitCount_0f7a4_43 (by decide) ?_
  refine lv_iushr (v := (((((((((nI x) - ((((nI x).toUInt32 >>> ((nI 1).toUInt32 &&& Int32.toUInt32 31)).toInt32) &&& (nI 1431655765))) &&& (nI 858993459)) + (((((nI x) - ((((nI x).toUInt32 >>> ((nI 1).toUInt32 &&& Int32.toUInt32 31)).toInt32) &&& (nI 1431655765))).toUInt32 >>> ((nI 2).toUInt32 &&& Int32.toUInt32 31)).toInt32) &&& (nI 858993459))) + ((((((nI x) - ((((nI x).toUInt32 >>> ((nI 1).toUInt32 &&& Int32.toUInt32 31)).toInt32) &&& (nI 1431655765))) &&& (nI 858993459)) + (((((nI x) - ((((nI x).toUInt32 >>> ((nI 1).toUInt32 &&& Int32.toUInt32 31)).toInt32) &&& (nI 1431655765))).toUInt32 >>> ((nI 2).toUInt32 &&& Int32.toUInt32 31)).toInt32) &&& (nI 858993459))).toUInt32 >>> ((nI 4).toUInt32 &&& Int32.toUInt32 31)).toInt32)) &&& (nI 252645135)) + ((((((((nI x) - ((((nI x).toUInt32 >>> ((nI 1).toUInt32 &&& Int32.toUInt32 31)).toInt32) &&& (nI 1431655765))) &&& (nI 858993459)) + (((((nI x) - ((((nI x).toUInt32 >>> ((nI 1).toUInt32 &&& Int32.toUInt32 31)).toInt32) &&& (nI 1431655765))).toUInt32 >>> ((nI 2).toUInt32 &&& Int32.toUInt32 31)).toInt32) &&& (nI 858993459))) + ((((((nI x) - ((((nI x).toUInt32 >>> ((nI 1).toUInt32 &&& Int32.toUInt32 31)).toInt32) &&& (nI 1431655765))) &&& (nI 858993459)) + (((((nI x) - ((((nI x).toUInt32 >>> ((nI 1).toUInt32 &&& Int32.toUInt32 31)).toInt32) &&& (nI 1431655765))).toUInt32 >>> ((nI 2).toUInt32 &&& Int32.toUInt32 31)).toInt32) &&& (nI 858993459))).toUInt32 >>> ((nI 4).toUInt32 &&& Int32.toUInt32 31)).toInt32)) &&& (nI 252645135)).toUInt32 >>> ((nI 8).toUInt32 &&& Int32.toUInt32 31)).toInt32)).toUInt32 >>> ((nI 16).toUInt32 &&& Int32.toUInt32 31)).toInt32)) hx hb dJ6_bitCount_0f7a4_45 rfl ?_
  refine n_iadd (v := ((((((((nI x) - ((((nI x).toUInt32 >>> ((nI 1).toUInt32 &&& Int32.toUInt32 31)).toInt32) &&& (nI 1431655765))) &&& (nI 858993459)) + (((((nI x) - ((((nI x).toUInt32 >>> ((nI 1).toUInt32 &&& Int32.toUInt32 31)).toInt32) &&& (nI 1431655765))).toUInt32 >>> ((nI 2).toUInt32 &&& Int32.toUInt32 31)).toInt32) &&& (nI 858993459))) + ((((((nI x) - ((((nI x).toUInt32 >>> ((nI 1).toUInt32 &&& Int32.toUInt32 31)).toInt32) &&& (nI 1431655765))) &&& (nI 858993459)) + (((((nI x) - ((((nI x).toUInt32 >>> ((nI 1).toUInt32 &&& Int32.toUInt32 31)).toInt32) &&& (nI 1431655765))).toUInt32 >>> ((nI 2).toUInt32 &&& Int32.toUInt32 31)).toInt32) &&& (nI 858993459))).toUInt32 >>> ((nI 4).toUInt32 &&& Int32.toUInt32 31)).toInt32)) &&& (nI 252645135)) + ((((((((nI x) - ((((nI x).toUInt32 >>> ((nI 1).toUInt32 &&& Int32.toUInt32 31)).toInt32) &&& (nI 1431655765))) &&& (nI 858993459)) + (((((nI x) - ((((nI x).toUInt32 >>> ((nI 1).toUInt32 &&& Int32.toUInt32 31)).toInt32) &&& (nI 1431655765))).toUInt32 >>> ((nI 2).toUInt32 &&& Int32.toUInt32 31)).toInt32) &&& (nI 858993459))) + ((((((nI x) - ((((nI x).toUInt32 >>> ((nI 1).toUInt32 &&& Int32.toUInt32 31)).toInt32) &&& (nI 1431655765))) &&& (nI 858993459)) + (((((nI x) - ((((nI x).toUInt32 >>> ((nI 1).toUInt32 &&& Int32.toUInt32 31)).toInt32) &&& (nI 1431655765))).toUInt32 >>> ((nI 2).toUInt32 &&& Int32.toUInt32 31)).toInt32) &&& (nI 858993459))).toUInt32 >>> ((nI 4).toUInt32 &&& Int32.toUInt32 31)).toInt32)) &&& (nI 252645135)).toUInt32 >>> ((nI 8).toUInt32 &&& Int32.toUInt32 31)).toInt32)) + (((((((((nI x) - ((((nI x).toUInt32 >>> ((nI 1).toUInt32 &&& Int32.toUInt32 31)).toInt32) &&& (nI 1431655765))) &&& (nI 858993459)) + (((((nI x) - ((((nI x).toUInt32 >>> ((nI 1).toUInt32 &&& Int32.toUInt32 31)).toInt32) &&& (nI 1431655765))).toUInt32 >>> ((nI 2).toUInt32 &&& Int32.toUInt32 31)).toInt32) &&& (nI 858993459))) + ((((((nI x) - ((((nI x).toUInt32 >>> ((nI 1).toUInt32 &&& Int32.toUInt32 31)).toInt32) &&& (nI 1431655765))) &&& (nI 858993459)) + (((((nI x) - ((((nI x).toUInt32 >>> ((nI 1).toUInt32 &&& Int32.toUInt32 31)).toInt32) &&& (nI 1431655765))).toUInt32 >>> ((nI 2).toUInt32 &&& Int32.toUInt32 31)).toInt32) &&& (nI 858993459))).toUInt32 >>> ((nI 4).toUInt32 &&& Int32.toUInt32 31)).toInt32)) &&& (nI 252645135)) + ((((((((nI x) - ((((nI x).toUInt32 >>> ((nI 1).toUInt32 &&& Int32.toUInt32 31)).toInt32) &&& (nI 1431655765))) &&& (nI 858993459)) + (((((nI x) - ((((nI x).toUInt32 >>> ((nI 1).toUInt32 &&& Int32.toUInt32 31)).toInt32) &&& (nI 1431655765))).toUInt32 >>> ((nI 2).toUInt32 &&& Int32.toUInt32 31)).toInt32) &&& (nI 858993459))) + ((((((nI x) - ((((nI x).toUInt32 >>> ((nI 1).toUInt32 &&& Int32.toUInt32 31)).toInt32) &&& (nI 1431655765))) &&& (nI 858993459)) + (((((nI x) - ((((nI x).toUInt32 >>> ((nI 1).toUInt32 &&& Int32.toUInt32 31)).toInt32) &&& (nI 1431655765))).toUInt32 >>> ((nI 2).toUInt32 &&& Int32.toUInt32 31)).toInt32) &&& (nI 858993459))).toUInt32 >>> ((nI 4).toUInt32 &&& Int32.toUInt32 31)).toInt32)) &&& (nI 252645135)).toUInt32 >>> ((nI 8).toUInt32 &&& Int32.toUInt32 31)).toInt32)).toUInt32 >>> ((nI 16).toUInt32 &&& Int32.toUInt32 31)).toInt32))) hx hb rfl dJ6_bitCount_0f7a4_46 ?_
  refine lv_istore_n (lv' := [(0, .int ((((((((nI x) - ((((nI x).toUInt32 >>> ((nI 1).toUInt32 &&& Int32.toUInt32 31)).toInt32) &&& (nI 1431655765))) &&& (nI 858993459)) + (((((nI x) - ((((nI x).toUInt32 >>> ((nI 1).toUInt32 &&& Int32.toUInt32 31)).toInt32) &&& (nI 1431655765))).toUInt32 >>> ((nI 2).toUInt32 &&& Int32.toUInt32 31)).toInt32) &&& (nI 858993459))) + ((((((nI x) - ((((nI x).toUInt32 >>> ((nI 1).toUInt32 &&& Int32.toUInt32 31)).toInt32) &&& (nI 1431655765))) &&& (nI 858993459)) + (((((nI x) - ((((nI x).toUInt32 >>> ((nI 1).toUInt32 &&& Int32.toUInt32 31)).toInt32) &&& (nI 1431655765))).toUInt32 >>> ((nI 2).toUInt32 &&& Int32.toUInt32 31)).toInt32) &&& (nI 858993459))).toUInt32 >>> ((nI 4).toUInt32 &&& Int32.toUInt32 31)).toInt32)) &&& (nI 252645135)) + ((((((((nI x) - ((((nI x).toUInt32 >>> ((nI 1).toUInt32 &&& Int32.toUInt32 31)).toInt32) &&& (nI 1431655765))) &&& (nI 858993459)) + (((((nI x) - ((((nI x).toUInt32 >>> ((nI 1).toUInt32 &&& Int32.toUInt32 31)).toInt32) &&& (nI 1431655765))).toUInt32 >>> ((nI 2).toUInt32 &&& Int32.toUInt32 31)).toInt32) &&& (nI 858993459))) + ((((((nI x) - ((((nI x).toUInt32 >>> ((nI 1).toUInt32 &&& Int32.toUInt32 31)).toInt32) &&& (nI 1431655765))) &&& (nI 858993459)) + (((((nI x) - ((((nI x).toUInt32 >>> ((nI 1).toUInt32 &&& Int32.toUInt32 31)).toInt32) &&& (nI 1431655765))).toUInt32 >>> ((nI 2).toUInt32 &&& Int32.toUInt32 31)).toInt32) &&& (nI 858993459))).toUInt32 >>> ((nI 4).toUInt32 &&& Int32.toUInt32 31)).toInt32)) &&& (nI 252645135)).toUInt32 >>> ((nI 8).toUInt32 &&& Int32.toUInt32 31)).toInt32)) + (((((((((nI x) - ((((nI x).toUInt32 >>> ((nI 1).toUInt32 &&& Int32.toUInt32 31)).toInt32) &&& (nI 1431655765))) &&& (nI 858993459)) + (((((nI x) - ((((nI x).toUInt32 >>> ((nI 1).toUInt32 &&& Int32.toUInt32 31)).toInt32) &&& (nI 1431655765))).toUInt32 >>> ((nI 2).toUInt32 &&& Int32.toUInt32 31)).toInt32) &&& (nI 858993459))) + ((((((nI x) - ((((nI x).toUInt32 >>> ((nI 1).toUInt32 &&& Int32.toUInt32 31)).toInt32) &&& (nI 1431655765))) &&& (nI 858993459)) + (((((nI x) - ((((nI x).toUInt32 >>> ((nI 1).toUInt32 &&& Int32.toUInt32 31)).toInt32) &&& (nI 1431655765))).toUInt32 >>> ((nI 2).toUInt32 &&& Int32.toUInt32 31)).toInt32) &&& (nI 858993459))).toUInt32 >>> ((nI 4).toUInt32 &&& Int32.toUInt32 31)).toInt32)) &&& (nI 252645135)) + ((((((((nI x) - ((((nI x).toUInt32 >>> ((nI 1).toUInt32 &&& Int32.toUInt32 31)).toInt32) &&& (nI 1431655765))) &&& (nI 858993459)) + (((((nI x) - ((((nI x).toUInt32 >>> ((nI 1).toUInt32 &&& Int32.toUInt32 31)).toInt32) &&& (nI 1431655765))).toUInt32 >>> ((nI 2).toUInt32 &&& Int32.toUInt32 31)).toInt32) &&& (nI 858993459))) + ((((((nI x) - ((((nI x).toUInt32 >>> ((nI 1).toUInt32 &&& Int32.toUInt32 31)).toInt32) &&& (nI 1431655765))) &&& (nI 858993459)) + (((((nI x) - ((((nI x).toUInt32 >>> ((nI 1).toUInt32 &&& Int32.toUInt32 31)).toInt32) &&& (nI 1431655765))).toUInt32 >>> ((nI 2).toUInt32 &&& Int32.toUInt32 31)).toInt32) &&& (nI 858993459))).toUInt32 >>> ((nI 4).toUInt32 &&& Int32.toUInt32 31)).toInt32)) &&& (nI 252645135)).toUInt32 >>> ((nI 8).toUInt32 &&& Int32.toUInt32 31)).toInt32)).toUInt32 >>> ((nI 16).toUInt32 &&& Int32.toUInt32 31)).toInt32)))]) hx hb dJ6_bitCount_0f7a4_47 rfl hl (by decide) rfl (fun ls hl => ?_)
  refine lv_iload_n hx hb dJ6_bitCount_0f7a4_48 rfl (lv_at hl 0 rfl) ?_
  refine lv_bipush (v := (nI 63)) hx hb dJ6_bitCount_0f7a4_49 (by decide) ?_
  refine n_iand (v := (((((((((nI x) - ((((nI x).toUInt32 >>> ((nI 1).toUInt32 &&& Int32.toUInt32 31)).toInt32) &&& (nI 1431655765))) &&& (nI 858993459)) + (((((nI x) - ((((nI x).toUInt32 >>> ((nI 1).toUInt32 &&& Int32.toUInt32 31)).toInt32) &&& (nI 1431655765))).toUInt32 >>> ((nI 2).toUInt32 &&& Int32.toUInt32 31)).toInt32) &&& (nI 858993459))) + ((((((nI x) - ((((nI x).toUInt32 >>> ((nI 1).toUInt32 &&& Int32.toUInt32 31)).toInt32) &&& (nI 1431655765))) &&& (nI 858993459)) + (((((nI x) - ((((nI x).toUInt32 >>> ((nI 1).toUInt32 &&& Int32.toUInt32 31)).toInt32) &&& (nI 1431655765))).toUInt32 >>> ((nI 2).toUInt32 &&& Int32.toUInt32 31)).toInt32) &&& (nI 858993459))).toUInt32 >>> ((nI 4).toUInt32 &&& Int32.toUInt32 31)).toInt32)) &&& (nI 252645135)) + ((((((((nI x) - ((((nI x).toUInt32 >>> ((nI 1).toUInt32 &&& Int32.toUInt32 31)).toInt32) &&& (nI 1431655765))) &&& (nI 858993459)) + (((((nI x) - ((((nI x).toUInt32 >>> ((nI 1).toUInt32 &&& Int32.toUInt32 31)).toInt32) &&& (nI 1431655765))).toUInt32 >>> ((nI 2).toUInt32 &&& Int32.toUInt32 31)).toInt32) &&& (nI 858993459))) + ((((((nI x) - ((((nI x).toUInt32 >>> ((nI 1).toUInt32 &&& Int32.toUInt32 31)).toInt32) &&& (nI 1431655765))) &&& (nI 858993459)) + (((((nI x) - ((((nI x).toUInt32 >>> ((nI 1).toUInt32 &&& Int32.toUInt32 31)).toInt32) &&& (nI 1431655765))).toUInt32 >>> ((nI 2).toUInt32 &&& Int32.toUInt32 31)).toInt32) &&& (nI 858993459))).toUInt32 >>> ((nI 4).toUInt32 &&& Int32.toUInt32 31)).toInt32)) &&& (nI 252645135)).toUInt32 >>> ((nI 8).toUInt32 &&& Int32.toUInt32 31)).toInt32)) + (((((((((nI x) - ((((nI x).toUInt32 >>> ((nI 1).toUInt32 &&& Int32.toUInt32 31)).toInt32) &&& (nI 1431655765))) &&& (nI 858993459)) + (((((nI x) - ((((nI x).toUInt32 >>> ((nI 1).toUInt32 &&& Int32.toUInt32 31)).toInt32) &&& (nI 1431655765))).toUInt32 >>> ((nI 2).toUInt32 &&& Int32.toUInt32 31)).toInt32) &&& (nI 858993459))) + ((((((nI x) - ((((nI x).toUInt32 >>> ((nI 1).toUInt32 &&& Int32.toUInt32 31)).toInt32) &&& (nI 1431655765))) &&& (nI 858993459)) + (((((nI x) - ((((nI x).toUInt32 >>> ((nI 1).toUInt32 &&& Int32.toUInt32 31)).toInt32) &&& (nI 1431655765))).toUInt32 >>> ((nI 2).toUInt32 &&& Int32.toUInt32 31)).toInt32) &&& (nI 858993459))).toUInt32 >>> ((nI 4).toUInt32 &&& Int32.toUInt32 31)).toInt32)) &&& (nI 252645135)) + ((((((((nI x) - ((((nI x).toUInt32 >>> ((nI 1).toUInt32 &&& Int32.toUInt32 31)).toInt32) &&& (nI 1431655765))) &&& (nI 858993459)) + (((((nI x) - ((((nI x).toUInt32 >>> ((nI 1).toUInt32 &&& Int32.toUInt32 31)).toInt32) &&& (nI 1431655765))).toUInt32 >>> ((nI 2).toUInt32 &&& Int32.toUInt32 31)).toInt32) &&& (nI 858993459))) + ((((((nI x) - ((((nI x).toUInt32 >>> ((nI 1).toUInt32 &&& Int32.toUInt32 31)).toInt32) &&& (nI 1431655765))) &&& (nI 858993459)) + (((((nI x) - ((((nI x).toUInt32 >>> ((nI 1).toUInt32 &&& Int32.toUInt32 31)).toInt32) &&& (nI 1431655765))).toUInt32 >>> ((nI 2).toUInt32 &&& Int32.toUInt32 31)).toInt32) &&& (nI 858993459))).toUInt32 >>> ((nI 4).toUInt32 &&& Int32.toUInt32 31)).toInt32)) &&& (nI 252645135)).toUInt32 >>> ((nI 8).toUInt32 &&& Int32.toUInt32 31)).toInt32)).toUInt32 >>> ((nI 16).toUInt32 &&& Int32.toUInt32 31)).toInt32)) &&& (nI 63))) hx hb rfl dJ6_bitCount_0f7a4_51 ?_
  exact n_reti hx hb hr hlocks (post := fun r : Int32 => r = (nI (bitsN x 11))) (bcI_eq x hx2) rfl dJ6_bitCount_0f7a4_52

set_option maxHeartbeats 4000000 in
set_option maxRecDepth 100000 in
theorem c_X4_copyFrom (lQ : Launch) (D : va_G) (kA : Nat → ClassId) (q : Nat → Nat) (cc : Nat) (ac : Nat → Nat) (co : Nat → Nat) (ad : Nat) (rc : Nat) (nm : Nat → Nat) (st : Nat → Nat) (an : Nat → Nat) (q2 : Nat → Nat) (cc2 : Nat) (ac2 : Nat → Nat) (co2 : Nat → Nat) (ad2 : Nat) (rc2 : Nat) (nm2 : Nat → Nat) (st2 : Nat → Nat) (an2 : Nat → Nat) (sz : Nat)  : Met lQ yX4_copyFrom wsX4_copyFrom (rmN 1 40) (wr_Pc D vwCl [.ref (q 0), .ref (q2 0)] ((wT kA q cc ac co ad rc nm st an) ++ (wT kA q2 cc2 ac2 co2 ad2 rc2 nm2 st2 an2)) (tyK kA) sz) (va_Qv (S := Unit) (fun (u : Unit) => True) (wr_B D vwCl ((wT kA q cc ac co ad rc nm st an) ++ (wT kA q2 cc2 ac2 co2 ad2 rc2 nm2 st2 an2)) (tyK kA) sz (fun u => ((wT kA q cc2 ac2 co2 ad2 rc2 nm2 st2 an2) ++ (wT kA q2 cc2 ac2 co2 ad2 rc2 nm2 st2 an2)))) (va_A ((wT kA q cc ac co ad rc nm st an) ++ (wT kA q2 cc2 ac2 co2 ad2 rc2 nm2 st2 an2)) sz)) 0 0 (va_A ((wT kA q cc ac co ad rc nm st an) ++ (wT kA q2 cc2 ac2 co2 ad2 rc2 nm2 st2 an2)) sz) := by
  refine Met.ofW (cc := cX4_copyFrom) (maxL := 2) (ret := none) (by decide) rfl ?_
  intro pQ eQ s mQ args below meth cQ s₁ B hml hv
  obtain ⟨rfl, hsz, hP, hK, hD0⟩ := hv
  have hx := B.exec
  have hb := B.bytes
  have hr := B.returns
  have hts := atoms_spec (ws := wsX4_copyFrom) B.pre
  have hown : s.vm.findClass RX4 = some mQ.cls := findClass_of_methodNamed B.named
  have hlocks : meth.locks = false := B.notSynchronized
  have hS0 : CallFix pQ mQ cQ cX4_copyFrom 2 s ([.ref (q 0), .ref (q2 0)] : List Value).toArray wsX4_copyFrom RX4 := ⟨hx, hb, hml, hown, hts⟩
  subst hsz
  have hD := hD0.self (sz := s.heap.size)
  generalize hAe : va_A ((wT kA q cc ac co ad rc nm st an) ++ (wT kA q2 cc2 ac2 co2 ad2 rc2 nm2 st2 an2)) s.heap.size = A at hD ⊢
  have hA : ∀ q : Nat, s.heap.size ≤ q → A q := fun q h => by rw [← hAe]; exact Or.inr h
  have hS : va_S A s.heap s.heap [] := va_S.rf
  have f27 : (Cond.fieldLink RX4 27 "AskedRules$Table" "conditionCount" "I").before ([.ref (q 0), .ref (q2 0)] : List Value).toArray s = true := hts _ (by decide +kernel)
  have hinX4 : ∀ w ∈ wsX40, w ∈ wsX4_copyFrom := by decide +kernel
  have f31 : (Cond.fieldLink RX4 31 "AskedRules$Table" "added" "I").before ([.ref (q 0), .ref (q2 0)] : List Value).toArray s = true := hts _ (by decide +kernel)
  have f34 : (Cond.fieldLink RX4 34 "AskedRules$Table" "rowCount" "I").before ([.ref (q 0), .ref (q2 0)] : List Value).toArray s = true := hts _ (by decide +kernel)
  have f9 : (Cond.fieldLink RX4 9 "AskedRules$Table" "answerCount" "[I").before ([.ref (q 0), .ref (q2 0)] : List Value).toArray s = true := hts _ (by decide +kernel)
  have m37 : (Cond.methodLink RX4 37 arraycopyName).before ([.ref (q 0), .ref (q2 0)] : List Value).toArray s = true := hts _ (by decide +kernel)
  have mnat : (Cond.native arraycopyName).before ([.ref (q 0), .ref (q2 0)] : List Value).toArray s = true := hts _ (by decide +kernel)
  have mstt : (Cond.static arraycopyName).before ([.ref (q 0), .ref (q2 0)] : List Value).toArray s = true := hts _ (by decide +kernel)
  have mini : (Cond.initialized "java/lang/System").before ([.ref (q 0), .ref (q2 0)] : List Value).toArray s = true := hts _ (by decide +kernel)
  have f15 : (Cond.fieldLink RX4 15 "AskedRules$Table" "cost" "[I").before ([.ref (q 0), .ref (q2 0)] : List Value).toArray s = true := hts _ (by decide +kernel)
  have f18 : (Cond.fieldLink RX4 18 "AskedRules$Table" "number" "[I").before ([.ref (q 0), .ref (q2 0)] : List Value).toArray s = true := hts _ (by decide +kernel)
  have f21 : (Cond.fieldLink RX4 21 "AskedRules$Table" "sets" "[I").before ([.ref (q 0), .ref (q2 0)] : List Value).toArray s = true := hts _ (by decide +kernel)
  have f24 : (Cond.fieldLink RX4 24 "AskedRules$Table" "action" "[I").before ([.ref (q 0), .ref (q2 0)] : List Value).toArray s = true := hts _ (by decide +kernel)
  have hl := lv_entry ([.ref (q 0), .ref (q2 0)]) (n := 2) (Nat.le_of_ble_eq_true rfl)
  rw [lg_entry_eq]
  generalize (lg_sl ([.ref (q 0), .ref (q2 0)]) ++ List.replicate (2 - (lg_sl ([.ref (q 0), .ref (q2 0)])).length) Slot.unset).toArray = ls at hl ⊢
  have hl : lv_has ls 2 [(0, .ref (q 0)), (1, .ref (q2 0))] := hl
  have hP : va_P D vwCl ((wT kA q cc ac co ad rc nm st an) ++ (wT kA q2 cc2 ac2 co2 ad2 rc2 nm2 st2 an2)) s.heap := hP
  have hD : va_D A ((wT kA q cc ac co ad rc nm st an) ++ (wT kA q2 cc2 ac2 co2 ad2 rc2 nm2 st2 an2)) := hD
  refine lv_aload_n hx hb dX4_copyFrom_0 rfl (lv_at hl 0 rfl) ?_
  refine lv_aload_n hx hb dX4_copyFrom_1 rfl (lv_at hl 1 rfl) ?_
  refine n_get (ci := 4) (v := .int (nI cc2)) (C := RX4) (T := TX4) (N := 8) hx hb hts hinX4 hown hK hP 6 rfl rfl 0 rfl ⟨rfl, rfl, rfl⟩ f27 rfl dX4_copyFrom_2 ?_
  refine n_put (ci := 4) (v := .int (nI cc2)) (C := RX4) (T := TX4) (N := 8) (ws' := ((wT kA q cc2 ac co ad rc nm st an) ++ (wT kA q2 cc2 ac2 co2 ad2 rc2 nm2 st2 an2))) hx hb hts hinX4 tyX4 tyX4_ok nmX4 hown hK hP hD hS 0 rfl rfl 0 rfl ⟨rfl, rfl, rfl, rfl⟩ f27 rfl rfl rfl rfl dX4_copyFrom_5 (fun H locs hP hD hS => ?_)
  refine lv_aload_n hx hb dX4_copyFrom_8 rfl (lv_at hl 0 rfl) ?_
  refine lv_aload_n hx hb dX4_copyFrom_9 rfl (lv_at hl 1 rfl) ?_
  refine n_get (ci := 4) (v := .int (nI ad2)) (C := RX4) (T := TX4) (N := 8) hx hb hts hinX4 hown hK hP 6 rfl rfl 3 rfl ⟨rfl, rfl, rfl⟩ f31 rfl dX4_copyFrom_10 ?_
  refine n_put (ci := 4) (v := .int (nI ad2)) (C := RX4) (T := TX4) (N := 8) (ws' := ((wT kA q cc2 ac co ad2 rc nm st an) ++ (wT kA q2 cc2 ac2 co2 ad2 rc2 nm2 st2 an2))) hx hb hts hinX4 tyX4 tyX4_ok nmX4 hown hK hP hD hS 0 rfl rfl 3 rfl ⟨rfl, rfl, rfl, rfl⟩ f31 rfl rfl rfl rfl dX4_copyFrom_13 (fun H locs hP hD hS => ?_)
  refine lv_aload_n hx hb dX4_copyFrom_16 rfl (lv_at hl 0 rfl) ?_
  refine lv_aload_n hx hb dX4_copyFrom_17 rfl (lv_at hl 1 rfl) ?_
  refine n_get (ci := 4) (v := .int (nI rc2)) (C := RX4) (T := TX4) (N := 8) hx hb hts hinX4 hown hK hP 6 rfl rfl 4 rfl ⟨rfl, rfl, rfl⟩ f34 rfl dX4_copyFrom_18 ?_
  refine n_put (ci := 4) (v := .int (nI rc2)) (C := RX4) (T := TX4) (N := 8) (ws' := ((wT kA q cc2 ac co ad2 rc2 nm st an) ++ (wT kA q2 cc2 ac2 co2 ad2 rc2 nm2 st2 an2))) hx hb hts hinX4 tyX4 tyX4_ok nmX4 hown hK hP hD hS 0 rfl rfl 4 rfl ⟨rfl, rfl, rfl, rfl⟩ f34 rfl rfl rfl rfl dX4_copyFrom_21 (fun H locs hP hD hS => ?_)
  refine lv_aload_n hx hb dX4_copyFrom_24 rfl (lv_at hl 1 rfl) ?_
  refine n_get (ci := 4) (v := .ref (q2 1)) (C := RX4) (T := TX4) (N := 8) hx hb hts hinX4 hown hK hP 6 rfl rfl 1 rfl ⟨rfl, rfl, rfl⟩ f9 rfl dX4_copyFrom_25 ?_
  refine lv_iconst (v := (nI 0)) hx hb dX4_copyFrom_28 (by decide) ?_
  refine lv_aload_n hx hb dX4_copyFrom_29 rfl (lv_at hl 0 rfl) ?_
  refine n_get (ci := 4) (v := .ref (q 1)) (C := RX4) (T := TX4) (N := 8) hx hb hts hinX4 hown hK hP 0 rfl rfl 1 rfl ⟨rfl, rfl, rfl⟩ f9 rfl dX4_copyFrom_30 ?_
  refine lv_iconst (v := (nI 0)) hx hb dX4_copyFrom_33 (by decide) ?_
  refine lv_iconst (v := (nI 5)) hx hb dX4_copyFrom_34 (by decide) ?_
  refine n_copy (ws' := ((wT kA q cc2 (va_cpy ac2 ac 0 0 5) co ad2 rc2 nm st an) ++ (wT kA q2 cc2 ac2 co2 ad2 rc2 nm2 st2 an2))) hx hb (hml.trans hl.1.symm) hown m37 mnat mstt mini hK hP hD hS 7 1 rfl rfl rfl (Nat.le_of_ble_eq_true rfl) (Nat.le_of_ble_eq_true rfl) (Nat.le_of_ble_eq_true rfl) rfl dX4_copyFrom_35 (fun H locs hP hD hS => ?_)
  refine lv_aload_n hx hb dX4_copyFrom_38 rfl (lv_at hl 1 rfl) ?_
  refine n_get (ci := 4) (v := .ref (q2 2)) (C := RX4) (T := TX4) (N := 8) hx hb hts hinX4 hown hK hP 6 rfl rfl 2 rfl ⟨rfl, rfl, rfl⟩ f15 rfl dX4_copyFrom_39 ?_
  refine lv_iconst (v := (nI 0)) hx hb dX4_copyFrom_42 (by decide) ?_
  refine lv_aload_n hx hb dX4_copyFrom_43 rfl (lv_at hl 0 rfl) ?_
  refine n_get (ci := 4) (v := .ref (q 2)) (C := RX4) (T := TX4) (N := 8) hx hb hts hinX4 hown hK hP 0 rfl rfl 2 rfl ⟨rfl, rfl, rfl⟩ f15 rfl dX4_copyFrom_44 ?_
  refine lv_iconst (v := (nI 0)) hx hb dX4_copyFrom_47 (by decide) ?_
  refine lv_iconst (v := (nI 5)) hx hb dX4_copyFrom_48 (by decide) ?_
  refine n_copy (ws' := ((wT kA q cc2 (va_cpy ac2 ac 0 0 5) (va_cpy co2 co 0 0 5) ad2 rc2 nm st an) ++ (wT kA q2 cc2 ac2 co2 ad2 rc2 nm2 st2 an2))) hx hb (hml.trans hl.1.symm) hown m37 mnat mstt mini hK hP hD hS 8 2 rfl rfl rfl (Nat.le_of_ble_eq_true rfl) (Nat.le_of_ble_eq_true rfl) (Nat.le_of_ble_eq_true rfl) rfl dX4_copyFrom_49 (fun H locs hP hD hS => ?_)
  refine lv_aload_n hx hb dX4_copyFrom_52 rfl (lv_at hl 1 rfl) ?_
  refine n_get (ci := 4) (v := .ref (q2 3)) (C := RX4) (T := TX4) (N := 8) hx hb hts hinX4 hown hK hP 6 rfl rfl 5 rfl ⟨rfl, rfl, rfl⟩ f18 rfl dX4_copyFrom_53 ?_
  refine lv_iconst (v := (nI 0)) hx hb dX4_copyFrom_56 (by decide) ?_
  refine lv_aload_n hx hb dX4_copyFrom_57 rfl (lv_at hl 0 rfl) ?_
  refine n_get (ci := 4) (v := .ref (q 3)) (C := RX4) (T := TX4) (N := 8) hx hb hts hinX4 hown hK hP 0 rfl rfl 5 rfl ⟨rfl, rfl, rfl⟩ f18 rfl dX4_copyFrom_58 ?_
  refine lv_iconst (v := (nI 0)) hx hb dX4_copyFrom_61 (by decide) ?_
  refine lv_bipush (v := (nI 20)) hx hb dX4_copyFrom_62 (by decide) ?_
  refine n_copy (ws' := ((wT kA q cc2 (va_cpy ac2 ac 0 0 5) (va_cpy co2 co 0 0 5) ad2 rc2 (va_cpy nm2 nm 0 0 20) st an) ++ (wT kA q2 cc2 ac2 co2 ad2 rc2 nm2 st2 an2))) hx hb (hml.trans hl.1.symm) hown m37 mnat mstt mini hK hP hD hS 9 3 rfl rfl rfl (Nat.le_of_ble_eq_true rfl) (Nat.le_of_ble_eq_true rfl) (Nat.le_of_ble_eq_true rfl) rfl dX4_copyFrom_64 (fun H locs hP hD hS => ?_)
  refine lv_aload_n hx hb dX4_copyFrom_67 rfl (lv_at hl 1 rfl) ?_
  refine n_get (ci := 4) (v := .ref (q2 4)) (C := RX4) (T := TX4) (N := 8) hx hb hts hinX4 hown hK hP 6 rfl rfl 6 rfl ⟨rfl, rfl, rfl⟩ f21 rfl dX4_copyFrom_68 ?_
  refine lv_iconst (v := (nI 0)) hx hb dX4_copyFrom_71 (by decide) ?_
  refine lv_aload_n hx hb dX4_copyFrom_72 rfl (lv_at hl 0 rfl) ?_
  refine n_get (ci := 4) (v := .ref (q 4)) (C := RX4) (T := TX4) (N := 8) hx hb hts hinX4 hown hK hP 0 rfl rfl 6 rfl ⟨rfl, rfl, rfl⟩ f21 rfl dX4_copyFrom_73 ?_
  refine lv_iconst (v := (nI 0)) hx hb dX4_copyFrom_76 (by decide) ?_
  refine lv_bipush (v := (nI 20)) hx hb dX4_copyFrom_77 (by decide) ?_
  refine n_copy (ws' := ((wT kA q cc2 (va_cpy ac2 ac 0 0 5) (va_cpy co2 co 0 0 5) ad2 rc2 (va_cpy nm2 nm 0 0 20) (va_cpy st2 st 0 0 20) an) ++ (wT kA q2 cc2 ac2 co2 ad2 rc2 nm2 st2 an2))) hx hb (hml.trans hl.1.symm) hown m37 mnat mstt mini hK hP hD hS 10 4 rfl rfl rfl (Nat.le_of_ble_eq_true rfl) (Nat.le_of_ble_eq_true rfl) (Nat.le_of_ble_eq_true rfl) rfl dX4_copyFrom_79 (fun H locs hP hD hS => ?_)
  refine lv_aload_n hx hb dX4_copyFrom_82 rfl (lv_at hl 1 rfl) ?_
  refine n_get (ci := 4) (v := .ref (q2 5)) (C := RX4) (T := TX4) (N := 8) hx hb hts hinX4 hown hK hP 6 rfl rfl 7 rfl ⟨rfl, rfl, rfl⟩ f24 rfl dX4_copyFrom_83 ?_
  refine lv_iconst (v := (nI 0)) hx hb dX4_copyFrom_86 (by decide) ?_
  refine lv_aload_n hx hb dX4_copyFrom_87 rfl (lv_at hl 0 rfl) ?_
  refine n_get (ci := 4) (v := .ref (q 5)) (C := RX4) (T := TX4) (N := 8) hx hb hts hinX4 hown hK hP 0 rfl rfl 7 rfl ⟨rfl, rfl, rfl⟩ f24 rfl dX4_copyFrom_88 ?_
  refine lv_iconst (v := (nI 0)) hx hb dX4_copyFrom_91 (by decide) ?_
  refine lv_bipush (v := (nI 20)) hx hb dX4_copyFrom_92 (by decide) ?_
  refine n_copy (ws' := ((wT kA q cc2 (va_cpy ac2 ac 0 0 5) (va_cpy co2 co 0 0 5) ad2 rc2 (va_cpy nm2 nm 0 0 20) (va_cpy st2 st 0 0 20) (va_cpy an2 an 0 0 20)) ++ (wT kA q2 cc2 ac2 co2 ad2 rc2 nm2 st2 an2))) hx hb (hml.trans hl.1.symm) hown m37 mnat mstt mini hK hP hD hS 11 5 rfl rfl rfl (Nat.le_of_ble_eq_true rfl) (Nat.le_of_ble_eq_true rfl) (Nat.le_of_ble_eq_true rfl) rfl dX4_copyFrom_94 (fun H locs hP hD hS => ?_)
  have hP0 := va_P_app.mp hP
  have hP : va_P D vwCl (wT kA q cc2 ac2 co2 ad2 rc2 nm2 st2 an2 ++ wT kA q2 cc2 ac2 co2 ad2 rc2 nm2 st2 an2) H := va_P_app.mpr ⟨wT_P hP0.1 rfl rfl rfl (fun k hk => cpy_lt hk) (fun k hk => cpy_lt hk) (fun k hk => cpy_lt hk) (fun k hk => cpy_lt hk) (fun k hk => cpy_lt hk), hP0.2⟩
  have hD : va_D A (wT kA q cc2 ac2 co2 ad2 rc2 nm2 st2 an2 ++ wT kA q2 cc2 ac2 co2 ad2 rc2 nm2 st2 an2) := va_D_cong hD rfl
  have hP : va_P D vwCl ((wT kA q cc2 ac2 co2 ad2 rc2 nm2 st2 an2) ++ (wT kA q2 cc2 ac2 co2 ad2 rc2 nm2 st2 an2)) H := hP
  have hD : va_D A ((wT kA q cc2 ac2 co2 ad2 rc2 nm2 st2 an2) ++ (wT kA q2 cc2 ac2 co2 ad2 rc2 nm2 st2 an2)) := hD
  exact n_wretv hx hb hr hlocks (post := fun (u : Unit) => True) (w1 := fun u => ((wT kA q cc2 ac2 co2 ad2 rc2 nm2 st2 an2) ++ (wT kA q2 cc2 ac2 co2 ad2 rc2 nm2 st2 an2))) () trivial hP hD hK hS hAe dX4_copyFrom_97

set_option maxHeartbeats 4000000 in
set_option maxRecDepth 100000 in
theorem c_X4_appendRow (lQ : Launch) (D : va_G) (kA : Nat → ClassId) (q : Nat → Nat) (cc : Nat) (ac : Nat → Nat) (co : Nat → Nat) (ad : Nat) (rc : Nat) (nm : Nat → Nat) (st : Nat → Nat) (an : Nat → Nat) (s0 : Nat) (a : Nat) (sz : Nat) (hrc : rc < 20) : Met lQ yX4_appendRow wsX4_appendRow (rmN 0 0) (wr_Pc D vwCl [.ref (q 0), .int (nI s0), .int (nI a)] (wT kA q cc ac co ad rc nm st an) (tyK kA) sz) (va_Qi (S := Unit) (fun (r : Int32) (u : Unit) => r = (nI ad)) (wr_B D vwCl (wT kA q cc ac co ad rc nm st an) (tyK kA) sz (fun u => (wT kA q cc ac co (ad + 1) (rc + 1) (va_up nm rc ad) (va_up st rc s0) (va_up an rc a)))) (va_A (wT kA q cc ac co ad rc nm st an) sz)) 0 0 (va_A (wT kA q cc ac co ad rc nm st an) sz) := by
  refine Met.ofW (cc := cX4_appendRow) (maxL := 4) (ret := (some .int)) (by decide) rfl ?_
  intro pQ eQ s mQ args below meth cQ s₁ B hml hv
  obtain ⟨rfl, hsz, hP, hK, hD0⟩ := hv
  have hx := B.exec
  have hb := B.bytes
  have hr := B.returns
  have hts := atoms_spec (ws := wsX4_appendRow) B.pre
  have hown : s.vm.findClass RX4 = some mQ.cls := findClass_of_methodNamed B.named
  have hlocks : meth.locks = false := B.notSynchronized
  have hS0 : CallFix pQ mQ cQ cX4_appendRow 4 s ([.ref (q 0), .int (nI s0), .int (nI a)] : List Value).toArray wsX4_appendRow RX4 := ⟨hx, hb, hml, hown, hts⟩
  subst hsz
  have hD := hD0.self (sz := s.heap.size)
  generalize hAe : va_A (wT kA q cc ac co ad rc nm st an) s.heap.size = A at hD ⊢
  have hA : ∀ q : Nat, s.heap.size ≤ q → A q := fun q h => by rw [← hAe]; exact Or.inr h
  have hS : va_S A s.heap s.heap [] := va_S.rf
  have f31 : (Cond.fieldLink RX4 31 "AskedRules$Table" "added" "I").before ([.ref (q 0), .int (nI s0), .int (nI a)] : List Value).toArray s = true := hts _ (by decide +kernel)
  have hinX4 : ∀ w ∈ wsX40, w ∈ wsX4_appendRow := by decide +kernel
  have f18 : (Cond.fieldLink RX4 18 "AskedRules$Table" "number" "[I").before ([.ref (q 0), .int (nI s0), .int (nI a)] : List Value).toArray s = true := hts _ (by decide +kernel)
  have f34 : (Cond.fieldLink RX4 34 "AskedRules$Table" "rowCount" "I").before ([.ref (q 0), .int (nI s0), .int (nI a)] : List Value).toArray s = true := hts _ (by decide +kernel)
  have f21 : (Cond.fieldLink RX4 21 "AskedRules$Table" "sets" "[I").before ([.ref (q 0), .int (nI s0), .int (nI a)] : List Value).toArray s = true := hts _ (by decide +kernel)
  have f24 : (Cond.fieldLink RX4 24 "AskedRules$Table" "action" "[I").before ([.ref (q 0), .int (nI s0), .int (nI a)] : List Value).toArray s = true := hts _ (by decide +kernel)
  have hl := lv_entry ([.ref (q 0), .int (nI s0), .int (nI a)]) (n := 4) (Nat.le_of_ble_eq_true rfl)
  rw [lg_entry_eq]
  generalize (lg_sl ([.ref (q 0), .int (nI s0), .int (nI a)]) ++ List.replicate (4 - (lg_sl ([.ref (q 0), .int (nI s0), .int (nI a)])).length) Slot.unset).toArray = ls at hl ⊢
  have hl : lv_has ls 4 [(0, .ref (q 0)), (1, .int (nI s0)), (2, .int (nI a))] := hl
  have hP : va_P D vwCl (wT kA q cc ac co ad rc nm st an) s.heap := hP
  have hD : va_D A (wT kA q cc ac co ad rc nm st an) := hD
  refine lv_aload_n hx hb dX4_appendRow_0 rfl (lv_at hl 0 rfl) ?_
  refine n_get (ci := 4) (v := .int (nI ad)) (C := RX4) (T := TX4) (N := 8) hx hb hts hinX4 hown hK hP 0 rfl rfl 3 rfl ⟨rfl, rfl, rfl⟩ f31 rfl dX4_appendRow_1 ?_
  refine lv_istore_n (lv' := [(3, .int (nI ad)), (0, .ref (q 0)), (1, .int (nI s0)), (2, .int (nI a))]) hx hb dX4_appendRow_4 rfl hl (by decide) rfl (fun ls hl => ?_)
  refine lv_aload_n hx hb dX4_appendRow_5 rfl (lv_at hl 1 rfl) ?_
  refine n_get (ci := 4) (v := .ref (q 3)) (C := RX4) (T := TX4) (N := 8) hx hb hts hinX4 hown hK hP 0 rfl rfl 5 rfl ⟨rfl, rfl, rfl⟩ f18 rfl dX4_appendRow_6 ?_
  refine lv_aload_n hx hb dX4_appendRow_9 rfl (lv_at hl 1 rfl) ?_
  refine n_get (ci := 4) (v := .int (nI rc)) (C := RX4) (T := TX4) (N := 8) hx hb hts hinX4 hown hK hP 0 rfl rfl 4 rfl ⟨rfl, rfl, rfl⟩ f34 rfl dX4_appendRow_10 ?_
  refine lv_iload_n hx hb dX4_appendRow_13 rfl (lv_at hl 0 rfl) ?_
  refine n_iast (i := rc) (x := (nI ad)) (g := aN (va_up nm rc ad)) (ws' := (wT kA q cc ac co ad rc (va_up nm rc ad) st an)) hx hb hK hP hD hS 3 0 rfl rfl (by omega) (Nat.le_of_ble_eq_true rfl) (aN_up _ _ _) rfl dX4_appendRow_14 (fun H locs hP hD hS => ?_)
  refine lv_aload_n hx hb dX4_appendRow_15 rfl (lv_at hl 1 rfl) ?_
  refine n_get (ci := 4) (v := .ref (q 4)) (C := RX4) (T := TX4) (N := 8) hx hb hts hinX4 hown hK hP 0 rfl rfl 6 rfl ⟨rfl, rfl, rfl⟩ f21 rfl dX4_appendRow_16 ?_
  refine lv_aload_n hx hb dX4_appendRow_19 rfl (lv_at hl 1 rfl) ?_
  refine n_get (ci := 4) (v := .int (nI rc)) (C := RX4) (T := TX4) (N := 8) hx hb hts hinX4 hown hK hP 0 rfl rfl 4 rfl ⟨rfl, rfl, rfl⟩ f34 rfl dX4_appendRow_20 ?_
  refine lv_iload_n hx hb dX4_appendRow_23 rfl (lv_at hl 2 rfl) ?_
  refine n_iast (i := rc) (x := (nI s0)) (g := aN (va_up st rc s0)) (ws' := (wT kA q cc ac co ad rc (va_up nm rc ad) (va_up st rc s0) an)) hx hb hK hP hD hS 4 0 rfl rfl (by omega) (Nat.le_of_ble_eq_true rfl) (aN_up _ _ _) rfl dX4_appendRow_24 (fun H locs hP hD hS => ?_)
  refine lv_aload_n hx hb dX4_appendRow_25 rfl (lv_at hl 1 rfl) ?_
  refine n_get (ci := 4) (v := .ref (q 5)) (C := RX4) (T := TX4) (N := 8) hx hb hts hinX4 hown hK hP 0 rfl rfl 7 rfl ⟨rfl, rfl, rfl⟩ f24 rfl dX4_appendRow_26 ?_
  refine lv_aload_n hx hb dX4_appendRow_29 rfl (lv_at hl 1 rfl) ?_
  refine n_get (ci := 4) (v := .int (nI rc)) (C := RX4) (T := TX4) (N := 8) hx hb hts hinX4 hown hK hP 0 rfl rfl 4 rfl ⟨rfl, rfl, rfl⟩ f34 rfl dX4_appendRow_30 ?_
  refine lv_iload_n hx hb dX4_appendRow_33 rfl (lv_at hl 3 rfl) ?_
  refine n_iast (i := rc) (x := (nI a)) (g := aN (va_up an rc a)) (ws' := (wT kA q cc ac co ad rc (va_up nm rc ad) (va_up st rc s0) (va_up an rc a))) hx hb hK hP hD hS 5 0 rfl rfl (by omega) (Nat.le_of_ble_eq_true rfl) (aN_up _ _ _) rfl dX4_appendRow_34 (fun H locs hP hD hS => ?_)
  refine lv_aload_n hx hb dX4_appendRow_35 rfl (lv_at hl 1 rfl) ?_
  refine lv_dup hx hb dX4_appendRow_36 rfl ?_
  refine n_get (ci := 4) (v := .int (nI rc)) (C := RX4) (T := TX4) (N := 8) hx hb hts hinX4 hown hK hP 0 rfl rfl 4 rfl ⟨rfl, rfl, rfl⟩ f34 rfl dX4_appendRow_37 ?_
  refine lv_iconst (v := (nI 1)) hx hb dX4_appendRow_40 (by decide) ?_
  refine n_iadd (v := (nI (rc + 1))) hx hb (nI_add _ _) dX4_appendRow_41 ?_
  refine n_put (ci := 4) (v := .int (nI (rc + 1))) (C := RX4) (T := TX4) (N := 8) (ws' := (wT kA q cc ac co ad (rc + 1) (va_up nm rc ad) (va_up st rc s0) (va_up an rc a))) hx hb hts hinX4 tyX4 tyX4_ok nmX4 hown hK hP hD hS 0 rfl rfl 4 rfl ⟨rfl, rfl, rfl, rfl⟩ f34 rfl rfl rfl rfl dX4_appendRow_42 (fun H locs hP hD hS => ?_)
  refine lv_aload_n hx hb dX4_appendRow_45 rfl (lv_at hl 1 rfl) ?_
  refine lv_dup hx hb dX4_appendRow_46 rfl ?_
  refine n_get (ci := 4) (v := .int (nI ad)) (C := RX4) (T := TX4) (N := 8) hx hb hts hinX4 hown hK hP 0 rfl rfl 3 rfl ⟨rfl, rfl, rfl⟩ f31 rfl dX4_appendRow_47 ?_
  refine lv_iconst (v := (nI 1)) hx hb dX4_appendRow_50 (by decide) ?_
  refine n_iadd (v := (nI (ad + 1))) hx hb (nI_add _ _) dX4_appendRow_51 ?_
  refine n_put (ci := 4) (v := .int (nI (ad + 1))) (C := RX4) (T := TX4) (N := 8) (ws' := (wT kA q cc ac co (ad + 1) (rc + 1) (va_up nm rc ad) (va_up st rc s0) (va_up an rc a))) hx hb hts hinX4 tyX4 tyX4_ok nmX4 hown hK hP hD hS 0 rfl rfl 3 rfl ⟨rfl, rfl, rfl, rfl⟩ f31 rfl rfl rfl rfl dX4_appendRow_52 (fun H locs hP hD hS => ?_)
  refine lv_iload_n hx hb dX4_appendRow_55 rfl (lv_at hl 0 rfl) ?_
  exact n_wreti hx hb hr hlocks (post := fun (r : Int32) (u : Unit) => r = (nI ad)) (w1 := fun u => (wT kA q cc ac co (ad + 1) (rc + 1) (va_up nm rc ad) (va_up st rc s0) (va_up an rc a))) () rfl hP hD hK hS hAe dX4_appendRow_56

set_option maxHeartbeats 4000000 in
set_option maxRecDepth 100000 in
theorem c_X4_appendCondition (lQ : Launch) (D : va_G) (kA : Nat → ClassId) (q : Nat → Nat) (cc : Nat) (ac : Nat → Nat) (co : Nat → Nat) (ad : Nat) (rc : Nat) (nm : Nat → Nat) (st : Nat → Nat) (an : Nat → Nat) (a : Nat) (x : Nat) (sz : Nat) (hcc : cc < 5) (ha : a ≤ 4) (hrc : rc ≤ 20) : Met lQ yX4_appendCondition wsX4_appendCondition (rmN 1 21) (wr_Pc D vwCl [.ref (q 0), .int (nI a), .int (nI x)] (wT kA q cc ac co ad rc nm st an) (tyK kA) sz) (va_Qi (S := Unit) (fun (r : Int32) (u : Unit) => r = (nI cc)) (wr_B D vwCl (wT kA q cc ac co ad rc nm st an) (tyK kA) sz (fun u => (wT kA q (cc + 1) (va_up ac cc a) (va_up co cc x) ad rc nm (ordF st rc (fulN a <<< (4 * cc))) an))) (va_A (wT kA q cc ac co ad rc nm st an) sz)) 0 0 (va_A (wT kA q cc ac co ad rc nm st an) sz) := by
  refine Met.ofW (cc := cX4_appendCondition) (maxL := 5) (ret := (some .int)) (by decide) rfl ?_
  intro pQ eQ s mQ args below meth cQ s₁ B hml hv
  obtain ⟨rfl, hsz, hP, hK, hD0⟩ := hv
  have hx := B.exec
  have hb := B.bytes
  have hr := B.returns
  have hts := atoms_spec (ws := wsX4_appendCondition) B.pre
  have hown : s.vm.findClass RX4 = some mQ.cls := findClass_of_methodNamed B.named
  have hlocks : meth.locks = false := B.notSynchronized
  have hS0 : CallFix pQ mQ cQ cX4_appendCondition 5 s ([.ref (q 0), .int (nI a), .int (nI x)] : List Value).toArray wsX4_appendCondition RX4 := ⟨hx, hb, hml, hown, hts⟩
  subst hsz
  have hD := hD0.self (sz := s.heap.size)
  generalize hAe : va_A (wT kA q cc ac co ad rc nm st an) s.heap.size = A at hD ⊢
  have hA : ∀ q : Nat, s.heap.size ≤ q → A q := fun q h => by rw [← hAe]; exact Or.inr h
  have hS : va_S A s.heap s.heap [] := va_S.rf
  have f27 : (Cond.fieldLink RX4 27 "AskedRules$Table" "conditionCount" "I").before ([.ref (q 0), .int (nI a), .int (nI x)] : List Value).toArray s = true := hts _ (by decide +kernel)
  have hinX4 : ∀ w ∈ wsX40, w ∈ wsX4_appendCondition := by decide +kernel
  have f9 : (Cond.fieldLink RX4 9 "AskedRules$Table" "answerCount" "[I").before ([.ref (q 0), .int (nI a), .int (nI x)] : List Value).toArray s = true := hts _ (by decide +kernel)
  have f15 : (Cond.fieldLink RX4 15 "AskedRules$Table" "cost" "[I").before ([.ref (q 0), .int (nI a), .int (nI x)] : List Value).toArray s = true := hts _ (by decide +kernel)
  have f34 : (Cond.fieldLink RX4 34 "AskedRules$Table" "rowCount" "I").before ([.ref (q 0), .int (nI a), .int (nI x)] : List Value).toArray s = true := hts _ (by decide +kernel)
  have f21 : (Cond.fieldLink RX4 21 "AskedRules$Table" "sets" "[I").before ([.ref (q 0), .int (nI a), .int (nI x)] : List Value).toArray s = true := hts _ (by decide +kernel)
  have hl := lv_entry ([.ref (q 0), .int (nI a), .int (nI x)]) (n := 5) (Nat.le_of_ble_eq_true rfl)
  rw [lg_entry_eq]
  generalize (lg_sl ([.ref (q 0), .int (nI a), .int (nI x)]) ++ List.replicate (5 - (lg_sl ([.ref (q 0), .int (nI a), .int (nI x)])).length) Slot.unset).toArray = ls at hl ⊢
  have hl : lv_has ls 5 [(0, .ref (q 0)), (1, .int (nI a)), (2, .int (nI x))] := hl
  have hP : va_P D vwCl (wT kA q cc ac co ad rc nm st an) s.heap := hP
  have hD : va_D A (wT kA q cc ac co ad rc nm st an) := hD
  refine lv_aload_n hx hb dX4_appendCondition_0 rfl (lv_at hl 0 rfl) ?_
  refine n_get (ci := 4) (v := .int (nI cc)) (C := RX4) (T := TX4) (N := 8) hx hb hts hinX4 hown hK hP 0 rfl rfl 0 rfl ⟨rfl, rfl, rfl⟩ f27 rfl dX4_appendCondition_1 ?_
  refine lv_istore_n (lv' := [(3, .int (nI cc)), (0, .ref (q 0)), (1, .int (nI a)), (2, .int (nI x))]) hx hb dX4_appendCondition_4 rfl hl (by decide) rfl (fun ls hl => ?_)
  refine lv_aload_n hx hb dX4_appendCondition_5 rfl (lv_at hl 1 rfl) ?_
  refine n_get (ci := 4) (v := .ref (q 1)) (C := RX4) (T := TX4) (N := 8) hx hb hts hinX4 hown hK hP 0 rfl rfl 1 rfl ⟨rfl, rfl, rfl⟩ f9 rfl dX4_appendCondition_6 ?_
  refine lv_iload_n hx hb dX4_appendCondition_9 rfl (lv_at hl 0 rfl) ?_
  refine lv_iload_n hx hb dX4_appendCondition_10 rfl (lv_at hl 2 rfl) ?_
  refine n_iast (i := cc) (x := (nI a)) (g := aN (va_up ac cc a)) (ws' := (wT kA q cc (va_up ac cc a) co ad rc nm st an)) hx hb hK hP hD hS 1 0 rfl rfl (by omega) (Nat.le_of_ble_eq_true rfl) (aN_up _ _ _) rfl dX4_appendCondition_11 (fun H locs hP hD hS => ?_)
  refine lv_aload_n hx hb dX4_appendCondition_12 rfl (lv_at hl 1 rfl) ?_
  refine n_get (ci := 4) (v := .ref (q 2)) (C := RX4) (T := TX4) (N := 8) hx hb hts hinX4 hown hK hP 0 rfl rfl 2 rfl ⟨rfl, rfl, rfl⟩ f15 rfl dX4_appendCondition_13 ?_
  refine lv_iload_n hx hb dX4_appendCondition_16 rfl (lv_at hl 0 rfl) ?_
  refine lv_iload_n hx hb dX4_appendCondition_17 rfl (lv_at hl 3 rfl) ?_
  refine n_iast (i := cc) (x := (nI x)) (g := aN (va_up co cc x)) (ws' := (wT kA q cc (va_up ac cc a) (va_up co cc x) ad rc nm st an)) hx hb hK hP hD hS 2 0 rfl rfl (by omega) (Nat.le_of_ble_eq_true rfl) (aN_up _ _ _) rfl dX4_appendCondition_18 (fun H locs hP hD hS => ?_)
  refine lv_aload_n hx hb dX4_appendCondition_19 rfl (lv_at hl 1 rfl) ?_
  refine lv_dup hx hb dX4_appendCondition_20 rfl ?_
  refine n_get (ci := 4) (v := .int (nI cc)) (C := RX4) (T := TX4) (N := 8) hx hb hts hinX4 hown hK hP 0 rfl rfl 0 rfl ⟨rfl, rfl, rfl⟩ f27 rfl dX4_appendCondition_21 ?_
  refine lv_iconst (v := (nI 1)) hx hb dX4_appendCondition_24 (by decide) ?_
  refine n_iadd (v := (nI (cc + 1))) hx hb (nI_add _ _) dX4_appendCondition_25 ?_
  refine n_put (ci := 4) (v := .int (nI (cc + 1))) (C := RX4) (T := TX4) (N := 8) (ws' := (wT kA q (cc + 1) (va_up ac cc a) (va_up co cc x) ad rc nm st an)) hx hb hts hinX4 tyX4 tyX4_ok nmX4 hown hK hP hD hS 0 rfl rfl 0 rfl ⟨rfl, rfl, rfl, rfl⟩ f27 rfl rfl rfl rfl dX4_appendCondition_26 (fun H locs hP hD hS => ?_)
  refine lv_iconst (v := (nI 0)) hx hb dX4_appendCondition_29 (by decide) ?_
  refine lv_istore (lv' := [(4, .int (nI 0)), (3, .int (nI cc)), (0, .ref (q 0)), (1, .int (nI a)), (2, .int (nI x))]) hx hb dX4_appendCondition_30 hl (by decide) rfl (fun ls hl => ?_)
  have L32 : ∀ (nQ : Nat) (i : Nat) (st1 : Nat → Nat), rc - i < nQ → (i ≤ rc) → (st1 = ordF st i (fulN a <<< (4 * cc))) → ∀ (H : Heap) (locs : List Loc), va_P D vwCl (wT kA q (cc + 1) (va_up ac cc a) (va_up co cc x) ad rc nm st1 an) H → va_D A (wT kA q (cc + 1) (va_up ac cc a) (va_up co cc x) ad rc nm st1 an) → va_S A s.heap H locs → ∀ (ls : Array Slot), lv_has ls 5 [(4, .int (nI i)), (3, .int (nI cc)), (0, .ref (q 0)), (1, .int (nI a)), (2, .int (nI x))] → W pQ lQ eQ (headSpec wsX4_appendCondition (rmN 1 21)).room s mQ ([.ref (q 0), .int (nI a), .int (nI x)] : List Value).toArray below meth cQ H locs 0 0 (MQ below (va_Qi (S := Unit) (fun (r : Int32) (u : Unit) => r = (nI cc)) (wr_B D vwCl (wT kA q cc ac co ad rc nm st an) (tyK kA) s.heap.size (fun u => (wT kA q (cc + 1) (va_up ac cc a) (va_up co cc x) ad rc nm (ordF st rc (fulN a <<< (4 * cc))) an))) A) ([.ref (q 0), .int (nI a), .int (nI x)] : List Value).toArray s 0 0 A) (F0 mQ 32 ls []) := by
    intro nQ
    induction nQ with
    | zero => intro i st1 hn; exact absurd hn (Nat.not_lt_zero _)
    | succ nQ ih32 =>
      intro i st1 hm32 hi h1 H locs hP hD hS ls hl
      refine lv_iload hx hb dX4_appendCondition_32 (lv_at hl 0 rfl) ?_
      refine lv_aload_n hx hb dX4_appendCondition_34 rfl (lv_at hl 2 rfl) ?_
      refine n_get (ci := 4) (v := .int (nI rc)) (C := RX4) (T := TX4) (N := 8) hx hb hts hinX4 hown hK hP 0 rfl rfl 4 rfl ⟨rfl, rfl, rfl⟩ f34 rfl dX4_appendCondition_35 ?_
      refine n_icmp_ge (a := i) (b := rc) (tgt := 66) hx hb (by omega) (by omega) dX4_appendCondition_38 (by decide) (fun c38 => ?_) (fun c38 => ?_)
      · refine lv_iload_n hx hb dX4_appendCondition_66 rfl (lv_at hl 1 rfl) ?_
        have e9 : rc = i := by omega
        subst e9
        subst h1
        have hP : va_P D vwCl (wT kA q (cc + 1) (va_up ac cc a) (va_up co cc x) ad rc nm (ordF st rc (fulN a <<< (4 * cc))) an) H := hP
        have hD : va_D A (wT kA q (cc + 1) (va_up ac cc a) (va_up co cc x) ad rc nm (ordF st rc (fulN a <<< (4 * cc))) an) := hD
        exact n_wreti hx hb hr hlocks (post := fun (r : Int32) (u : Unit) => r = (nI cc)) (w1 := fun u => (wT kA q (cc + 1) (va_up ac cc a) (va_up co cc x) ad rc nm (ordF st rc (fulN a <<< (4 * cc))) an)) () rfl hP hD hK hS hAe dX4_appendCondition_67
      · refine lv_aload_n hx hb dX4_appendCondition_41 rfl (lv_at hl 2 rfl) ?_
        refine n_get (ci := 4) (v := .ref (q 4)) (C := RX4) (T := TX4) (N := 8) hx hb hts hinX4 hown hK hP 0 rfl rfl 6 rfl ⟨rfl, rfl, rfl⟩ f21 rfl dX4_appendCondition_42 ?_
        refine lv_iload hx hb dX4_appendCondition_45 (lv_at hl 0 rfl) ?_
        refine lv_dup2_11 hx hb dX4_appendCondition_47 rfl rfl ?_
        refine n_iald (i := i) (v := (nI (st1 i))) hx hb hK hP 4 0 rfl rfl (by omega) (Nat.le_of_ble_eq_true rfl) rfl dX4_appendCondition_48 ?_
        refine lv_aload_n hx hb dX4_appendCondition_49 rfl (lv_at hl 2 rfl) ?_
        refine lv_iload_n hx hb dX4_appendCondition_50 rfl (lv_at hl 1 rfl) ?_
        refine n_cV (b := q 0) (As := [.int (nI cc)]) (rest := [.int (nI (st1 i)), .int (nI i), .ref (q 4)]) (wc := (wT kA q (cc + 1) (va_up ac cc a) (va_up co cc x) ad rc nm st1 an)) hS0 (c_X4_fullSet lQ D kA q (cc + 1) (va_up ac cc a) (va_up co cc x) ad rc nm st1 an cc (by first | assumption | omega) (by rw [up_s]; exact ha)) (cwV 1 hts gX4_appendCondition_X4_fullSet rfl rfl rfl (by decide +kernel) ⟨Nat.le_of_ble_eq_true rfl, Nat.le_of_ble_eq_true rfl⟩) hP hK (q0 := 0) rfl rfl rfl rfl rfl hl.1 (Nat.le_of_ble_eq_true rfl) dX4_appendCondition_51 ⟨Nat.le_refl _, Nat.le_refl _⟩ (fun r51 h51 => ?_)
        subst h51
        refine lv_iconst (v := (nI 4)) hx hb dX4_appendCondition_54 (by decide) ?_
        refine lv_iload_n hx hb dX4_appendCondition_55 rfl (lv_at hl 1 rfl) ?_
        refine n_imul (v := (nI (4 * cc))) hx hb (pk_mul _ _) dX4_appendCondition_56 ?_
        refine n_ishl (v := (nI ((fulN ((va_up ac cc a) cc)) <<< (4 * cc)))) hx hb (nN_shl _ (by omega)) dX4_appendCondition_57 ?_
        refine n_ior (v := (nI ((st1 i) ||| ((fulN ((va_up ac cc a) cc)) <<< (4 * cc))))) hx hb (nN_or _ _) dX4_appendCondition_58 ?_
        refine n_iast (i := i) (x := (nI ((st1 i) ||| ((fulN ((va_up ac cc a) cc)) <<< (4 * cc))))) (g := aN (va_up st1 i ((st1 i) ||| ((fulN ((va_up ac cc a) cc)) <<< (4 * cc))))) (ws' := (wT kA q (cc + 1) (va_up ac cc a) (va_up co cc x) ad rc nm (va_up st1 i ((st1 i) ||| ((fulN ((va_up ac cc a) cc)) <<< (4 * cc)))) an)) hx hb hK hP hD hS 4 0 rfl rfl (by omega) (Nat.le_of_ble_eq_true rfl) (aN_up _ _ _) rfl dX4_appendCondition_59 (fun H locs hP hD hS => ?_)
        refine lv_iinc (v := (nI (i + 1))) (lv' := [(4, .int (nI (i + 1))), (3, .int (nI cc)), (0, .ref (q 0)), (1, .int (nI a)), (2, .int (nI x))]) hx hb dX4_appendCondition_60 hl (k := 0) rfl (nI_inc _) (by decide) rfl (fun ls hl => ?_)
        refine lv_goto (tgt := 32) hx hb dX4_appendCondition_63 (by decide) ?_
        exact ih32 (i + 1) (va_up st1 i ((st1 i) ||| ((fulN ((va_up ac cc a) cc)) <<< (4 * cc)))) (by omega) (by first | assumption | omega) (by rw [h1, up_s, ordF_up]) _ _ hP hD hS _ (lv_sub hl [0, 1, 2, 3, 4] rfl)
  exact L32 ((rc - 0) + 1) 0 st (Nat.lt_succ_self _) (by first | assumption | omega) (ordF_0 _ _).symm _ _ hP hD hS _ (lv_sub hl [0, 1, 2, 3, 4] rfl)


theorem replN_e (x k s : Nat) : replN x k s = 2 ^ (4 * k) * (2 ^ 4 * (x / 2 ^ (4 * k) / 2 ^ 4) + s) + x % 2 ^ (4 * k) := by
  unfold replN nibN
  rw [Nat.shiftRight_eq_div_pow, show (15 : Nat) = 2 ^ 4 - 1 from rfl, Nat.and_two_pow_sub_one_eq_mod, Nat.shiftLeft_eq, Nat.shiftLeft_eq]
  have h1 := Nat.div_add_mod x (2 ^ (4 * k))
  have h2 := Nat.div_add_mod (x / 2 ^ (4 * k)) (2 ^ 4)
  generalize 2 ^ (4 * k) = P at h1 h2 ⊢
  generalize x / P = A at h1 h2 ⊢
  generalize x % P = lo at h1 ⊢
  generalize A / 2 ^ 4 = hi at h2 ⊢
  generalize A % 2 ^ 4 = nb at h2 ⊢
  have h3 : P * A = P * (2 ^ 4 * hi) + P * nb := by rw [← Nat.mul_add, h2]
  rw [Nat.mul_add P, Nat.mul_comm nb P, Nat.mul_comm s P, ← h1, h3]
  omega
theorem replN_nat {x k s : Nat} (hx : x < 1048576) (hk : k < 5) (hs : s < 16) : (x &&& ((15 <<< (4 * k)) ^^^ 4294967295)) ||| (s <<< (4 * k)) = replN x k s := by
  rw [replN_e]
  apply Nat.eq_of_testBit_eq
  intro j
  have hl : x % 2 ^ (4 * k) < 2 ^ (4 * k) := Nat.mod_lt _ (Nat.two_pow_pos _)
  rw [Nat.testBit_two_pow_mul_add _ hl, Nat.testBit_two_pow_mul_add _ (show s < 2 ^ 4 from hs), Nat.testBit_or, Nat.testBit_and, Nat.testBit_xor, Nat.testBit_shiftLeft, Nat.testBit_shiftLeft, show (4294967295 : Nat) = 2 ^ 32 - 1 from rfl, show (15 : Nat) = 2 ^ 4 - 1 from rfl, Nat.testBit_two_pow_sub_one, Nat.testBit_two_pow_sub_one]
  by_cases h1 : j < 4 * k
  · rw [if_pos h1, Nat.testBit_mod_two_pow]
    simp [h1, show j < 32 by omega, show ¬ 4 * k ≤ j by omega]
  · rw [if_neg h1]
    by_cases h2 : j - 4 * k < 4
    · rw [if_pos h2]
      simp [h2, show 4 * k ≤ j by omega, show j < 32 by omega]
    · rw [if_neg h2, Nat.testBit_div_two_pow, Nat.testBit_div_two_pow]
      have hsb : s.testBit (j - 4 * k) = false := Nat.testBit_lt_two_pow (Nat.lt_of_lt_of_le (show s < 2 ^ 4 from hs) (Nat.pow_le_pow_right (by decide) (by omega)))
      have e : 4 * k + (4 + (j - 4 * k - 4)) = j ∨ (j - 4 * k - 4) + 4 + 4 * k = j := by omega
      have hxb : 32 ≤ j → x.testBit j = false := fun h => Nat.testBit_lt_two_pow (Nat.lt_of_lt_of_le (show x < 2 ^ 20 from hx) (Nat.pow_le_pow_right (by decide) (by omega)))
      have e2 : 4 * k + (4 + (j - 4 * k - 4)) = j := by omega
      have e3 : (j - 4 * k - 4) + 4 + 4 * k = j := by omega
      have e4 : 4 + (j - 4 * k - 4) + 4 * k = j := by omega
      have e5 : 4 * k + ((j - 4 * k - 4) + 4) = j := by omega
      by_cases h3 : j < 32
      · simp [hsb, h2, h3, e2, e3, e4, e5]
      · simp [hsb, h2, h3, e2, e3, e4, e5, hxb (by omega)]
theorem nN_xor (a b : Nat) : nI a ^^^ nI b = nI (a ^^^ b) := by
  apply Int32.toBitVec_inj.mp
  show BitVec.ofNat 32 a ^^^ BitVec.ofNat 32 b = BitVec.ofNat 32 (a ^^^ b)
  apply BitVec.eq_of_toNat_eq
  rw [BitVec.toNat_xor, BitVec.toNat_ofNat, BitVec.toNat_ofNat, BitVec.toNat_ofNat, Nat.xor_mod_two_pow]
theorem replN_eq {x k s : Nat} (hx : x < 1048576) (hk : k < 5) (hs : s < 16) : (nI x &&& (nI (15 <<< (4 * k)) ^^^ oI none)) ||| nI (s <<< (4 * k)) = nI (replN x k s) := by
  rw [show oI none = nI 4294967295 by decide, nN_xor, nN_and, nN_or, replN_nat hx hk hs]

set_option maxHeartbeats 4000000 in
set_option maxRecDepth 100000 in
theorem c_X4_replaceSet (lQ : Launch) (D : va_G) (kA : Nat → ClassId) (q : Nat → Nat) (cc : Nat) (ac : Nat → Nat) (co : Nat → Nat) (ad : Nat) (rc : Nat) (nm : Nat → Nat) (st : Nat → Nat) (an : Nat → Nat) (p : Nat) (k : Nat) (s0 : Nat) (sz : Nat) (hp : p < 20) (hk : k < 5) (hs : st p < 1048576) (hs0 : s0 < 16) : Met lQ yX4_replaceSet wsX4_replaceSet (rmN 1 22) (wr_Pc D vwCl [.ref (q 0), .int (nI p), .int (nI k), .int (nI s0)] (wT kA q cc ac co ad rc nm st an) (tyK kA) sz) (va_Qi (S := Unit) (fun (r : Int32) (u : Unit) => r = (nI (nibN (st p) k))) (wr_B D vwCl (wT kA q cc ac co ad rc nm st an) (tyK kA) sz (fun u => (wT kA q cc ac co ad rc nm (va_up st p (replN (st p) k s0)) an))) (va_A (wT kA q cc ac co ad rc nm st an) sz)) 0 0 (va_A (wT kA q cc ac co ad rc nm st an) sz) := by
  refine Met.ofW (cc := cX4_replaceSet) (maxL := 6) (ret := (some .int)) (by decide) rfl ?_
  intro pQ eQ s mQ args below meth cQ s₁ B hml hv
  obtain ⟨rfl, hsz, hP, hK, hD0⟩ := hv
  have hx := B.exec
  have hb := B.bytes
  have hr := B.returns
  have hts := atoms_spec (ws := wsX4_replaceSet) B.pre
  have hown : s.vm.findClass RX4 = some mQ.cls := findClass_of_methodNamed B.named
  have hlocks : meth.locks = false := B.notSynchronized
  have hS0 : CallFix pQ mQ cQ cX4_replaceSet 6 s ([.ref (q 0), .int (nI p), .int (nI k), .int (nI s0)] : List Value).toArray wsX4_replaceSet RX4 := ⟨hx, hb, hml, hown, hts⟩
  subst hsz
  have hD := hD0.self (sz := s.heap.size)
  generalize hAe : va_A (wT kA q cc ac co ad rc nm st an) s.heap.size = A at hD ⊢
  have hA : ∀ q : Nat, s.heap.size ≤ q → A q := fun q h => by rw [← hAe]; exact Or.inr h
  have hS : va_S A s.heap s.heap [] := va_S.rf
  have f21 : (Cond.fieldLink RX4 21 "AskedRules$Table" "sets" "[I").before ([.ref (q 0), .int (nI p), .int (nI k), .int (nI s0)] : List Value).toArray s = true := hts _ (by decide +kernel)
  have hinX4 : ∀ w ∈ wsX40, w ∈ wsX4_replaceSet := by decide +kernel
  have hl := lv_entry ([.ref (q 0), .int (nI p), .int (nI k), .int (nI s0)]) (n := 6) (Nat.le_of_ble_eq_true rfl)
  rw [lg_entry_eq]
  generalize (lg_sl ([.ref (q 0), .int (nI p), .int (nI k), .int (nI s0)]) ++ List.replicate (6 - (lg_sl ([.ref (q 0), .int (nI p), .int (nI k), .int (nI s0)])).length) Slot.unset).toArray = ls at hl ⊢
  have hl : lv_has ls 6 [(0, .ref (q 0)), (1, .int (nI p)), (2, .int (nI k)), (3, .int (nI s0))] := hl
  have hP : va_P D vwCl (wT kA q cc ac co ad rc nm st an) s.heap := hP
  have hD : va_D A (wT kA q cc ac co ad rc nm st an) := hD
  refine lv_aload_n hx hb dX4_replaceSet_0 rfl (lv_at hl 0 rfl) ?_
  refine lv_iload_n hx hb dX4_replaceSet_1 rfl (lv_at hl 1 rfl) ?_
  refine lv_iload_n hx hb dX4_replaceSet_2 rfl (lv_at hl 2 rfl) ?_
  refine n_cV (b := q 0) (As := [.int (nI p), .int (nI k)]) (rest := []) (wc := (wT kA q cc ac co ad rc nm st an)) hS0 (c_X4_setAt lQ D kA q cc ac co ad rc nm st an p k (by first | assumption | omega) (by first | assumption | omega) (by first | assumption | omega)) (cwV 2 hts gX4_replaceSet_X4_setAt rfl rfl rfl (by decide +kernel) ⟨Nat.le_of_ble_eq_true rfl, Nat.le_of_ble_eq_true rfl⟩) hP hK (q0 := 0) rfl rfl rfl rfl rfl hl.1 (Nat.le_of_ble_eq_true rfl) dX4_replaceSet_3 ⟨Nat.le_refl _, Nat.le_refl _⟩ (fun r3 h3 => ?_)
  subst h3
  refine lv_istore (lv' := [(4, .int (nI (nibN (st p) k))), (0, .ref (q 0)), (1, .int (nI p)), (2, .int (nI k)), (3, .int (nI s0))]) hx hb dX4_replaceSet_6 hl (by decide) rfl (fun ls hl => ?_)
  refine lv_iconst (v := (nI 4)) hx hb dX4_replaceSet_8 (by decide) ?_
  refine lv_iload_n hx hb dX4_replaceSet_9 rfl (lv_at hl 3 rfl) ?_
  refine n_imul (v := (nI (4 * k))) hx hb (pk_mul _ _) dX4_replaceSet_10 ?_
  refine lv_istore (lv' := [(5, .int (nI (4 * k))), (4, .int (nI (nibN (st p) k))), (0, .ref (q 0)), (1, .int (nI p)), (2, .int (nI k)), (3, .int (nI s0))]) hx hb dX4_replaceSet_11 hl (by decide) rfl (fun ls hl => ?_)
  refine lv_aload_n hx hb dX4_replaceSet_13 rfl (lv_at hl 2 rfl) ?_
  refine n_get (ci := 4) (v := .ref (q 4)) (C := RX4) (T := TX4) (N := 8) hx hb hts hinX4 hown hK hP 0 rfl rfl 6 rfl ⟨rfl, rfl, rfl⟩ f21 rfl dX4_replaceSet_14 ?_
  refine lv_iload_n hx hb dX4_replaceSet_17 rfl (lv_at hl 3 rfl) ?_
  refine lv_aload_n hx hb dX4_replaceSet_18 rfl (lv_at hl 2 rfl) ?_
  refine n_get (ci := 4) (v := .ref (q 4)) (C := RX4) (T := TX4) (N := 8) hx hb hts hinX4 hown hK hP 0 rfl rfl 6 rfl ⟨rfl, rfl, rfl⟩ f21 rfl dX4_replaceSet_19 ?_
  refine lv_iload_n hx hb dX4_replaceSet_22 rfl (lv_at hl 3 rfl) ?_
  refine n_iald (i := p) (v := (nI (st p))) hx hb hK hP 4 0 rfl rfl (by omega) (Nat.le_of_ble_eq_true rfl) rfl dX4_replaceSet_23 ?_
  refine lv_bipush (v := (nI 15)) hx hb dX4_replaceSet_24 (by decide) ?_
  refine lv_iload hx hb dX4_replaceSet_26 (lv_at hl 0 rfl) ?_
  refine n_ishl (v := (nI (15 <<< (4 * k)))) hx hb (nN_shl _ (by omega)) dX4_replaceSet_28 ?_
  refine lv_iconst (v := (oI none)) hx hb dX4_replaceSet_29 (by decide) ?_
  refine lv_ixor hx hb dX4_replaceSet_30 ?_
  refine n_iand (v := ((nI (st p)) &&& ((nI (15 <<< (4 * k))) ^^^ (oI none)))) hx hb rfl dX4_replaceSet_31 ?_
  refine lv_iload_n hx hb dX4_replaceSet_32 rfl (lv_at hl 5 rfl) ?_
  refine lv_iload hx hb dX4_replaceSet_33 (lv_at hl 0 rfl) ?_
  refine n_ishl (v := (nI (s0 <<< (4 * k)))) hx hb (nN_shl _ (by omega)) dX4_replaceSet_35 ?_
  refine n_ior (v := (nI (replN (st p) k s0))) hx hb (replN_eq hs hk hs0) dX4_replaceSet_36 ?_
  refine n_iast (i := p) (x := (nI (replN (st p) k s0))) (g := aN (va_up st p (replN (st p) k s0))) (ws' := (wT kA q cc ac co ad rc nm (va_up st p (replN (st p) k s0)) an)) hx hb hK hP hD hS 4 0 rfl rfl (by omega) (Nat.le_of_ble_eq_true rfl) (aN_up _ _ _) rfl dX4_replaceSet_37 (fun H locs hP hD hS => ?_)
  refine lv_iload hx hb dX4_replaceSet_38 (lv_at hl 1 rfl) ?_
  exact n_wreti hx hb hr hlocks (post := fun (r : Int32) (u : Unit) => r = (nI (nibN (st p) k))) (w1 := fun u => (wT kA q cc ac co ad rc nm (va_up st p (replN (st p) k s0)) an)) () rfl hP hD hK hS hAe dX4_replaceSet_40

set_option maxHeartbeats 4000000 in
set_option maxRecDepth 100000 in
theorem c_X4_areSets (lQ : Launch) (D : va_G) (kA : Nat → ClassId) (q : Nat → Nat) (cc : Nat) (ac : Nat → Nat) (co : Nat → Nat) (ad : Nat) (rc : Nat) (nm : Nat → Nat) (st : Nat → Nat) (an : Nat → Nat) (x : Int32) (hcc : cc ≤ 5) (hac : ∀ k, k < cc → 2 ≤ ac k ∧ ac k ≤ 4) : Met lQ yX4_areSets wsX4_areSets (rmN 2 43) (rd_Pc D vwCl [.ref (q 0), .int x] (wT kA q cc ac co ad rc nm st an) (tyK kA)) (vp_Si (fun r : Int32 => r = (bI (areSetsB x cc ac)))) 0 0 (fun _ => False) := by
  refine Met.ofW (cc := cX4_areSets) (maxL := 3) (ret := (some .boolean)) (by decide) rfl ?_
  intro pQ eQ s mQ args below meth cQ s₁ B hml hv
  obtain ⟨rfl, hP, hK⟩ := hv
  have hx := B.exec
  have hb := B.bytes
  have hr := B.returns
  have hts := atoms_spec (ws := wsX4_areSets) B.pre
  have hown : s.vm.findClass RX4 = some mQ.cls := findClass_of_methodNamed B.named
  have hlocks : meth.locks = false := B.notSynchronized
  have hS0 : CallFix pQ mQ cQ cX4_areSets 3 s ([.ref (q 0), .int x] : List Value).toArray wsX4_areSets RX4 := ⟨hx, hb, hml, hown, hts⟩
  have f27 : (Cond.fieldLink RX4 27 "AskedRules$Table" "conditionCount" "I").before ([.ref (q 0), .int x] : List Value).toArray s = true := hts _ (by decide +kernel)
  have hinX4 : ∀ w ∈ wsX40, w ∈ wsX4_areSets := by decide +kernel
  have hl := lv_entry ([.ref (q 0), .int x]) (n := 3) (Nat.le_of_ble_eq_true rfl)
  rw [lg_entry_eq]
  generalize (lg_sl ([.ref (q 0), .int x]) ++ List.replicate (3 - (lg_sl ([.ref (q 0), .int x])).length) Slot.unset).toArray = ls at hl ⊢
  have hl : lv_has ls 3 [(0, .ref (q 0)), (1, .int x)] := hl
  have hP : va_P D vwCl (wT kA q cc ac co ad rc nm st an) s.heap := hP
  refine lv_iload_n hx hb dX4_areSets_0 rfl (lv_at hl 1 rfl) ?_
  refine lv_if_lt (tgt := 15) hx hb dX4_areSets_1 (by decide) (fun c1 => ?_) (fun c1 => ?_)
  · refine lv_iconst (v := (nI 0)) hx hb dX4_areSets_15 (by decide) ?_
    exact n_retz hx hb hr hlocks (post := fun r : Int32 => r = (bI (areSetsB x cc ac))) rfl (by first | (unfold areSetsB; rw [decide_eq_false (i_not_le.mpr c1)]; rfl) | (rw [areSets_n hx0 hx1, decide_eq_false (by omega)]; rfl)) rfl dX4_areSets_16
  · obtain ⟨x0, hx0, hx1⟩ := i_num c1
    have hl : lv_has ls 3 [(0, .ref (q 0)), (1, .int (nI x0))] := by rw [hx0] at hl; exact hl
    refine lv_iload_n hx hb dX4_areSets_4 rfl (lv_at hl 1 rfl) ?_
    refine lv_iconst (v := (nI 4)) hx hb dX4_areSets_5 (by decide) ?_
    refine lv_aload_n hx hb dX4_areSets_6 rfl (lv_at hl 0 rfl) ?_
    refine n_get (ci := 4) (v := .int (nI cc)) (C := RX4) (T := TX4) (N := 8) hx hb hts hinX4 hown hK hP 0 rfl rfl 0 rfl ⟨rfl, rfl, rfl⟩ f27 rfl dX4_areSets_7 ?_
    refine n_imul (v := (nI (4 * cc))) hx hb (pk_mul _ _) dX4_areSets_10 ?_
    refine lv_iushr (v := (nI (x0 >>> (4 * cc)))) hx hb dX4_areSets_11 (nN_ushr (by omega) (by omega)) ?_
    refine n_if_eq (a := x0 >>> (4 * cc)) (tgt := 17) hx hb (Nat.lt_of_le_of_lt (shr_le _ _) hx1) dX4_areSets_12 (by decide) (fun c12 => ?_) (fun c12 => ?_)
    · refine lv_iconst (v := (nI 0)) hx hb dX4_areSets_17 (by decide) ?_
      refine lv_istore_n (lv' := [(2, .int (nI 0)), (0, .ref (q 0)), (1, .int (nI x0))]) hx hb dX4_areSets_18 rfl hl (by decide) rfl (fun ls hl => ?_)
      have L19 : ∀ (nQ : Nat) (k : Nat), cc - k < nQ → (k ≤ cc) → (∀ j, j < k → isSetB (nI (nibN x0 j)) (fulN (ac j)) = true) → ∀ (ls : Array Slot), lv_has ls 3 [(2, .int (nI k)), (0, .ref (q 0)), (1, .int (nI x0))] → W pQ lQ eQ (headSpec wsX4_areSets (rmN 2 43)).room s mQ ([.ref (q 0), .int x] : List Value).toArray below meth cQ s.heap [] 0 0 (MQ below (vp_Si (fun r : Int32 => r = (bI (areSetsB x cc ac)))) ([.ref (q 0), .int x] : List Value).toArray s 0 0 (fun _ => False)) (F0 mQ 19 ls []) := by
        intro nQ
        induction nQ with
        | zero => intro k hn; exact absurd hn (Nat.not_lt_zero _)
        | succ nQ ih19 =>
          intro k hm19 hk hn ls hl
          refine lv_iload_n hx hb dX4_areSets_19 rfl (lv_at hl 0 rfl) ?_
          refine lv_aload_n hx hb dX4_areSets_20 rfl (lv_at hl 1 rfl) ?_
          refine n_get (ci := 4) (v := .int (nI cc)) (C := RX4) (T := TX4) (N := 8) hx hb hts hinX4 hown hK hP 0 rfl rfl 0 rfl ⟨rfl, rfl, rfl⟩ f27 rfl dX4_areSets_21 ?_
          refine n_icmp_ge (a := k) (b := cc) (tgt := 51) hx hb (by omega) (by omega) dX4_areSets_24 (by decide) (fun c24 => ?_) (fun c24 => ?_)
          · refine lv_iconst (v := (nI 1)) hx hb dX4_areSets_51 (by decide) ?_
            exact n_retz hx hb hr hlocks (post := fun r : Int32 => r = (bI (areSetsB x cc ac))) rfl (by rw [areSets_n hx0 hx1, decide_eq_true c12, allB_t (fun j hj => hn j (by omega))]; rfl) rfl dX4_areSets_52
          · refine lv_aload_n hx hb dX4_areSets_27 rfl (lv_at hl 1 rfl) ?_
            refine lv_iload_n hx hb dX4_areSets_28 rfl (lv_at hl 0 rfl) ?_
            refine lv_iload_n hx hb dX4_areSets_29 rfl (lv_at hl 2 rfl) ?_
            refine lv_iconst (v := (nI 4)) hx hb dX4_areSets_30 (by decide) ?_
            refine lv_iload_n hx hb dX4_areSets_31 rfl (lv_at hl 0 rfl) ?_
            refine n_imul (v := (nI (4 * k))) hx hb (pk_mul _ _) dX4_areSets_32 ?_
            refine n_ishr (v := (nI (x0 >>> (4 * k)))) hx hb (nN_shr (by omega) (by omega)) dX4_areSets_33 ?_
            refine lv_bipush (v := (nI 15)) hx hb dX4_areSets_34 (by decide) ?_
            refine n_iand (v := (nI ((x0 >>> (4 * k)) &&& 15))) hx hb (nN_and _ _) dX4_areSets_36 ?_
            refine n_cV (b := q 0) (As := [.int (nI k), .int (nI ((x0 >>> (4 * k)) &&& 15))]) (rest := []) (wc := (wT kA q cc ac co ad rc nm st an)) hS0 (c_X4_isSet lQ D kA q cc ac co ad rc nm st an k (nI ((x0 >>> (4 * k)) &&& 15)) (by first | assumption | omega) (hac _ (by omega)).2) (cwV 2 hts gX4_areSets_X4_isSet rfl rfl rfl (by decide +kernel) ⟨Nat.le_of_ble_eq_true rfl, Nat.le_of_ble_eq_true rfl⟩) hP hK (q0 := 0) rfl rfl rfl rfl rfl hl.1 (Nat.le_of_ble_eq_true rfl) dX4_areSets_37 ⟨Nat.le_refl _, Nat.le_refl _⟩ (fun r37 h37 => ?_)
            subst h37
            refine n_ifb_ne (b := isSetB (nI ((x0 >>> (4 * k)) &&& 15)) (fulN (ac k))) (tgt := 45) hx hb dX4_areSets_40 (by decide) (fun c40 => ?_) (fun c40 => ?_)
            · refine lv_iinc (v := (nI (k + 1))) (lv' := [(2, .int (nI (k + 1))), (0, .ref (q 0)), (1, .int (nI x0))]) hx hb dX4_areSets_45 hl (k := 0) rfl (nI_inc _) (by decide) rfl (fun ls hl => ?_)
              refine lv_goto (tgt := 19) hx hb dX4_areSets_48 (by decide) ?_
              exact ih19 (k + 1) (by omega) (by first | assumption | omega) (fun j hj => by by_cases e : j = k; (subst e; exact c40); exact hn j (by omega)) _ (lv_sub hl [0, 1, 2] rfl)
            · refine lv_iconst (v := (nI 0)) hx hb dX4_areSets_43 (by decide) ?_
              exact n_retz hx hb hr hlocks (post := fun r : Int32 => r = (bI (areSetsB x cc ac))) rfl (by rw [areSets_n hx0 hx1, allB_f (p := k) c40 (by omega), Bool.and_false]; rfl) rfl dX4_areSets_44
      exact L19 ((cc - 0) + 1) 0 (Nat.lt_succ_self _) (by first | assumption | omega) (fun j hj => absurd hj (Nat.not_lt_zero _)) _ (lv_sub hl [0, 1, 2] rfl)
    · refine lv_iconst (v := (nI 0)) hx hb dX4_areSets_15 (by decide) ?_
      exact n_retz hx hb hr hlocks (post := fun r : Int32 => r = (bI (areSetsB x cc ac))) rfl (by first | (unfold areSetsB; rw [decide_eq_false (i_not_le.mpr c1)]; rfl) | (rw [areSets_n hx0 hx1, decide_eq_false (by omega)]; rfl)) rfl dX4_areSets_16

set_option maxHeartbeats 4000000 in
set_option maxRecDepth 100000 in
theorem c_X4_casesToldAt (lQ : Launch) (D : va_G) (kA : Nat → ClassId) (q : Nat → Nat) (cc : Nat) (ac : Nat → Nat) (co : Nat → Nat) (ad : Nat) (rc : Nat) (nm : Nat → Nat) (st : Nat → Nat) (an : Nat → Nat) (p : Nat) (hcc : cc ≤ 5) (hp : p < 20) (hs : st p < 1048576) : Met lQ yX4_casesToldAt wsX4_casesToldAt (rmN 1 22) (rd_Pc D vwCl [.ref (q 0), .int (nI p)] (wT kA q cc ac co ad rc nm st an) (tyK kA)) (vp_Si (fun r : Int32 => r = (nI (prodF (fun k => bitsN (nibN (st p) k) 4) cc)))) 0 0 (fun _ => False) := by
  refine Met.ofW (cc := cX4_casesToldAt) (maxL := 4) (ret := (some .int)) (by decide) rfl ?_
  intro pQ eQ s mQ args below meth cQ s₁ B hml hv
  obtain ⟨rfl, hP, hK⟩ := hv
  have hx := B.exec
  have hb := B.bytes
  have hr := B.returns
  have hts := atoms_spec (ws := wsX4_casesToldAt) B.pre
  have hown : s.vm.findClass RX4 = some mQ.cls := findClass_of_methodNamed B.named
  have hlocks : meth.locks = false := B.notSynchronized
  have hS0 : CallFix pQ mQ cQ cX4_casesToldAt 4 s ([.ref (q 0), .int (nI p)] : List Value).toArray wsX4_casesToldAt RX4 := ⟨hx, hb, hml, hown, hts⟩
  have f27 : (Cond.fieldLink RX4 27 "AskedRules$Table" "conditionCount" "I").before ([.ref (q 0), .int (nI p)] : List Value).toArray s = true := hts _ (by decide +kernel)
  have hinX4 : ∀ w ∈ wsX40, w ∈ wsX4_casesToldAt := by decide +kernel
  have hl := lv_entry ([.ref (q 0), .int (nI p)]) (n := 4) (Nat.le_of_ble_eq_true rfl)
  rw [lg_entry_eq]
  generalize (lg_sl ([.ref (q 0), .int (nI p)]) ++ List.replicate (4 - (lg_sl ([.ref (q 0), .int (nI p)])).length) Slot.unset).toArray = ls at hl ⊢
  have hl : lv_has ls 4 [(0, .ref (q 0)), (1, .int (nI p))] := hl
  have hP : va_P D vwCl (wT kA q cc ac co ad rc nm st an) s.heap := hP
  refine lv_iconst (v := (nI 1)) hx hb dX4_casesToldAt_0 (by decide) ?_
  refine lv_istore_n (lv' := [(2, .int (nI 1)), (0, .ref (q 0)), (1, .int (nI p))]) hx hb dX4_casesToldAt_1 rfl hl (by decide) rfl (fun ls hl => ?_)
  refine lv_iconst (v := (nI 0)) hx hb dX4_casesToldAt_2 (by decide) ?_
  refine lv_istore_n (lv' := [(3, .int (nI 0)), (2, .int (nI 1)), (0, .ref (q 0)), (1, .int (nI p))]) hx hb dX4_casesToldAt_3 rfl hl (by decide) rfl (fun ls hl => ?_)
  have L4 : ∀ (nQ : Nat) (k : Nat) (u : Nat), cc - k < nQ → (k ≤ cc) → (u = prodF (fun k => bitsN (nibN (st p) k) 4) k) → ∀ (ls : Array Slot), lv_has ls 4 [(3, .int (nI k)), (2, .int (nI u)), (0, .ref (q 0)), (1, .int (nI p))] → W pQ lQ eQ (headSpec wsX4_casesToldAt (rmN 1 22)).room s mQ ([.ref (q 0), .int (nI p)] : List Value).toArray below meth cQ s.heap [] 0 0 (MQ below (vp_Si (fun r : Int32 => r = (nI (prodF (fun k => bitsN (nibN (st p) k) 4) cc)))) ([.ref (q 0), .int (nI p)] : List Value).toArray s 0 0 (fun _ => False)) (F0 mQ 4 ls []) := by
    intro nQ
    induction nQ with
    | zero => intro k u hn; exact absurd hn (Nat.not_lt_zero _)
    | succ nQ ih4 =>
      intro k u hm4 hk hu ls hl
      refine lv_iload_n hx hb dX4_casesToldAt_4 rfl (lv_at hl 0 rfl) ?_
      refine lv_aload_n hx hb dX4_casesToldAt_5 rfl (lv_at hl 2 rfl) ?_
      refine n_get (ci := 4) (v := .int (nI cc)) (C := RX4) (T := TX4) (N := 8) hx hb hts hinX4 hown hK hP 0 rfl rfl 0 rfl ⟨rfl, rfl, rfl⟩ f27 rfl dX4_casesToldAt_6 ?_
      refine n_icmp_ge (a := k) (b := cc) (tgt := 30) hx hb (by omega) (by omega) dX4_casesToldAt_9 (by decide) (fun c9 => ?_) (fun c9 => ?_)
      · refine lv_iload_n hx hb dX4_casesToldAt_30 rfl (lv_at hl 1 rfl) ?_
        have e9 : cc = k := by omega
        subst e9
        exact n_reti hx hb hr hlocks (post := fun r : Int32 => r = (nI (prodF (fun k => bitsN (nibN (st p) k) 4) cc))) (by rw [hu]) rfl dX4_casesToldAt_31
      · refine lv_iload_n hx hb dX4_casesToldAt_12 rfl (lv_at hl 1 rfl) ?_
        refine lv_aload_n hx hb dX4_casesToldAt_13 rfl (lv_at hl 2 rfl) ?_
        refine lv_iload_n hx hb dX4_casesToldAt_14 rfl (lv_at hl 3 rfl) ?_
        refine lv_iload_n hx hb dX4_casesToldAt_15 rfl (lv_at hl 0 rfl) ?_
        refine n_cV (b := q 0) (As := [.int (nI p), .int (nI k)]) (rest := [.int (nI u)]) (wc := (wT kA q cc ac co ad rc nm st an)) hS0 (c_X4_setAt lQ D kA q cc ac co ad rc nm st an p k (by first | assumption | omega) (by first | assumption | omega) (by first | assumption | omega)) (cwV 2 hts gX4_casesToldAt_X4_setAt rfl rfl rfl (by decide +kernel) ⟨Nat.le_of_ble_eq_true rfl, Nat.le_of_ble_eq_true rfl⟩) hP hK (q0 := 0) rfl rfl rfl rfl rfl hl.1 (Nat.le_of_ble_eq_true rfl) dX4_casesToldAt_16 ⟨Nat.le_refl _, Nat.le_refl _⟩ (fun r16 h16 => ?_)
        subst h16
        refine n_cS (As := [.int (nI (nibN (st p) k))]) (rest := [.int (nI u)]) (wc := []) hS0 (c_J6_bitCount_0f7a4 lQ D kA (nibN (st p) k) (Nat.lt_trans (nibN_lt _ _) (by decide))) (va_cwS 1 hts gX4_casesToldAt_J6_bitCount_0f7a4 rfl rfl rfl (by decide +kernel) ⟨Nat.le_of_ble_eq_true rfl, Nat.le_of_ble_eq_true rfl⟩) (hP.mem (ws' := []) (fun qQ h => absurd h List.not_mem_nil)) hK rfl rfl hl.1 (Nat.le_of_ble_eq_true rfl) dX4_casesToldAt_19 ⟨Nat.le_refl _, Nat.le_refl _⟩ (fun r19 h19 => ?_)
        subst h19
        refine n_imul (v := (nI (u * (bitsN (nibN (st p) k) 11)))) hx hb (pk_mul _ _) dX4_casesToldAt_22 ?_
        refine lv_istore_n (lv' := [(2, .int (nI (u * (bitsN (nibN (st p) k) 11)))), (3, .int (nI k)), (0, .ref (q 0)), (1, .int (nI p))]) hx hb dX4_casesToldAt_23 rfl hl (by decide) rfl (fun ls hl => ?_)
        refine lv_iinc (v := (nI (k + 1))) (lv' := [(3, .int (nI (k + 1))), (2, .int (nI (u * (bitsN (nibN (st p) k) 11)))), (0, .ref (q 0)), (1, .int (nI p))]) hx hb dX4_casesToldAt_24 hl (k := 1) rfl (nI_inc _) (by decide) rfl (fun ls hl => ?_)
        refine lv_goto (tgt := 4) hx hb dX4_casesToldAt_27 (by decide) ?_
        exact ih4 (k + 1) (u * (bitsN (nibN (st p) k) 11)) (by omega) (by first | assumption | omega) (by rw [hu, bits_4 _ (nibN_lt _ _)]; rfl) _ (lv_sub hl [0, 1, 2, 3] rfl)
  exact L4 ((cc - 0) + 1) 0 1 (Nat.lt_succ_self _) (by first | assumption | omega) rfl _ (lv_sub hl [0, 1, 2, 3] rfl)
