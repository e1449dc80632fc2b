
/-! ===== the reference's reading of commands ===== -/
def alF (wr : Option Nat) (b : Bool) (p : Nat) : Option Nat := match wr with
  | some q => some q
  | none => cond b none (some p)
theorem alF_none {wr : Option Nat} {b : Bool} {p : Nat} : alF wr b p = none ↔ wr = none ∧ b = true := by
  cases wr with
  | some q => exact ⟨(fun h => by cases h), (fun h => by cases h.1)⟩
  | none => cases b with
    | true => exact ⟨fun _ => ⟨rfl, rfl⟩, fun _ => rfl⟩
    | false => exact ⟨(fun h => by cases h), (fun h => by cases h.2)⟩
theorem alF_some {wr : Option Nat} {b : Bool} {p q : Nat} (h : alF wr b p = some q) : wr = some q ∨ (wr = none ∧ b = false ∧ q = p) := by
  cases wr with
  | some x => exact Or.inl h
  | none => cases b with
    | true => cases h
    | false => cases h; exact Or.inr ⟨rfl, rfl, rfl⟩
theorem alF_bd {wr : Option Nat} {b : Bool} {p : Nat} (h : ∀ q, wr = some q → q < 2147483648) (hp : p < 2147483648) : ∀ q, alF wr b p = some q → q < 2147483648 := fun q h9 => by
  rcases alF_some h9 with h8 | ⟨-, -, h8⟩
  · exact h q h8
  · omega
theorem inI_nn {b lo hi : Nat} (h1 : b < 2147483648) (h2 : lo < 2147483648) (h3 : hi < 2147483648) : inI (nI b) (nI lo) (nI hi) = (decide (lo ≤ b) && decide (b ≤ hi)) := by
  unfold inI
  rw [show decide (¬ nI b < nI lo) = decide (lo ≤ b) from decide_eq_decide.mpr (by rw [nI_ltI h1 h2]; omega), show decide (¬ nI hi < nI b) = decide (b ≤ hi) from decide_eq_decide.mpr (by rw [nI_ltI h3 h1]; omega)]
theorem inI_neg {x : Int32} {lo hi : Nat} (h : x < 0) (h2 : lo < 2147483648) : inI x (nI lo) (nI hi) = false := and_f1 (Int32.lt_of_lt_of_le h (nI_pos' h2))
section PAR
variable {tx : Nat → Nat} {len p : Nat}
theorem dig_here {d : Nat} (h : digT tx len p = some d) : hereF tx len p = some (d + 48) := by
  unfold digT at h
  cases e : hereF tx len p with
  | none => rw [e] at h; cases h
  | some b =>
    rw [e] at h
    have h : (if 48 ≤ b ∧ b ≤ 57 then some (b - 48) else none) = some d := h
    by_cases e2 : 48 ≤ b ∧ b ≤ 57
    · rw [if_pos e2] at h; cases h; congr 1; omega
    · rw [if_neg e2] at h; cases h
theorem fig_eq (htx : ∀ j, j < len → tx j < 128) : inI (oI (hereF tx len p)) (nI 48) (nI 57) = (digT tx len p).isSome := by
  unfold digT
  cases e : hereF tx len p with
  | none => exact inI_neg (by decide) (by decide)
  | some b =>
    have hb := hereF_bd htx b e
    show inI (nI b) (nI 48) (nI 57) = (if 48 ≤ b ∧ b ≤ 57 then some (b - 48) else none).isSome
    rw [inI_nn hb (by decide) (by decide)]
    by_cases e2 : 48 ≤ b ∧ b ≤ 57
    · rw [if_pos e2, decide_eq_true e2.1, decide_eq_true e2.2]; rfl
    · rw [if_neg e2]
      by_cases e3 : 48 ≤ b
      · rw [decide_eq_false (p := b ≤ 57) (by omega), Bool.and_false]; rfl
      · rw [decide_eq_false e3]; rfl
theorem let_t (htx : ∀ j, j < len → tx j < 128) (h : inI (oI (hereF tx len p)) (nI 97) (nI 122) = true) : ∃ b, hereF tx len p = some b ∧ 97 ≤ b ∧ b ≤ 122 := by
  cases e : hereF tx len p with
  | none => rw [e, show inI (oI none) (nI 97) (nI 122) = false by decide] at h; cases h
  | some b =>
    rw [e] at h
    have h : inI (nI b) (nI 97) (nI 122) = true := h
    rw [inI_nn (hereF_bd htx b e) (by decide) (by decide), Bool.and_eq_true, decide_eq_true_eq, decide_eq_true_eq] at h
    exact ⟨b, rfl, h.1, h.2⟩
theorem let_f (htx : ∀ j, j < len → tx j < 128) (h : inI (oI (hereF tx len p)) (nI 97) (nI 122) = false) : ∀ n, wenF tx len n p = p := fun n => by
  cases e : hereF tx len p with
  | none => exact wenF_n e n
  | some b =>
    rw [e] at h
    have h : inI (nI b) (nI 97) (nI 122) = false := h
    rw [inI_nn (hereF_bd htx b e) (by decide) (by decide)] at h
    refine wenF_f e (fun h9 => ?_) n
    rw [decide_eq_true h9.1, decide_eq_true h9.2] at h; cases h
theorem set0 {a : Nat} (htx : ∀ j, j < len → tx j < 128) (ha : 1 ≤ a ∧ a ≤ 4) : inI (oI (hereF tx len p) - nI 48) (nI 0) (nI (a - 1)) = true ↔ ∃ d, digT tx len p = some d ∧ d < a := by
  cases e : hereF tx len p with
  | none =>
    have h1 : digT tx len p = none := by unfold digT; rw [e]
    rw [h1]
    constructor
    · intro h; rw [inI_neg (by decide) (by decide)] at h; cases h
    · rintro ⟨d, h, -⟩; cases h
  | some b =>
    have hb : b < 128 := by have := hereF_lt e; rw [this.2]; exact htx _ this.1
    have hd : digT tx len p = if 48 ≤ b ∧ b ≤ 57 then some (b - 48) else none := by unfold digT; rw [e]
    show inI (nI b - nI 48) (nI 0) (nI (a - 1)) = true ↔ _
    by_cases e2 : 48 ≤ b
    · rw [pk_sub e2, inI_nn (by omega) (by decide) (by omega), Bool.and_eq_true, decide_eq_true_eq, decide_eq_true_eq, hd]
      constructor
      · intro h; exact ⟨b - 48, by rw [if_pos (by omega)], by omega⟩
      · rintro ⟨d, h, hd2⟩
        by_cases e3 : 48 ≤ b ∧ b ≤ 57
        · rw [if_pos e3] at h; cases h; omega
        · rw [if_neg e3] at h; cases h
    · have hn : nI b - nI 48 < 0 := by
        have : ∀ b, b < 48 → nI b - nI 48 < 0 := by decide +kernel
        exact this b (by omega)
      rw [inI_neg hn (by decide), hd, if_neg (by omega)]
      constructor
      · intro h; cases h
      · rintro ⟨d, h, -⟩; cases h
theorem dig_not {d w : Nat} (h : (digT tx len p).isSome = true) (hw : w < 48 ∨ 57 < w) : hereF tx len p ≠ some w := fun h9 => by
  obtain ⟨d, hd⟩ := Option.isSome_iff_exists.mp h
  have h1 := dig_here hd
  have h2 := (digT_lt hd).1
  rw [h9] at h1; cases h1; omega
/-- letters as a number -/
def wlF (tx : Nat → Nat) (p : Nat) : Nat → Nat
  | 0 => 0
  | n + 1 => if n < 5 then 32 * wlF tx p n + tx (p + n) - 96 else 0
def wdF (tx : Nat → Nat) (p e : Nat) : Nat := if e - p < 6 then wlF tx p (e - p) else 0
theorem wlF_s (tx : Nat → Nat) (p n : Nat) : wlF tx p (n + 1) = if n < 5 then 32 * wlF tx p n + tx (p + n) - 96 else 0 := rfl
def kwF (k : Nat) : Nat := [294, 150000, 688, 13813989].getD k 0
theorem wenF_ge : ∀ {n p : Nat}, p ≤ wenF tx len n p
  | 0, _ => Nat.le_refl _
  | n + 1, p => by
    cases e : hereF tx len p with
    | none => rw [wenF_n e]; exact Nat.le_refl _
    | some b =>
      by_cases e2 : 97 ≤ b ∧ b ≤ 122
      · rw [wenF_t e e2]; exact Nat.le_trans (Nat.le_succ p) (wenF_ge (n := n) (p := p + 1))
      · rw [wenF_f e e2]; exact Nat.le_refl _
theorem wenF_let : ∀ {n p j : Nat}, p ≤ j → j < wenF tx len n p → 97 ≤ tx j ∧ tx j ≤ 122
  | 0, p, j, h1, h2 => absurd h2 (by have h2 : j < p := h2; omega)
  | n + 1, p, j, h1, h2 => by
    cases e : hereF tx len p with
    | none => rw [wenF_n e] at h2; omega
    | some b =>
      by_cases e2 : 97 ≤ b ∧ b ≤ 122
      · rw [wenF_t e e2] at h2
        by_cases ej : j = p
        · rw [ej, ← (hereF_lt e).2]; exact e2
        · exact wenF_let (n := n) (p := p + 1) (by omega) h2
      · rw [wenF_f e e2] at h2; omega
theorem wis_iff {e i : Nat} : wisB tx p e i = true ↔ e - p = lenW.getD i 0 ∧ ∀ j, j < lenW.getD i 0 → tx (p + j) = chN i j := by
  unfold wisB
  rw [Bool.and_eq_true, decide_eq_true_eq]
  exact ⟨fun h => ⟨h.1, fun j hj => of_decide_eq_true (allB_i h.2 j hj)⟩, fun h => ⟨h.1, allB_t (fun j hj => decide_eq_true (h.2 j hj))⟩⟩
theorem wd_val {e : Nat} (hl : ∀ j, p ≤ j → j < e → 97 ≤ tx j ∧ tx j ≤ 122) : wdF tx p e < 30000000 ∧
    (wdF tx p e = 294 → e - p = 2 ∧ tx (p + 0) = 105 ∧ tx (p + 1) = 102) ∧
    (wdF tx p e = 150000 → e - p = 4 ∧ tx (p + 0) = 100 ∧ tx (p + 1) = 114 ∧ tx (p + 2) = 111 ∧ tx (p + 3) = 112) ∧
    (wdF tx p e = 688 → e - p = 2 ∧ tx (p + 0) = 117 ∧ tx (p + 1) = 112) ∧
    (wdF tx p e = 13813989 → e - p = 5 ∧ tx (p + 0) = 109 ∧ tx (p + 1) = 101 ∧ tx (p + 2) = 114 ∧ tx (p + 3) = 103 ∧ tx (p + 4) = 101) := by
  unfold wdF
  by_cases h6 : e - p < 6
  · rw [if_pos h6]
    obtain ⟨n, hn⟩ : ∃ n, n = e - p := ⟨_, rfl⟩
    rw [← hn] at h6 ⊢
    have h : ∀ j, j < n → 97 ≤ tx (p + j) ∧ tx (p + j) ≤ 122 := fun j hj => hl _ (by omega) (by omega)
    have w0 : wlF tx p 0 = 0 := rfl
    rcases (show n = 0 ∨ n = 1 ∨ n = 2 ∨ n = 3 ∨ n = 4 ∨ n = 5 by omega) with e | e | e | e | e | e
    · subst e; rw [w0]; omega
    · subst e
      have a0 := h 0 (by decide)
      rw [wlF_s, if_pos (by decide), w0]; omega
    · subst e
      have a0 := h 0 (by decide); have a1 := h 1 (by decide)
      have w1 : wlF tx p 1 = tx (p + 0) - 96 := by rw [wlF_s, if_pos (by decide), w0]; omega
      rw [wlF_s, if_pos (by decide), w1]; omega
    · subst e
      have a0 := h 0 (by decide); have a1 := h 1 (by decide); have a2 := h 2 (by decide)
      have w1 : wlF tx p 1 = tx (p + 0) - 96 := by rw [wlF_s, if_pos (by decide), w0]; omega
      have w2 : wlF tx p 2 = 32 * (tx (p + 0) - 96) + tx (p + 1) - 96 := by rw [wlF_s, if_pos (by decide), w1]
      rw [wlF_s, if_pos (by decide), w2]; omega
    · subst e
      have a0 := h 0 (by decide); have a1 := h 1 (by decide); have a2 := h 2 (by decide); have a3 := h 3 (by decide)
      have w1 : wlF tx p 1 = tx (p + 0) - 96 := by rw [wlF_s, if_pos (by decide), w0]; omega
      have w2 : wlF tx p 2 = 32 * (tx (p + 0) - 96) + tx (p + 1) - 96 := by rw [wlF_s, if_pos (by decide), w1]
      have w3 : wlF tx p 3 = 32 * (32 * (tx (p + 0) - 96) + tx (p + 1) - 96) + tx (p + 2) - 96 := by rw [wlF_s, if_pos (by decide), w2]
      rw [wlF_s, if_pos (by decide), w3]; omega
    · subst e
      have a0 := h 0 (by decide); have a1 := h 1 (by decide); have a2 := h 2 (by decide); have a3 := h 3 (by decide); have a4 := h 4 (by decide)
      have w1 : wlF tx p 1 = tx (p + 0) - 96 := by rw [wlF_s, if_pos (by decide), w0]; omega
      have w2 : wlF tx p 2 = 32 * (tx (p + 0) - 96) + tx (p + 1) - 96 := by rw [wlF_s, if_pos (by decide), w1]
      have w3 : wlF tx p 3 = 32 * (32 * (tx (p + 0) - 96) + tx (p + 1) - 96) + tx (p + 2) - 96 := by rw [wlF_s, if_pos (by decide), w2]
      have w4 : wlF tx p 4 = 32 * (32 * (32 * (tx (p + 0) - 96) + tx (p + 1) - 96) + tx (p + 2) - 96) + tx (p + 3) - 96 := by rw [wlF_s, if_pos (by decide), w3]
      rw [wlF_s, if_pos (by decide), w4]; omega
  · rw [if_neg h6]; omega
theorem chN_all : chN 0 0 = 105 ∧ chN 0 1 = 102 ∧ chN 1 0 = 100 ∧ chN 1 1 = 114 ∧ chN 1 2 = 111 ∧ chN 1 3 = 112 ∧ chN 2 0 = 117 ∧ chN 2 1 = 112 ∧ chN 3 0 = 109 ∧ chN 3 1 = 101 ∧ chN 3 2 = 114 ∧ chN 3 3 = 103 ∧ chN 3 4 = 101 := by decide +kernel
theorem wd_back {e i : Nat} (hi : i < 4) (h : wisB tx p e i = true) : wdF tx p e = kwF i := by
  obtain ⟨h1, h2⟩ := wis_iff.mp h
  obtain ⟨k0, k1, k2, k3, k4, k5, k6, k7, k8, k9, k10, k11, k12⟩ := chN_all
  have w0 : wlF tx p 0 = 0 := rfl
  unfold wdF
  rcases (show i = 0 ∨ i = 1 ∨ i = 2 ∨ i = 3 by omega) with e | e | e | e
  · subst e
    have h1 : _ = 2 := h1
    have a0 := h2 0 (by decide); have a1 := h2 1 (by decide)
    rw [k0] at a0; rw [k1] at a1
    rw [h1, if_pos (by decide), wlF_s, if_pos (by decide), wlF_s, if_pos (by decide), w0, a0, a1]; rfl
  · subst e
    have h1 : _ = 4 := h1
    have a0 := h2 0 (by decide); have a1 := h2 1 (by decide); have a2 := h2 2 (by decide); have a3 := h2 3 (by decide)
    rw [k2] at a0; rw [k3] at a1; rw [k4] at a2; rw [k5] at a3
    rw [h1, if_pos (by decide), wlF_s, if_pos (by decide), wlF_s, if_pos (by decide), wlF_s, if_pos (by decide), wlF_s, if_pos (by decide), w0, a0, a1, a2, a3]; rfl
  · subst e
    have h1 : _ = 2 := h1
    have a0 := h2 0 (by decide); have a1 := h2 1 (by decide)
    rw [k6] at a0; rw [k7] at a1
    rw [h1, if_pos (by decide), wlF_s, if_pos (by decide), wlF_s, if_pos (by decide), w0, a0, a1]; rfl
  · subst e
    have h1 : _ = 5 := h1
    have a0 := h2 0 (by decide); have a1 := h2 1 (by decide); have a2 := h2 2 (by decide); have a3 := h2 3 (by decide); have a4 := h2 4 (by decide)
    rw [k8] at a0; rw [k9] at a1; rw [k10] at a2; rw [k11] at a3; rw [k12] at a4
    rw [h1, if_pos (by decide), wlF_s, if_pos (by decide), wlF_s, if_pos (by decide), wlF_s, if_pos (by decide), wlF_s, if_pos (by decide), wlF_s, if_pos (by decide), w0, a0, a1, a2, a3, a4]; rfl
theorem wd_kind {e k : Nat} (hl : ∀ j, p ≤ j → j < e → 97 ≤ tx j ∧ tx j ≤ 122) (hk : k < 4) (h : wdF tx p e = kwF k) : kndF tx p e = some k := by
  obtain ⟨-, g0, g1, g2, g3⟩ := wd_val hl
  obtain ⟨k0, k1, k2, k3, k4, k5, k6, k7, k8, k9, k10, k11, k12⟩ := chN_all
  have hw : wisB tx p e k = true := by
    rw [wis_iff]
    rcases (show k = 0 ∨ k = 1 ∨ k = 2 ∨ k = 3 by omega) with e | e | e | e
    · subst e; obtain ⟨b1, b2, b3⟩ := g0 h
      refine ⟨b1, fun j hj => ?_⟩
      have hj : j < 2 := hj
      rcases (show j = 0 ∨ j = 1 by omega) with e | e <;> subst e
      · rw [k0]; exact b2
      · rw [k1]; exact b3
    · subst e; obtain ⟨b1, b2, b3, b4, b5⟩ := g1 h
      refine ⟨b1, fun j hj => ?_⟩
      have hj : j < 4 := hj
      rcases (show j = 0 ∨ j = 1 ∨ j = 2 ∨ j = 3 by omega) with e | e | e | e <;> subst e
      · rw [k2]; exact b2
      · rw [k3]; exact b3
      · rw [k4]; exact b4
      · rw [k5]; exact b5
    · subst e; obtain ⟨b1, b2, b3⟩ := g2 h
      refine ⟨b1, fun j hj => ?_⟩
      have hj : j < 2 := hj
      rcases (show j = 0 ∨ j = 1 by omega) with e | e <;> subst e
      · rw [k6]; exact b2
      · rw [k7]; exact b3
    · subst e; obtain ⟨b1, b2, b3, b4, b5, b6⟩ := g3 h
      refine ⟨b1, fun j hj => ?_⟩
      have hj : j < 5 := hj
      rcases (show j = 0 ∨ j = 1 ∨ j = 2 ∨ j = 3 ∨ j = 4 by omega) with e | e | e | e | e <;> subst e
      · rw [k8]; exact b2
      · rw [k9]; exact b3
      · rw [k10]; exact b4
      · rw [k11]; exact b5
      · rw [k12]; exact b6
  have hne : ∀ i, i < 4 → i ≠ k → ¬ wisB tx p e i = true := fun i hi hik h9 => by
    have h8 := wd_back hi h9
    rw [h] at h8
    have : ∀ i, i < 4 → ∀ k, k < 4 → kwF k = kwF i → i = k := by decide
    exact hik (this i hi k hk h8)
  unfold kndF
  rcases (show k = 0 ∨ k = 1 ∨ k = 2 ∨ k = 3 by omega) with e | e | e | e
  · subst e; rw [if_pos hw]
  · subst e; rw [if_neg (hne 0 (by decide) (by decide)), if_pos hw]
  · subst e; rw [if_neg (hne 0 (by decide) (by decide)), if_neg (hne 1 (by decide) (by decide)), if_pos hw]
  · subst e; rw [if_neg (hne 0 (by decide) (by decide)), if_neg (hne 1 (by decide) (by decide)), if_neg (hne 2 (by decide) (by decide)), if_pos hw]
theorem wd_none {e : Nat} (h0 : wdF tx p e ≠ 294) (h1 : wdF tx p e ≠ 150000) (h2 : wdF tx p e ≠ 688) (h3 : wdF tx p e ≠ 13813989) : kndF tx p e = none := by
  unfold kndF
  rw [if_neg (fun h => h0 (wd_back (by decide) h)), if_neg (fun h => h1 (wd_back (by decide) h)), if_neg (fun h => h2 (wd_back (by decide) h)), if_neg (fun h => h3 (wd_back (by decide) h))]
end PAR

set_option maxHeartbeats 4000000 in
set_option maxRecDepth 100000 in
theorem c_X6_look (lQ : Launch) (D : va_G) (kA : Nat → ClassId) (qr : Nat → Nat) (cc : Nat) (ac : Nat → Nat) (co : Nat → Nat) (ad : Nat) (rc : Nat) (nm : Nat → Nat) (st : Nat → Nat) (an : Nat → Nat) (svm : Nat → TCt) (cnt : Nat) (tx : Nat → Nat) (len : Nat) (th : Nat) (xf : Nat → Option Nat) (xt : Nat → Nat) (xs : Nat → Option Nat) (xa : Nat → Nat) (xw : Nat → Nat) (xc : Nat → Nat) (xk : Nat → Option Nat) (xp : Nat → Nat) (pt : Nat) (wr : Option Nat) (xm : Nat → Nat) (mny : Nat) (hlen : len ≤ 150) (hpt : pt < 100000) : Met lQ yX6_look wsX6_look (rmN 0 0) (rd_Pc D vwCl [.ref (qr 0)] (wR kA qr cc ac co ad rc nm st an svm cnt tx len th xf xt xs xa xw xc xk xp pt wr xm mny) (tyK kA)) (vp_Si (fun r : Int32 => r = (oI (hereF tx len pt)))) 0 0 (fun _ => False) := by
  refine Met.ofW (cc := cX6_look) (maxL := 1) (ret := (some .int)) (by decide) rfl ?_
  intro pQ eQ s mQ args below meth cQ s₁ B hml hv
  obtain ⟨rfl, hP, hK⟩ := hv
  have hx := B.exec
  have hb := B.bytes
  have hr := B.returns
  have hts := atoms_spec (ws := wsX6_look) B.pre
  have hown : s.vm.findClass RX6 = some mQ.cls := findClass_of_methodNamed B.named
  have hlocks : meth.locks = false := B.notSynchronized
  have hS0 : CallFix pQ mQ cQ cX6_look 1 s ([.ref (qr 0)] : List Value).toArray wsX6_look RX6 := ⟨hx, hb, hml, hown, hts⟩
  have f193 : (Cond.fieldLink RX6 193 "AskedRulesModel" "at" "I").before ([.ref (qr 0)] : List Value).toArray s = true := hts _ (by decide +kernel)
  have hinX6 : ∀ w ∈ wsX60, w ∈ wsX6_look := by decide +kernel
  have f178 : (Cond.fieldLink RX6 178 "AskedRulesModel" "letters" "I").before ([.ref (qr 0)] : List Value).toArray s = true := hts _ (by decide +kernel)
  have f16 : (Cond.fieldLink RX6 16 "AskedRulesModel" "text" "[I").before ([.ref (qr 0)] : List Value).toArray s = true := hts _ (by decide +kernel)
  have hl := lv_entry ([.ref (qr 0)]) (n := 1) (Nat.le_of_ble_eq_true rfl)
  rw [lg_entry_eq]
  generalize (lg_sl ([.ref (qr 0)]) ++ List.replicate (1 - (lg_sl ([.ref (qr 0)])).length) Slot.unset).toArray = ls at hl ⊢
  have hl : lv_has ls 1 [(0, .ref (qr 0))] := hl
  have hP : va_P D vwCl (wR kA qr cc ac co ad rc nm st an svm cnt tx len th xf xt xs xa xw xc xk xp pt wr xm mny) s.heap := hP
  refine lv_aload_n hx hb dX6_look_0 rfl (lv_at hl 0 rfl) ?_
  refine n_get (ci := 6) (v := .int (nI pt)) (C := RX6) (T := TX6) (N := 18) hx hb hts hinX6 hown hK hP 0 rfl rfl 14 rfl ⟨rfl, rfl, rfl⟩ f193 rfl dX6_look_1 ?_
  refine lv_aload_n hx hb dX6_look_4 rfl (lv_at hl 0 rfl) ?_
  refine n_get (ci := 6) (v := .int (nI len)) (C := RX6) (T := TX6) (N := 18) hx hb hts hinX6 hown hK hP 0 rfl rfl 4 rfl ⟨rfl, rfl, rfl⟩ f178 rfl dX6_look_5 ?_
  refine n_icmp_ge (a := pt) (b := len) (tgt := 23) hx hb (by omega) (by omega) dX6_look_8 (by decide) (fun c8 => ?_) (fun c8 => ?_)
  · refine lv_iconst (v := (oI none)) hx hb dX6_look_23 (by decide) ?_
    exact n_reti hx hb hr hlocks (post := fun r : Int32 => r = (oI (hereF tx len pt))) (by unfold hereF; first | (rw [if_neg (by omega)]) | (rw [if_pos (by omega)]; rfl)) rfl dX6_look_24
  · refine lv_aload_n hx hb dX6_look_11 rfl (lv_at hl 0 rfl) ?_
    refine n_get (ci := 6) (v := .ref (qr 3)) (C := RX6) (T := TX6) (N := 18) hx hb hts hinX6 hown hK hP 0 rfl rfl 3 rfl ⟨rfl, rfl, rfl⟩ f16 rfl dX6_look_12 ?_
    refine lv_aload_n hx hb dX6_look_15 rfl (lv_at hl 0 rfl) ?_
    refine n_get (ci := 6) (v := .int (nI pt)) (C := RX6) (T := TX6) (N := 18) hx hb hts hinX6 hown hK hP 0 rfl rfl 14 rfl ⟨rfl, rfl, rfl⟩ f193 rfl dX6_look_16 ?_
    refine n_iald (i := pt) (v := (nI (tx pt))) hx hb hK hP 3 0 rfl rfl (by omega) (Nat.le_of_ble_eq_true rfl) rfl dX6_look_19 ?_
    refine lv_goto (tgt := 24) hx hb dX6_look_20 (by decide) ?_
    exact n_reti hx hb hr hlocks (post := fun r : Int32 => r = (oI (hereF tx len pt))) (by unfold hereF; first | (rw [if_neg (by omega)]) | (rw [if_pos (by omega)]; rfl)) rfl dX6_look_24

set_option maxHeartbeats 4000000 in
set_option maxRecDepth 100000 in
theorem c_X6_allows (lQ : Launch) (D : va_G) (kA : Nat → ClassId) (qr : Nat → Nat) (cc : Nat) (ac : Nat → Nat) (co : Nat → Nat) (ad : Nat) (rc : Nat) (nm : Nat → Nat) (st : Nat → Nat) (an : Nat → Nat) (svm : Nat → TCt) (cnt : Nat) (tx : Nat → Nat) (len : Nat) (th : Nat) (xf : Nat → Option Nat) (xt : Nat → Nat) (xs : Nat → Option Nat) (xa : Nat → Nat) (xw : Nat → Nat) (xc : Nat → Nat) (xk : Nat → Option Nat) (xp : Nat → Nat) (pt : Nat) (wr : Option Nat) (xm : Nat → Nat) (mny : Nat) (b : Bool) (pl : Nat) (sz : Nat) (hwb : ∀ q, wr = some q → q < 2147483648) : Met lQ yX6_allows wsX6_allows (rmN 0 0) (wr_Pc D vwCl [.ref (qr 0), .int (bI b), .int (nI pl)] (wR kA qr cc ac co ad rc nm st an svm cnt tx len th xf xt xs xa xw xc xk xp pt wr xm mny) (tyK kA) sz) (va_Qv (S := Unit) (fun (u : Unit) => True) (wr_B D vwCl (wR kA qr cc ac co ad rc nm st an svm cnt tx len th xf xt xs xa xw xc xk xp pt wr xm mny) (tyK kA) sz (fun u => (wR kA qr cc ac co ad rc nm st an svm cnt tx len th xf xt xs xa xw xc xk xp pt (alF wr b pl) xm mny))) (va_A (wR kA qr cc ac co ad rc nm st an svm cnt tx len th xf xt xs xa xw xc xk xp pt wr xm mny) sz)) 0 0 (va_A (wR kA qr cc ac co ad rc nm st an svm cnt tx len th xf xt xs xa xw xc xk xp pt wr xm mny) sz) := by
  refine Met.ofW (cc := cX6_allows) (maxL := 3) (ret := none) (by decide) rfl ?_
  intro pQ eQ s mQ args below meth cQ s₁ B hml hv
  obtain ⟨rfl, hsz, hP, hK, hD0⟩ := hv
  have hx := B.exec
  have hb := B.bytes
  have hr := B.returns
  have hts := atoms_spec (ws := wsX6_allows) B.pre
  have hown : s.vm.findClass RX6 = some mQ.cls := findClass_of_methodNamed B.named
  have hlocks : meth.locks = false := B.notSynchronized
  have hS0 : CallFix pQ mQ cQ cX6_allows 3 s ([.ref (qr 0), .int (bI b), .int (nI pl)] : List Value).toArray wsX6_allows RX6 := ⟨hx, hb, hml, hown, hts⟩
  subst hsz
  have hD := hD0.self (sz := s.heap.size)
  generalize hAe : va_A (wR kA qr cc ac co ad rc nm st an svm cnt tx len th xf xt xs xa xw xc xk xp pt wr xm mny) s.heap.size = A at hD ⊢
  have hA : ∀ q : Nat, s.heap.size ≤ q → A q := fun q h => by rw [← hAe]; exact Or.inr h
  have hS : va_S A s.heap s.heap [] := va_S.rf
  have f196 : (Cond.fieldLink RX6 196 "AskedRulesModel" "wrong" "I").before ([.ref (qr 0), .int (bI b), .int (nI pl)] : List Value).toArray s = true := hts _ (by decide +kernel)
  have hinX6 : ∀ w ∈ wsX60, w ∈ wsX6_allows := by decide +kernel
  have hl := lv_entry ([.ref (qr 0), .int (bI b), .int (nI pl)]) (n := 3) (Nat.le_of_ble_eq_true rfl)
  rw [lg_entry_eq]
  generalize (lg_sl ([.ref (qr 0), .int (bI b), .int (nI pl)]) ++ List.replicate (3 - (lg_sl ([.ref (qr 0), .int (bI b), .int (nI pl)])).length) Slot.unset).toArray = ls at hl ⊢
  have hl : lv_has ls 3 [(0, .ref (qr 0)), (1, .int (bI b)), (2, .int (nI pl))] := hl
  have hP : va_P D vwCl (wR kA qr cc ac co ad rc nm st an svm cnt tx len th xf xt xs xa xw xc xk xp pt wr xm mny) s.heap := hP
  have hD : va_D A (wR kA qr cc ac co ad rc nm st an svm cnt tx len th xf xt xs xa xw xc xk xp pt wr xm mny) := hD
  refine lv_aload_n hx hb dX6_allows_0 rfl (lv_at hl 0 rfl) ?_
  refine lv_aload_n hx hb dX6_allows_1 rfl (lv_at hl 0 rfl) ?_
  refine n_get (ci := 6) (v := .int (oI wr)) (C := RX6) (T := TX6) (N := 18) hx hb hts hinX6 hown hK hP 0 rfl rfl 15 rfl ⟨rfl, rfl, rfl⟩ f196 rfl dX6_allows_2 ?_
  refine lv_iconst (v := (oI none)) hx hb dX6_allows_5 (by decide) ?_
  refine n_icmpo_ne (o := wr) (tgt := 17) hx hb hwb dX6_allows_6 (by decide) (fun q6 c6 => ?_) (fun c6 => ?_)
  · refine lv_aload_n hx hb dX6_allows_17 rfl (lv_at hl 0 rfl) ?_
    refine n_get (ci := 6) (v := .int (oI wr)) (C := RX6) (T := TX6) (N := 18) hx hb hts hinX6 hown hK hP 0 rfl rfl 15 rfl ⟨rfl, rfl, rfl⟩ f196 rfl dX6_allows_18 ?_
    refine n_put (ci := 6) (v := .int (oI wr)) (C := RX6) (T := TX6) (N := 18) (ws' := (wR kA qr cc ac co ad rc nm st an svm cnt tx len th xf xt xs xa xw xc xk xp pt wr xm mny)) hx hb hts hinX6 tyX6 tyX6_ok nmX6 hown hK hP hD hS 0 rfl rfl 15 rfl ⟨rfl, rfl, rfl, rfl⟩ f196 rfl rfl rfl rfl dX6_allows_21 (fun H locs hP hD hS => ?_)
    have hw9 : (wR kA qr cc ac co ad rc nm st an svm cnt tx len th xf xt xs xa xw xc xk xp pt wr xm mny) = (wR kA qr cc ac co ad rc nm st an svm cnt tx len th xf xt xs xa xw xc xk xp pt (alF wr b pl) xm mny) := (by unfold alF; first | (rw [c6, c10]; rfl) | (rw [c6]))
    rw [hw9] at hP hD
    exact n_wretv hx hb hr hlocks (post := fun (u : Unit) => True) (w1 := fun u => (wR kA qr cc ac co ad rc nm st an svm cnt tx len th xf xt xs xa xw xc xk xp pt (alF wr b pl) xm mny)) () trivial hP hD hK hS hAe dX6_allows_24
  · refine lv_iload_n hx hb dX6_allows_9 rfl (lv_at hl 1 rfl) ?_
    refine n_ifb_ne (b := b) (tgt := 17) hx hb dX6_allows_10 (by decide) (fun c10 => ?_) (fun c10 => ?_)
    · refine lv_aload_n hx hb dX6_allows_17 rfl (lv_at hl 0 rfl) ?_
      refine n_get (ci := 6) (v := .int (oI wr)) (C := RX6) (T := TX6) (N := 18) hx hb hts hinX6 hown hK hP 0 rfl rfl 15 rfl ⟨rfl, rfl, rfl⟩ f196 rfl dX6_allows_18 ?_
      refine n_put (ci := 6) (v := .int (oI wr)) (C := RX6) (T := TX6) (N := 18) (ws' := (wR kA qr cc ac co ad rc nm st an svm cnt tx len th xf xt xs xa xw xc xk xp pt wr xm mny)) hx hb hts hinX6 tyX6 tyX6_ok nmX6 hown hK hP hD hS 0 rfl rfl 15 rfl ⟨rfl, rfl, rfl, rfl⟩ f196 rfl rfl rfl rfl dX6_allows_21 (fun H locs hP hD hS => ?_)
      have hw9 : (wR kA qr cc ac co ad rc nm st an svm cnt tx len th xf xt xs xa xw xc xk xp pt wr xm mny) = (wR kA qr cc ac co ad rc nm st an svm cnt tx len th xf xt xs xa xw xc xk xp pt (alF wr b pl) xm mny) := (by unfold alF; first | (rw [c6, c10]; rfl) | (rw [c6]))
      rw [hw9] at hP hD
      exact n_wretv hx hb hr hlocks (post := fun (u : Unit) => True) (w1 := fun u => (wR kA qr cc ac co ad rc nm st an svm cnt tx len th xf xt xs xa xw xc xk xp pt (alF wr b pl) xm mny)) () trivial hP hD hK hS hAe dX6_allows_24
    · refine lv_iload_n hx hb dX6_allows_13 rfl (lv_at hl 2 rfl) ?_
      refine lv_goto (tgt := 21) hx hb dX6_allows_14 (by decide) ?_
      refine n_put (ci := 6) (v := .int (oI (some pl))) (C := RX6) (T := TX6) (N := 18) (ws' := (wR kA qr cc ac co ad rc nm st an svm cnt tx len th xf xt xs xa xw xc xk xp pt (some pl) xm mny)) hx hb hts hinX6 tyX6 tyX6_ok nmX6 hown hK hP hD hS 0 rfl rfl 15 rfl ⟨rfl, rfl, rfl, rfl⟩ f196 rfl rfl rfl rfl dX6_allows_21 (fun H locs hP hD hS => ?_)
      have hw9 : (wR kA qr cc ac co ad rc nm st an svm cnt tx len th xf xt xs xa xw xc xk xp pt (some pl) xm mny) = (wR kA qr cc ac co ad rc nm st an svm cnt tx len th xf xt xs xa xw xc xk xp pt (alF wr b pl) xm mny) := (by unfold alF; first | (rw [c6, c10]; rfl) | (rw [c6]))
      rw [hw9] at hP hD
      exact n_wretv hx hb hr hlocks (post := fun (u : Unit) => True) (w1 := fun u => (wR kA qr cc ac co ad rc nm st an svm cnt tx len th xf xt xs xa xw xc xk xp pt (alF wr b pl) xm mny)) () trivial hP hD hK hS hAe dX6_allows_24

set_option maxHeartbeats 4000000 in
set_option maxRecDepth 100000 in
theorem c_X6_sign (lQ : Launch) (D : va_G) (kA : Nat → ClassId) (qr : Nat → Nat) (cc : Nat) (ac : Nat → Nat) (co : Nat → Nat) (ad : Nat) (rc : Nat) (nm : Nat → Nat) (st : Nat → Nat) (an : Nat → Nat) (svm : Nat → TCt) (cnt : Nat) (tx : Nat → Nat) (len : Nat) (th : Nat) (xf : Nat → Option Nat) (xt : Nat → Nat) (xs : Nat → Option Nat) (xa : Nat → Nat) (xw : Nat → Nat) (xc : Nat → Nat) (xk : Nat → Option Nat) (xp : Nat → Nat) (pt : Nat) (wr : Option Nat) (xm : Nat → Nat) (mny : Nat) (w : Nat) (sz : Nat) (hlen : len ≤ 150) (htx : ∀ j, j < len → tx j < 128) (hpt : pt < 100000) (hwb : ∀ q, wr = some q → q < 2147483648) (hw : w < 128) : Met lQ yX6_sign wsX6_sign (rmN 1 22) (wr_Pc D vwCl [.ref (qr 0), .int (nI w)] (wR kA qr cc ac co ad rc nm st an svm cnt tx len th xf xt xs xa xw xc xk xp pt wr xm mny) (tyK kA) sz) (va_Qv (S := Unit) (fun (u : Unit) => True) (wr_B D vwCl (wR kA qr cc ac co ad rc nm st an svm cnt tx len th xf xt xs xa xw xc xk xp pt wr xm mny) (tyK kA) sz (fun u => (wR kA qr cc ac co ad rc nm st an svm cnt tx len th xf xt xs xa xw xc xk xp (pt + 1) (alF wr (decide (hereF tx len pt = some w)) pt) xm mny))) (va_A (wR kA qr cc ac co ad rc nm st an svm cnt tx len th xf xt xs xa xw xc xk xp pt wr xm mny) sz)) 0 0 (va_A (wR kA qr cc ac co ad rc nm st an svm cnt tx len th xf xt xs xa xw xc xk xp pt wr xm mny) sz) := by
  refine Met.ofW (cc := cX6_sign) (maxL := 2) (ret := none) (by decide) rfl ?_
  intro pQ eQ s mQ args below meth cQ s₁ B hml hv
  obtain ⟨rfl, hsz, hP, hK, hD0⟩ := hv
  have hx := B.exec
  have hb := B.bytes
  have hr := B.returns
  have hts := atoms_spec (ws := wsX6_sign) B.pre
  have hown : s.vm.findClass RX6 = some mQ.cls := findClass_of_methodNamed B.named
  have hlocks : meth.locks = false := B.notSynchronized
  have hS0 : CallFix pQ mQ cQ cX6_sign 2 s ([.ref (qr 0), .int (nI w)] : List Value).toArray wsX6_sign RX6 := ⟨hx, hb, hml, hown, hts⟩
  subst hsz
  have hD := hD0.self (sz := s.heap.size)
  generalize hAe : va_A (wR kA qr cc ac co ad rc nm st an svm cnt tx len th xf xt xs xa xw xc xk xp pt wr xm mny) s.heap.size = A at hD ⊢
  have hA : ∀ q : Nat, s.heap.size ≤ q → A q := fun q h => by rw [← hAe]; exact Or.inr h
  have hS : va_S A s.heap s.heap [] := va_S.rf
  have f193 : (Cond.fieldLink RX6 193 "AskedRulesModel" "at" "I").before ([.ref (qr 0), .int (nI w)] : List Value).toArray s = true := hts _ (by decide +kernel)
  have hinX6 : ∀ w ∈ wsX60, w ∈ wsX6_sign := by decide +kernel
  have hl := lv_entry ([.ref (qr 0), .int (nI w)]) (n := 2) (Nat.le_of_ble_eq_true rfl)
  rw [lg_entry_eq]
  generalize (lg_sl ([.ref (qr 0), .int (nI w)]) ++ List.replicate (2 - (lg_sl ([.ref (qr 0), .int (nI w)])).length) Slot.unset).toArray = ls at hl ⊢
  have hl : lv_has ls 2 [(0, .ref (qr 0)), (1, .int (nI w))] := hl
  have hP : va_P D vwCl (wR kA qr cc ac co ad rc nm st an svm cnt tx len th xf xt xs xa xw xc xk xp pt wr xm mny) s.heap := hP
  have hD : va_D A (wR kA qr cc ac co ad rc nm st an svm cnt tx len th xf xt xs xa xw xc xk xp pt wr xm mny) := hD
  have hN := oI_N (o := hereF tx len pt) (k := w) (hereF_bd htx) (by omega)
  refine lv_aload_n hx hb dX6_sign_0 rfl (lv_at hl 0 rfl) ?_
  refine lv_aload_n hx hb dX6_sign_1 rfl (lv_at hl 0 rfl) ?_
  refine n_cV (b := qr 0) (As := []) (rest := [.ref (qr 0)]) (wc := (wR kA qr cc ac co ad rc nm st an svm cnt tx len th xf xt xs xa xw xc xk xp pt wr xm mny)) hS0 (c_X6_look lQ D kA qr cc ac co ad rc nm st an svm cnt tx len th xf xt xs xa xw xc xk xp pt wr xm mny (by first | assumption | omega) (by first | assumption | omega)) (cwV 0 hts gX6_sign_X6_look rfl rfl rfl (by decide +kernel) ⟨Nat.le_of_ble_eq_true rfl, Nat.le_of_ble_eq_true rfl⟩) hP hK (q0 := 0) rfl rfl rfl rfl rfl hl.1 (Nat.le_of_ble_eq_true rfl) dX6_sign_2 ⟨Nat.le_refl _, Nat.le_refl _⟩ (fun r2 h2 => ?_)
  subst h2
  refine lv_iload_n hx hb dX6_sign_5 rfl (lv_at hl 1 rfl) ?_
  refine lv_icmp_ne (tgt := 13) hx hb dX6_sign_6 (by decide) (fun c6 => ?_) (fun c6 => ?_)
  · refine lv_iconst (v := (nI 0)) hx hb dX6_sign_13 (by decide) ?_
    refine lv_aload_n hx hb dX6_sign_14 rfl (lv_at hl 0 rfl) ?_
    refine n_get (ci := 6) (v := .int (nI pt)) (C := RX6) (T := TX6) (N := 18) hx hb hts hinX6 hown hK hP 0 rfl rfl 14 rfl ⟨rfl, rfl, rfl⟩ f193 rfl dX6_sign_15 ?_
    refine n_wVv (b := qr 0) (As := [.int (bI false), .int (nI pt)]) (rest := []) (wr := []) (ws' := fun u => (wR kA qr cc ac co ad rc nm st an svm cnt tx len th xf xt xs xa xw xc xk xp pt (alF wr false pt) xm mny)) hS0 (c_X6_allows lQ D kA qr cc ac co ad rc nm st an svm cnt tx len th xf xt xs xa xw xc xk xp pt wr xm mny false pt s.heap.size (by first | assumption | omega)) (cwV 2 hts gX6_sign_X6_allows rfl rfl rfl (by decide +kernel) ⟨Nat.le_of_ble_eq_true rfl, Nat.le_of_ble_eq_true rfl⟩) hP hD hS hA hK hK (by simpa only [List.append_assoc, List.append_nil] using (List.Perm.of_eq (List.append_nil _).symm)) (fun u => List.Perm.symm (by simpa only [List.append_assoc, List.append_nil] using (List.Perm.of_eq (List.append_nil _).symm))) (q0 := 0) rfl rfl rfl rfl rfl hl.1 (Nat.le_of_ble_eq_true rfl) dX6_sign_18 ⟨Nat.le_refl _, Nat.le_refl _⟩ (fun u18 H locs h18 hP hD hS => ?_)
    have hP : va_P D vwCl (wR kA qr cc ac co ad rc nm st an svm cnt tx len th xf xt xs xa xw xc xk xp pt (alF wr false pt) xm mny) H := hP
    have hD : va_D A (wR kA qr cc ac co ad rc nm st an svm cnt tx len th xf xt xs xa xw xc xk xp pt (alF wr false pt) xm mny) := hD
    refine lv_aload_n hx hb dX6_sign_21 rfl (lv_at hl 0 rfl) ?_
    refine lv_dup hx hb dX6_sign_22 rfl ?_
    refine n_get (ci := 6) (v := .int (nI pt)) (C := RX6) (T := TX6) (N := 18) hx hb hts hinX6 hown hK hP 0 rfl rfl 14 rfl ⟨rfl, rfl, rfl⟩ f193 rfl dX6_sign_23 ?_
    refine lv_iconst (v := (nI 1)) hx hb dX6_sign_26 (by decide) ?_
    refine n_iadd (v := (nI (pt + 1))) hx hb (nI_add _ _) dX6_sign_27 ?_
    refine n_put (ci := 6) (v := .int (nI (pt + 1))) (C := RX6) (T := TX6) (N := 18) (ws' := (wR kA qr cc ac co ad rc nm st an svm cnt tx len th xf xt xs xa xw xc xk xp (pt + 1) (alF wr false pt) xm mny)) hx hb hts hinX6 tyX6 tyX6_ok nmX6 hown hK hP hD hS 0 rfl rfl 14 rfl ⟨rfl, rfl, rfl, rfl⟩ f193 rfl rfl rfl rfl dX6_sign_28 (fun H locs hP hD hS => ?_)
    have hw9 : (wR kA qr cc ac co ad rc nm st an svm cnt tx len th xf xt xs xa xw xc xk xp (pt + 1) (alF wr false pt) xm mny) = (wR kA qr cc ac co ad rc nm st an svm cnt tx len th xf xt xs xa xw xc xk xp (pt + 1) (alF wr (decide (hereF tx len pt = some w)) pt) xm mny) := (by first | (rw [decide_eq_true (hN.mp c6)]; done) | (rw [decide_eq_false (fun h => c6 (hN.mpr h))]))
    rw [hw9] at hP hD
    exact n_wretv hx hb hr hlocks (post := fun (u : Unit) => True) (w1 := fun u => (wR kA qr cc ac co ad rc nm st an svm cnt tx len th xf xt xs xa xw xc xk xp (pt + 1) (alF wr (decide (hereF tx len pt = some w)) pt) xm mny)) () trivial hP hD hK hS hAe dX6_sign_31
  · refine lv_iconst (v := (nI 1)) hx hb dX6_sign_9 (by decide) ?_
    refine lv_goto (tgt := 14) hx hb dX6_sign_10 (by decide) ?_
    refine lv_aload_n hx hb dX6_sign_14 rfl (lv_at hl 0 rfl) ?_
    refine n_get (ci := 6) (v := .int (nI pt)) (C := RX6) (T := TX6) (N := 18) hx hb hts hinX6 hown hK hP 0 rfl rfl 14 rfl ⟨rfl, rfl, rfl⟩ f193 rfl dX6_sign_15 ?_
    refine n_wVv (b := qr 0) (As := [.int (bI true), .int (nI pt)]) (rest := []) (wr := []) (ws' := fun u => (wR kA qr cc ac co ad rc nm st an svm cnt tx len th xf xt xs xa xw xc xk xp pt (alF wr true pt) xm mny)) hS0 (c_X6_allows lQ D kA qr cc ac co ad rc nm st an svm cnt tx len th xf xt xs xa xw xc xk xp pt wr xm mny true pt s.heap.size (by first | assumption | omega)) (cwV 2 hts gX6_sign_X6_allows rfl rfl rfl (by decide +kernel) ⟨Nat.le_of_ble_eq_true rfl, Nat.le_of_ble_eq_true rfl⟩) hP hD hS hA hK hK (by simpa only [List.append_assoc, List.append_nil] using (List.Perm.of_eq (List.append_nil _).symm)) (fun u => List.Perm.symm (by simpa only [List.append_assoc, List.append_nil] using (List.Perm.of_eq (List.append_nil _).symm))) (q0 := 0) rfl rfl rfl rfl rfl hl.1 (Nat.le_of_ble_eq_true rfl) dX6_sign_18 ⟨Nat.le_refl _, Nat.le_refl _⟩ (fun u18 H locs h18 hP hD hS => ?_)
    have hP : va_P D vwCl (wR kA qr cc ac co ad rc nm st an svm cnt tx len th xf xt xs xa xw xc xk xp pt (alF wr true pt) xm mny) H := hP
    have hD : va_D A (wR kA qr cc ac co ad rc nm st an svm cnt tx len th xf xt xs xa xw xc xk xp pt (alF wr true pt) xm mny) := hD
    refine lv_aload_n hx hb dX6_sign_21 rfl (lv_at hl 0 rfl) ?_
    refine lv_dup hx hb dX6_sign_22 rfl ?_
    refine n_get (ci := 6) (v := .int (nI pt)) (C := RX6) (T := TX6) (N := 18) hx hb hts hinX6 hown hK hP 0 rfl rfl 14 rfl ⟨rfl, rfl, rfl⟩ f193 rfl dX6_sign_23 ?_
    refine lv_iconst (v := (nI 1)) hx hb dX6_sign_26 (by decide) ?_
    refine n_iadd (v := (nI (pt + 1))) hx hb (nI_add _ _) dX6_sign_27 ?_
    refine n_put (ci := 6) (v := .int (nI (pt + 1))) (C := RX6) (T := TX6) (N := 18) (ws' := (wR kA qr cc ac co ad rc nm st an svm cnt tx len th xf xt xs xa xw xc xk xp (pt + 1) (alF wr true pt) xm mny)) hx hb hts hinX6 tyX6 tyX6_ok nmX6 hown hK hP hD hS 0 rfl rfl 14 rfl ⟨rfl, rfl, rfl, rfl⟩ f193 rfl rfl rfl rfl dX6_sign_28 (fun H locs hP hD hS => ?_)
    have hw9 : (wR kA qr cc ac co ad rc nm st an svm cnt tx len th xf xt xs xa xw xc xk xp (pt + 1) (alF wr true pt) xm mny) = (wR kA qr cc ac co ad rc nm st an svm cnt tx len th xf xt xs xa xw xc xk xp (pt + 1) (alF wr (decide (hereF tx len pt = some w)) pt) xm mny) := (by first | (rw [decide_eq_true (hN.mp c6)]; done) | (rw [decide_eq_false (fun h => c6 (hN.mpr h))]))
    rw [hw9] at hP hD
    exact n_wretv hx hb hr hlocks (post := fun (u : Unit) => True) (w1 := fun u => (wR kA qr cc ac co ad rc nm st an svm cnt tx len th xf xt xs xa xw xc xk xp (pt + 1) (alF wr (decide (hereF tx len pt = some w)) pt) xm mny)) () trivial hP hD hK hS hAe dX6_sign_31

set_option maxHeartbeats 4000000 in
set_option maxRecDepth 100000 in
theorem c_X6_isFigure (lQ : Launch) (D : va_G) (kA : Nat → ClassId) (qr : Nat → Nat) (cc : Nat) (ac : Nat → Nat) (co : Nat → Nat) (ad : Nat) (rc : Nat) (nm : Nat → Nat) (st : Nat → Nat) (an : Nat → Nat) (svm : Nat → TCt) (cnt : Nat) (tx : Nat → Nat) (len : Nat) (th : Nat) (xf : Nat → Option Nat) (xt : Nat → Nat) (xs : Nat → Option Nat) (xa : Nat → Nat) (xw : Nat → Nat) (xc : Nat → Nat) (xk : Nat → Option Nat) (xp : Nat → Nat) (pt : Nat) (wr : Option Nat) (xm : Nat → Nat) (mny : Nat) (hlen : len ≤ 150) (htx : ∀ j, j < len → tx j < 128) (hpt : pt < 100000) : Met lQ yX6_isFigure wsX6_isFigure (rmN 1 22) (rd_Pc D vwCl [.ref (qr 0)] (wR kA qr cc ac co ad rc nm st an svm cnt tx len th xf xt xs xa xw xc xk xp pt wr xm mny) (tyK kA)) (vp_Si (fun r : Int32 => r = (bI ((digT tx len pt).isSome)))) 0 0 (fun _ => False) := by
  refine Met.ofW (cc := cX6_isFigure) (maxL := 1) (ret := (some .boolean)) (by decide) rfl ?_
  intro pQ eQ s mQ args below meth cQ s₁ B hml hv
  obtain ⟨rfl, hP, hK⟩ := hv
  have hx := B.exec
  have hb := B.bytes
  have hr := B.returns
  have hts := atoms_spec (ws := wsX6_isFigure) B.pre
  have hown : s.vm.findClass RX6 = some mQ.cls := findClass_of_methodNamed B.named
  have hlocks : meth.locks = false := B.notSynchronized
  have hS0 : CallFix pQ mQ cQ cX6_isFigure 1 s ([.ref (qr 0)] : List Value).toArray wsX6_isFigure RX6 := ⟨hx, hb, hml, hown, hts⟩
  skip
  have hl := lv_entry ([.ref (qr 0)]) (n := 1) (Nat.le_of_ble_eq_true rfl)
  rw [lg_entry_eq]
  generalize (lg_sl ([.ref (qr 0)]) ++ List.replicate (1 - (lg_sl ([.ref (qr 0)])).length) Slot.unset).toArray = ls at hl ⊢
  have hl : lv_has ls 1 [(0, .ref (qr 0))] := hl
  have hP : va_P D vwCl (wR kA qr cc ac co ad rc nm st an svm cnt tx len th xf xt xs xa xw xc xk xp pt wr xm mny) s.heap := hP
  refine lv_aload_n hx hb dX6_isFigure_0 rfl (lv_at hl 0 rfl) ?_
  refine n_cV (b := qr 0) (As := []) (rest := []) (wc := (wR kA qr cc ac co ad rc nm st an svm cnt tx len th xf xt xs xa xw xc xk xp pt wr xm mny)) hS0 (c_X6_look lQ D kA qr cc ac co ad rc nm st an svm cnt tx len th xf xt xs xa xw xc xk xp pt wr xm mny (by first | assumption | omega) (by first | assumption | omega)) (cwV 0 hts gX6_isFigure_X6_look rfl rfl rfl (by decide +kernel) ⟨Nat.le_of_ble_eq_true rfl, Nat.le_of_ble_eq_true rfl⟩) hP hK (q0 := 0) rfl rfl rfl rfl rfl hl.1 (Nat.le_of_ble_eq_true rfl) dX6_isFigure_1 ⟨Nat.le_refl _, Nat.le_refl _⟩ (fun r1 h1 => ?_)
  subst h1
  refine lv_bipush (v := (nI 48)) hx hb dX6_isFigure_4 (by decide) ?_
  refine lv_bipush (v := (nI 57)) hx hb dX6_isFigure_6 (by decide) ?_
  refine n_cS (As := [.int (oI (hereF tx len pt)), .int (nI 48), .int (nI 57)]) (rest := []) (wc := []) hS0 (c_X6_in lQ D kA (oI (hereF tx len pt)) (nI 48) (nI 57) ) (va_cwS 3 hts gX6_isFigure_X6_in rfl rfl rfl (by decide +kernel) ⟨Nat.le_of_ble_eq_true rfl, Nat.le_of_ble_eq_true rfl⟩) (hP.mem (ws' := []) (fun qQ h => absurd h List.not_mem_nil)) hK rfl rfl hl.1 (Nat.le_of_ble_eq_true rfl) dX6_isFigure_8 ⟨Nat.le_refl _, Nat.le_refl _⟩ (fun r8 h8 => ?_)
  subst h8
  exact n_retz hx hb hr hlocks (post := fun r : Int32 => r = (bI ((digT tx len pt).isSome))) (narrow_bI _) (by rw [fig_eq htx]) rfl dX6_isFigure_11

set_option maxHeartbeats 4000000 in
set_option maxRecDepth 100000 in
theorem c_X6_action (lQ : Launch) (D : va_G) (kA : Nat → ClassId) (qr : Nat → Nat) (cc : Nat) (ac : Nat → Nat) (co : Nat → Nat) (ad : Nat) (rc : Nat) (nm : Nat → Nat) (st : Nat → Nat) (an : Nat → Nat) (svm : Nat → TCt) (cnt : Nat) (tx : Nat → Nat) (len : Nat) (th : Nat) (xf : Nat → Option Nat) (xt : Nat → Nat) (xs : Nat → Option Nat) (xa : Nat → Nat) (xw : Nat → Nat) (xc : Nat → Nat) (xk : Nat → Option Nat) (xp : Nat → Nat) (pt : Nat) (wr : Option Nat) (xm : Nat → Nat) (mny : Nat) (sz : Nat) (hlen : len ≤ 150) (htx : ∀ j, j < len → tx j < 128) (hpt : pt < 100000) (hwb : ∀ q, wr = some q → q < 2147483648) (hpt2 : pt < 1000) : Met lQ yX6_action wsX6_action (rmN 2 43) (wr_Pc D vwCl [.ref (qr 0)] (wR kA qr cc ac co ad rc nm st an svm cnt tx len th xf xt xs xa xw xc xk xp pt wr xm mny) (tyK kA) sz) (va_Qi (S := Unit) (fun (r : Int32) (u : Unit) => r = (oI (hereF tx len (pt + 1)) - nI 48)) (wr_B D vwCl (wR kA qr cc ac co ad rc nm st an svm cnt tx len th xf xt xs xa xw xc xk xp pt wr xm mny) (tyK kA) sz (fun u => (wR kA qr cc ac co ad rc nm st an svm cnt tx len th xf xt xs xa xw xc xk xp (pt + 2) (alF (alF wr (decide (hereF tx len pt = some 62)) pt) (digT tx len (pt + 1)).isSome (pt + 1)) xm mny))) (va_A (wR kA qr cc ac co ad rc nm st an svm cnt tx len th xf xt xs xa xw xc xk xp pt wr xm mny) sz)) 0 0 (va_A (wR kA qr cc ac co ad rc nm st an svm cnt tx len th xf xt xs xa xw xc xk xp pt wr xm mny) sz) := by
  refine Met.ofW (cc := cX6_action) (maxL := 2) (ret := (some .int)) (by decide) rfl ?_
  intro pQ eQ s mQ args below meth cQ s₁ B hml hv
  obtain ⟨rfl, hsz, hP, hK, hD0⟩ := hv
  have hx := B.exec
  have hb := B.bytes
  have hr := B.returns
  have hts := atoms_spec (ws := wsX6_action) B.pre
  have hown : s.vm.findClass RX6 = some mQ.cls := findClass_of_methodNamed B.named
  have hlocks : meth.locks = false := B.notSynchronized
  have hS0 : CallFix pQ mQ cQ cX6_action 2 s ([.ref (qr 0)] : List Value).toArray wsX6_action RX6 := ⟨hx, hb, hml, hown, hts⟩
  subst hsz
  have hD := hD0.self (sz := s.heap.size)
  generalize hAe : va_A (wR kA qr cc ac co ad rc nm st an svm cnt tx len th xf xt xs xa xw xc xk xp pt wr xm mny) s.heap.size = A at hD ⊢
  have hA : ∀ q : Nat, s.heap.size ≤ q → A q := fun q h => by rw [← hAe]; exact Or.inr h
  have hS : va_S A s.heap s.heap [] := va_S.rf
  have f193 : (Cond.fieldLink RX6 193 "AskedRulesModel" "at" "I").before ([.ref (qr 0)] : List Value).toArray s = true := hts _ (by decide +kernel)
  have hinX6 : ∀ w ∈ wsX60, w ∈ wsX6_action := by decide +kernel
  have hl := lv_entry ([.ref (qr 0)]) (n := 2) (Nat.le_of_ble_eq_true rfl)
  rw [lg_entry_eq]
  generalize (lg_sl ([.ref (qr 0)]) ++ List.replicate (2 - (lg_sl ([.ref (qr 0)])).length) Slot.unset).toArray = ls at hl ⊢
  have hl : lv_has ls 2 [(0, .ref (qr 0))] := hl
  have hP : va_P D vwCl (wR kA qr cc ac co ad rc nm st an svm cnt tx len th xf xt xs xa xw xc xk xp pt wr xm mny) s.heap := hP
  have hD : va_D A (wR kA qr cc ac co ad rc nm st an svm cnt tx len th xf xt xs xa xw xc xk xp pt wr xm mny) := hD
  refine lv_aload_n hx hb dX6_action_0 rfl (lv_at hl 0 rfl) ?_
  refine lv_bipush (v := (nI 62)) hx hb dX6_action_1 (by decide) ?_
  refine n_wVv (b := qr 0) (As := [.int (nI 62)]) (rest := []) (wr := []) (ws' := fun u => (wR kA qr cc ac co ad rc nm st an svm cnt tx len th xf xt xs xa xw xc xk xp (pt + 1) (alF wr (decide (hereF tx len pt = some 62)) pt) xm mny)) hS0 (c_X6_sign lQ D kA qr cc ac co ad rc nm st an svm cnt tx len th xf xt xs xa xw xc xk xp pt wr xm mny 62 s.heap.size (by first | assumption | omega) (by first | assumption | omega) (by first | assumption | omega) (by first | assumption | omega) (by first | assumption | omega)) (cwV 1 hts gX6_action_X6_sign rfl rfl rfl (by decide +kernel) ⟨Nat.le_of_ble_eq_true rfl, Nat.le_of_ble_eq_true rfl⟩) hP hD hS hA hK hK (by simpa only [List.append_assoc, List.append_nil] using (List.Perm.of_eq (List.append_nil _).symm)) (fun u => List.Perm.symm (by simpa only [List.append_assoc, List.append_nil] using (List.Perm.of_eq (List.append_nil _).symm))) (q0 := 0) rfl rfl rfl rfl rfl hl.1 (Nat.le_of_ble_eq_true rfl) dX6_action_3 ⟨Nat.le_refl _, Nat.le_refl _⟩ (fun u3 H locs h3 hP hD hS => ?_)
  have hP : va_P D vwCl (wR kA qr cc ac co ad rc nm st an svm cnt tx len th xf xt xs xa xw xc xk xp (pt + 1) (alF wr (decide (hereF tx len pt = some 62)) pt) xm mny) H := hP
  have hD : va_D A (wR kA qr cc ac co ad rc nm st an svm cnt tx len th xf xt xs xa xw xc xk xp (pt + 1) (alF wr (decide (hereF tx len pt = some 62)) pt) xm mny) := hD
  refine lv_aload_n hx hb dX6_action_6 rfl (lv_at hl 0 rfl) ?_
  refine lv_aload_n hx hb dX6_action_7 rfl (lv_at hl 0 rfl) ?_
  refine n_cV (b := qr 0) (As := []) (rest := [.ref (qr 0)]) (wc := (wR kA qr cc ac co ad rc nm st an svm cnt tx len th xf xt xs xa xw xc xk xp (pt + 1) (alF wr (decide (hereF tx len pt = some 62)) pt) xm mny)) hS0 (c_X6_isFigure lQ D kA qr cc ac co ad rc nm st an svm cnt tx len th xf xt xs xa xw xc xk xp (pt + 1) (alF wr (decide (hereF tx len pt = some 62)) pt) xm mny (by first | assumption | omega) (by first | assumption | omega) (by first | assumption | omega)) (cwV 0 hts gX6_action_X6_isFigure rfl rfl rfl (by decide +kernel) ⟨Nat.le_of_ble_eq_true rfl, Nat.le_of_ble_eq_true rfl⟩) hP hK (q0 := 0) rfl rfl rfl rfl rfl hl.1 (Nat.le_of_ble_eq_true rfl) dX6_action_8 ⟨Nat.le_refl _, Nat.le_refl _⟩ (fun r8 h8 => ?_)
  subst h8
  refine lv_aload_n hx hb dX6_action_11 rfl (lv_at hl 0 rfl) ?_
  refine n_get (ci := 6) (v := .int (nI (pt + 1))) (C := RX6) (T := TX6) (N := 18) hx hb hts hinX6 hown hK hP 0 rfl rfl 14 rfl ⟨rfl, rfl, rfl⟩ f193 rfl dX6_action_12 ?_
  refine n_wVv (b := qr 0) (As := [.int (bI ((digT tx len (pt + 1)).isSome)), .int (nI (pt + 1))]) (rest := []) (wr := []) (ws' := fun u => (wR kA qr cc ac co ad rc nm st an svm cnt tx len th xf xt xs xa xw xc xk xp (pt + 1) (alF (alF wr (decide (hereF tx len pt = some 62)) pt) ((digT tx len (pt + 1)).isSome) (pt + 1)) xm mny)) hS0 (c_X6_allows lQ D kA qr cc ac co ad rc nm st an svm cnt tx len th xf xt xs xa xw xc xk xp (pt + 1) (alF wr (decide (hereF tx len pt = some 62)) pt) xm mny ((digT tx len (pt + 1)).isSome) (pt + 1) H.size (alF_bd hwb (by omega))) (cwV 2 hts gX6_action_X6_allows rfl rfl rfl (by decide +kernel) ⟨Nat.le_of_ble_eq_true rfl, Nat.le_of_ble_eq_true rfl⟩) hP hD hS hA hK hK (by simpa only [List.append_assoc, List.append_nil] using (List.Perm.of_eq (List.append_nil _).symm)) (fun u => List.Perm.symm (by simpa only [List.append_assoc, List.append_nil] using (List.Perm.of_eq (List.append_nil _).symm))) (q0 := 0) rfl rfl rfl rfl rfl hl.1 (Nat.le_of_ble_eq_true rfl) dX6_action_15 ⟨Nat.le_refl _, Nat.le_refl _⟩ (fun u15 H locs h15 hP hD hS => ?_)
  have hP : va_P D vwCl (wR kA qr cc ac co ad rc nm st an svm cnt tx len th xf xt xs xa xw xc xk xp (pt + 1) (alF (alF wr (decide (hereF tx len pt = some 62)) pt) ((digT tx len (pt + 1)).isSome) (pt + 1)) xm mny) H := hP
  have hD : va_D A (wR kA qr cc ac co ad rc nm st an svm cnt tx len th xf xt xs xa xw xc xk xp (pt + 1) (alF (alF wr (decide (hereF tx len pt = some 62)) pt) ((digT tx len (pt + 1)).isSome) (pt + 1)) xm mny) := hD
  refine lv_aload_n hx hb dX6_action_18 rfl (lv_at hl 0 rfl) ?_
  refine n_cV (b := qr 0) (As := []) (rest := []) (wc := (wR kA qr cc ac co ad rc nm st an svm cnt tx len th xf xt xs xa xw xc xk xp (pt + 1) (alF (alF wr (decide (hereF tx len pt = some 62)) pt) ((digT tx len (pt + 1)).isSome) (pt + 1)) xm mny)) hS0 (c_X6_look lQ D kA qr cc ac co ad rc nm st an svm cnt tx len th xf xt xs xa xw xc xk xp (pt + 1) (alF (alF wr (decide (hereF tx len pt = some 62)) pt) ((digT tx len (pt + 1)).isSome) (pt + 1)) xm mny (by first | assumption | omega) (by first | assumption | omega)) (cwV 0 hts gX6_action_X6_look rfl rfl rfl (by decide +kernel) ⟨Nat.le_of_ble_eq_true rfl, Nat.le_of_ble_eq_true rfl⟩) hP hK (q0 := 0) rfl rfl rfl rfl rfl hl.1 (Nat.le_of_ble_eq_true rfl) dX6_action_19 ⟨Nat.le_refl _, Nat.le_refl _⟩ (fun r19 h19 => ?_)
  subst h19
  refine lv_bipush (v := (nI 48)) hx hb dX6_action_22 (by decide) ?_
  refine n_isub (v := ((oI (hereF tx len (pt + 1))) - (nI 48))) hx hb rfl dX6_action_24 ?_
  refine lv_istore_n (lv' := [(1, .int ((oI (hereF tx len (pt + 1))) - (nI 48))), (0, .ref (qr 0))]) hx hb dX6_action_25 rfl hl (by decide) rfl (fun ls hl => ?_)
  refine lv_aload_n hx hb dX6_action_26 rfl (lv_at hl 1 rfl) ?_
  refine lv_dup hx hb dX6_action_27 rfl ?_
  refine n_get (ci := 6) (v := .int (nI (pt + 1))) (C := RX6) (T := TX6) (N := 18) hx hb hts hinX6 hown hK hP 0 rfl rfl 14 rfl ⟨rfl, rfl, rfl⟩ f193 rfl dX6_action_28 ?_
  refine lv_iconst (v := (nI 1)) hx hb dX6_action_31 (by decide) ?_
  refine n_iadd (v := (nI (pt + 2))) hx hb (nI_add _ _) dX6_action_32 ?_
  refine n_put (ci := 6) (v := .int (nI (pt + 2))) (C := RX6) (T := TX6) (N := 18) (ws' := (wR kA qr cc ac co ad rc nm st an svm cnt tx len th xf xt xs xa xw xc xk xp (pt + 2) (alF (alF wr (decide (hereF tx len pt = some 62)) pt) ((digT tx len (pt + 1)).isSome) (pt + 1)) xm mny)) hx hb hts hinX6 tyX6 tyX6_ok nmX6 hown hK hP hD hS 0 rfl rfl 14 rfl ⟨rfl, rfl, rfl, rfl⟩ f193 rfl rfl rfl rfl dX6_action_33 (fun H locs hP hD hS => ?_)
  refine lv_iload_n hx hb dX6_action_36 rfl (lv_at hl 0 rfl) ?_
  have hP : va_P D vwCl (wR kA qr cc ac co ad rc nm st an svm cnt tx len th xf xt xs xa xw xc xk xp (pt + 2) (alF (alF wr (decide (hereF tx len pt = some 62)) pt) (digT tx len (pt + 1)).isSome (pt + 1)) xm mny) H := hP
  have hD : va_D A (wR kA qr cc ac co ad rc nm st an svm cnt tx len th xf xt xs xa xw xc xk xp (pt + 2) (alF (alF wr (decide (hereF tx len pt = some 62)) pt) (digT tx len (pt + 1)).isSome (pt + 1)) xm mny) := hD
  exact n_wreti hx hb hr hlocks (post := fun (r : Int32) (u : Unit) => r = (oI (hereF tx len (pt + 1)) - nI 48)) (w1 := fun u => (wR kA qr cc ac co ad rc nm st an svm cnt tx len th xf xt xs xa xw xc xk xp (pt + 2) (alF (alF wr (decide (hereF tx len pt = some 62)) pt) (digT tx len (pt + 1)).isSome (pt + 1)) xm mny)) () rfl hP hD hK hS hAe dX6_action_37

set_option maxHeartbeats 4000000 in
set_option maxRecDepth 100000 in
theorem c_X6_rowNumber (lQ : Launch) (D : va_G) (kA : Nat → ClassId) (qr : Nat → Nat) (cc : Nat) (ac : Nat → Nat) (co : Nat → Nat) (ad : Nat) (rc : Nat) (nm : Nat → Nat) (st : Nat → Nat) (an : Nat → Nat) (svm : Nat → TCt) (cnt : Nat) (tx : Nat → Nat) (len : Nat) (th : Nat) (xf : Nat → Option Nat) (xt : Nat → Nat) (xs : Nat → Option Nat) (xa : Nat → Nat) (xw : Nat → Nat) (xc : Nat → Nat) (xk : Nat → Option Nat) (xp : Nat → Nat) (pt : Nat) (wr : Option Nat) (xm : Nat → Nat) (mny : Nat) (sz : Nat) (hlen : len ≤ 150) (htx : ∀ j, j < len → tx j < 128) (hpt : pt < 100000) (hwb : ∀ q, wr = some q → q < 2147483648) (hpt2 : pt < 1000) : Met lQ yX6_rowNumber wsX6_rowNumber (rmN 2 43) (wr_Pc D vwCl [.ref (qr 0)] (wR kA qr cc ac co ad rc nm st an svm cnt tx len th xf xt xs xa xw xc xk xp pt wr xm mny) (tyK kA) sz) (va_Qi (S := Unit) (fun (r : Int32) (u : Unit) => r = (cond (digT tx len (pt + 2)).isSome (nI 10 * (oI (hereF tx len (pt + 1)) - nI 48) + oI (hereF tx len (pt + 2)) - nI 48) (oI (hereF tx len (pt + 1)) - nI 48))) (wr_B D vwCl (wR kA qr cc ac co ad rc nm st an svm cnt tx len th xf xt xs xa xw xc xk xp pt wr xm mny) (tyK kA) sz (fun u => (wR kA qr cc ac co ad rc nm st an svm cnt tx len th xf xt xs xa xw xc xk xp (cond (digT tx len (pt + 2)).isSome (pt + 3) (pt + 2)) (alF (alF wr (decide (hereF tx len pt = some 32)) pt) (digT tx len (pt + 1)).isSome (pt + 1)) xm mny))) (va_A (wR kA qr cc ac co ad rc nm st an svm cnt tx len th xf xt xs xa xw xc xk xp pt wr xm mny) sz)) 0 0 (va_A (wR kA qr cc ac co ad rc nm st an svm cnt tx len th xf xt xs xa xw xc xk xp pt wr xm mny) sz) := by
  refine Met.ofW (cc := cX6_rowNumber) (maxL := 2) (ret := (some .int)) (by decide) rfl ?_
  intro pQ eQ s mQ args below meth cQ s₁ B hml hv
  obtain ⟨rfl, hsz, hP, hK, hD0⟩ := hv
  have hx := B.exec
  have hb := B.bytes
  have hr := B.returns
  have hts := atoms_spec (ws := wsX6_rowNumber) B.pre
  have hown : s.vm.findClass RX6 = some mQ.cls := findClass_of_methodNamed B.named
  have hlocks : meth.locks = false := B.notSynchronized
  have hS0 : CallFix pQ mQ cQ cX6_rowNumber 2 s ([.ref (qr 0)] : List Value).toArray wsX6_rowNumber RX6 := ⟨hx, hb, hml, hown, hts⟩
  subst hsz
  have hD := hD0.self (sz := s.heap.size)
  generalize hAe : va_A (wR kA qr cc ac co ad rc nm st an svm cnt tx len th xf xt xs xa xw xc xk xp pt wr xm mny) s.heap.size = A at hD ⊢
  have hA : ∀ q : Nat, s.heap.size ≤ q → A q := fun q h => by rw [← hAe]; exact Or.inr h
  have hS : va_S A s.heap s.heap [] := va_S.rf
  have f193 : (Cond.fieldLink RX6 193 "AskedRulesModel" "at" "I").before ([.ref (qr 0)] : List Value).toArray s = true := hts _ (by decide +kernel)
  have hinX6 : ∀ w ∈ wsX60, w ∈ wsX6_rowNumber := by decide +kernel
  have hl := lv_entry ([.ref (qr 0)]) (n := 2) (Nat.le_of_ble_eq_true rfl)
  rw [lg_entry_eq]
  generalize (lg_sl ([.ref (qr 0)]) ++ List.replicate (2 - (lg_sl ([.ref (qr 0)])).length) Slot.unset).toArray = ls at hl ⊢
  have hl : lv_has ls 2 [(0, .ref (qr 0))] := hl
  have hP : va_P D vwCl (wR kA qr cc ac co ad rc nm st an svm cnt tx len th xf xt xs xa xw xc xk xp pt wr xm mny) s.heap := hP
  have hD : va_D A (wR kA qr cc ac co ad rc nm st an svm cnt tx len th xf xt xs xa xw xc xk xp pt wr xm mny) := hD
  refine lv_aload_n hx hb dX6_rowNumber_0 rfl (lv_at hl 0 rfl) ?_
  refine lv_bipush (v := (nI 32)) hx hb dX6_rowNumber_1 (by decide) ?_
  refine n_wVv (b := qr 0) (As := [.int (nI 32)]) (rest := []) (wr := []) (ws' := fun u => (wR kA qr cc ac co ad rc nm st an svm cnt tx len th xf xt xs xa xw xc xk xp (pt + 1) (alF wr (decide (hereF tx len pt = some 32)) pt) xm mny)) hS0 (c_X6_sign lQ D kA qr cc ac co ad rc nm st an svm cnt tx len th xf xt xs xa xw xc xk xp pt wr xm mny 32 s.heap.size (by first | assumption | omega) (by first | assumption | omega) (by first | assumption | omega) (by first | assumption | omega) (by first | assumption | omega)) (cwV 1 hts gX6_rowNumber_X6_sign rfl rfl rfl (by decide +kernel) ⟨Nat.le_of_ble_eq_true rfl, Nat.le_of_ble_eq_true rfl⟩) hP hD hS hA hK hK (by simpa only [List.append_assoc, List.append_nil] using (List.Perm.of_eq (List.append_nil _).symm)) (fun u => List.Perm.symm (by simpa only [List.append_assoc, List.append_nil] using (List.Perm.of_eq (List.append_nil _).symm))) (q0 := 0) rfl rfl rfl rfl rfl hl.1 (Nat.le_of_ble_eq_true rfl) dX6_rowNumber_3 ⟨Nat.le_refl _, Nat.le_refl _⟩ (fun u3 H locs h3 hP hD hS => ?_)
  have hP : va_P D vwCl (wR kA qr cc ac co ad rc nm st an svm cnt tx len th xf xt xs xa xw xc xk xp (pt + 1) (alF wr (decide (hereF tx len pt = some 32)) pt) xm mny) H := hP
  have hD : va_D A (wR kA qr cc ac co ad rc nm st an svm cnt tx len th xf xt xs xa xw xc xk xp (pt + 1) (alF wr (decide (hereF tx len pt = some 32)) pt) xm mny) := hD
  refine lv_aload_n hx hb dX6_rowNumber_6 rfl (lv_at hl 0 rfl) ?_
  refine lv_aload_n hx hb dX6_rowNumber_7 rfl (lv_at hl 0 rfl) ?_
  refine n_cV (b := qr 0) (As := []) (rest := [.ref (qr 0)]) (wc := (wR kA qr cc ac co ad rc nm st an svm cnt tx len th xf xt xs xa xw xc xk xp (pt + 1) (alF wr (decide (hereF tx len pt = some 32)) pt) xm mny)) hS0 (c_X6_isFigure lQ D kA qr cc ac co ad rc nm st an svm cnt tx len th xf xt xs xa xw xc xk xp (pt + 1) (alF wr (decide (hereF tx len pt = some 32)) pt) xm mny (by first | assumption | omega) (by first | assumption | omega) (by first | assumption | omega)) (cwV 0 hts gX6_rowNumber_X6_isFigure rfl rfl rfl (by decide +kernel) ⟨Nat.le_of_ble_eq_true rfl, Nat.le_of_ble_eq_true rfl⟩) hP hK (q0 := 0) rfl rfl rfl rfl rfl hl.1 (Nat.le_of_ble_eq_true rfl) dX6_rowNumber_8 ⟨Nat.le_refl _, Nat.le_refl _⟩ (fun r8 h8 => ?_)
  subst h8
  refine lv_aload_n hx hb dX6_rowNumber_11 rfl (lv_at hl 0 rfl) ?_
  refine n_get (ci := 6) (v := .int (nI (pt + 1))) (C := RX6) (T := TX6) (N := 18) hx hb hts hinX6 hown hK hP 0 rfl rfl 14 rfl ⟨rfl, rfl, rfl⟩ f193 rfl dX6_rowNumber_12 ?_
  refine n_wVv (b := qr 0) (As := [.int (bI ((digT tx len (pt + 1)).isSome)), .int (nI (pt + 1))]) (rest := []) (wr := []) (ws' := fun u => (wR kA qr cc ac co ad rc nm st an svm cnt tx len th xf xt xs xa xw xc xk xp (pt + 1) (alF (alF wr (decide (hereF tx len pt = some 32)) pt) ((digT tx len (pt + 1)).isSome) (pt + 1)) xm mny)) hS0 (c_X6_allows lQ D kA qr cc ac co ad rc nm st an svm cnt tx len th xf xt xs xa xw xc xk xp (pt + 1) (alF wr (decide (hereF tx len pt = some 32)) pt) xm mny ((digT tx len (pt + 1)).isSome) (pt + 1) H.size (alF_bd hwb (by omega))) (cwV 2 hts gX6_rowNumber_X6_allows rfl rfl rfl (by decide +kernel) ⟨Nat.le_of_ble_eq_true rfl, Nat.le_of_ble_eq_true rfl⟩) hP hD hS hA hK hK (by simpa only [List.append_assoc, List.append_nil] using (List.Perm.of_eq (List.append_nil _).symm)) (fun u => List.Perm.symm (by simpa only [List.append_assoc, List.append_nil] using (List.Perm.of_eq (List.append_nil _).symm))) (q0 := 0) rfl rfl rfl rfl rfl hl.1 (Nat.le_of_ble_eq_true rfl) dX6_rowNumber_15 ⟨Nat.le_refl _, Nat.le_refl _⟩ (fun u15 H locs h15 hP hD hS => ?_)
  have hP : va_P D vwCl (wR kA qr cc ac co ad rc nm st an svm cnt tx len th xf xt xs xa xw xc xk xp (pt + 1) (alF (alF wr (decide (hereF tx len pt = some 32)) pt) ((digT tx len (pt + 1)).isSome) (pt + 1)) xm mny) H := hP
  have hD : va_D A (wR kA qr cc ac co ad rc nm st an svm cnt tx len th xf xt xs xa xw xc xk xp (pt + 1) (alF (alF wr (decide (hereF tx len pt = some 32)) pt) ((digT tx len (pt + 1)).isSome) (pt + 1)) xm mny) := hD
  refine lv_aload_n hx hb dX6_rowNumber_18 rfl (lv_at hl 0 rfl) ?_
  refine n_cV (b := qr 0) (As := []) (rest := []) (wc := (wR kA qr cc ac co ad rc nm st an svm cnt tx len th xf xt xs xa xw xc xk xp (pt + 1) (alF (alF wr (decide (hereF tx len pt = some 32)) pt) ((digT tx len (pt + 1)).isSome) (pt + 1)) xm mny)) hS0 (c_X6_look lQ D kA qr cc ac co ad rc nm st an svm cnt tx len th xf xt xs xa xw xc xk xp (pt + 1) (alF (alF wr (decide (hereF tx len pt = some 32)) pt) ((digT tx len (pt + 1)).isSome) (pt + 1)) xm mny (by first | assumption | omega) (by first | assumption | omega)) (cwV 0 hts gX6_rowNumber_X6_look rfl rfl rfl (by decide +kernel) ⟨Nat.le_of_ble_eq_true rfl, Nat.le_of_ble_eq_true rfl⟩) hP hK (q0 := 0) rfl rfl rfl rfl rfl hl.1 (Nat.le_of_ble_eq_true rfl) dX6_rowNumber_19 ⟨Nat.le_refl _, Nat.le_refl _⟩ (fun r19 h19 => ?_)
  subst h19
  refine lv_bipush (v := (nI 48)) hx hb dX6_rowNumber_22 (by decide) ?_
  refine n_isub (v := ((oI (hereF tx len (pt + 1))) - (nI 48))) hx hb rfl dX6_rowNumber_24 ?_
  refine lv_istore_n (lv' := [(1, .int ((oI (hereF tx len (pt + 1))) - (nI 48))), (0, .ref (qr 0))]) hx hb dX6_rowNumber_25 rfl hl (by decide) rfl (fun ls hl => ?_)
  refine lv_aload_n hx hb dX6_rowNumber_26 rfl (lv_at hl 1 rfl) ?_
  refine lv_dup hx hb dX6_rowNumber_27 rfl ?_
  refine n_get (ci := 6) (v := .int (nI (pt + 1))) (C := RX6) (T := TX6) (N := 18) hx hb hts hinX6 hown hK hP 0 rfl rfl 14 rfl ⟨rfl, rfl, rfl⟩ f193 rfl dX6_rowNumber_28 ?_
  refine lv_iconst (v := (nI 1)) hx hb dX6_rowNumber_31 (by decide) ?_
  refine n_iadd (v := (nI (pt + 2))) hx hb (nI_add _ _) dX6_rowNumber_32 ?_
  refine n_put (ci := 6) (v := .int (nI (pt + 2))) (C := RX6) (T := TX6) (N := 18) (ws' := (wR kA qr cc ac co ad rc nm st an svm cnt tx len th xf xt xs xa xw xc xk xp (pt + 2) (alF (alF wr (decide (hereF tx len pt = some 32)) pt) ((digT tx len (pt + 1)).isSome) (pt + 1)) xm mny)) hx hb hts hinX6 tyX6 tyX6_ok nmX6 hown hK hP hD hS 0 rfl rfl 14 rfl ⟨rfl, rfl, rfl, rfl⟩ f193 rfl rfl rfl rfl dX6_rowNumber_33 (fun H locs hP hD hS => ?_)
  refine lv_aload_n hx hb dX6_rowNumber_36 rfl (lv_at hl 1 rfl) ?_
  refine n_cV (b := qr 0) (As := []) (rest := []) (wc := (wR kA qr cc ac co ad rc nm st an svm cnt tx len th xf xt xs xa xw xc xk xp (pt + 2) (alF (alF wr (decide (hereF tx len pt = some 32)) pt) ((digT tx len (pt + 1)).isSome) (pt + 1)) xm mny)) hS0 (c_X6_isFigure lQ D kA qr cc ac co ad rc nm st an svm cnt tx len th xf xt xs xa xw xc xk xp (pt + 2) (alF (alF wr (decide (hereF tx len pt = some 32)) pt) ((digT tx len (pt + 1)).isSome) (pt + 1)) xm mny (by first | assumption | omega) (by first | assumption | omega) (by first | assumption | omega)) (cwV 0 hts gX6_rowNumber_X6_isFigure rfl rfl rfl (by decide +kernel) ⟨Nat.le_of_ble_eq_true rfl, Nat.le_of_ble_eq_true rfl⟩) hP hK (q0 := 0) rfl rfl rfl rfl rfl hl.1 (Nat.le_of_ble_eq_true rfl) dX6_rowNumber_37 ⟨Nat.le_refl _, Nat.le_refl _⟩ (fun r37 h37 => ?_)
  subst h37
  refine n_ifb_eq (b := (digT tx len (pt + 2)).isSome) (tgt := 66) hx hb dX6_rowNumber_40 (by decide) (fun c40 => ?_) (fun c40 => ?_)
  · refine lv_iload_n hx hb dX6_rowNumber_66 rfl (lv_at hl 0 rfl) ?_
    have hw9 : (wR kA qr cc ac co ad rc nm st an svm cnt tx len th xf xt xs xa xw xc xk xp (pt + 2) (alF (alF wr (decide (hereF tx len pt = some 32)) pt) ((digT tx len (pt + 1)).isSome) (pt + 1)) xm mny) = (wR kA qr cc ac co ad rc nm st an svm cnt tx len th xf xt xs xa xw xc xk xp (cond (digT tx len (pt + 2)).isSome (pt + 3) (pt + 2)) (alF (alF wr (decide (hereF tx len pt = some 32)) pt) (digT tx len (pt + 1)).isSome (pt + 1)) xm mny) := (by rw [c40]; rfl)
    rw [hw9] at hP hD
    exact n_wreti hx hb hr hlocks (post := fun (r : Int32) (u : Unit) => r = (cond (digT tx len (pt + 2)).isSome (nI 10 * (oI (hereF tx len (pt + 1)) - nI 48) + oI (hereF tx len (pt + 2)) - nI 48) (oI (hereF tx len (pt + 1)) - nI 48))) (w1 := fun u => (wR kA qr cc ac co ad rc nm st an svm cnt tx len th xf xt xs xa xw xc xk xp (cond (digT tx len (pt + 2)).isSome (pt + 3) (pt + 2)) (alF (alF wr (decide (hereF tx len pt = some 32)) pt) (digT tx len (pt + 1)).isSome (pt + 1)) xm mny)) () (by rw [c40]; rfl) hP hD hK hS hAe dX6_rowNumber_67
  · refine lv_bipush (v := (nI 10)) hx hb dX6_rowNumber_43 (by decide) ?_
    refine lv_iload_n hx hb dX6_rowNumber_45 rfl (lv_at hl 0 rfl) ?_
    refine n_imul (v := ((nI 10) * ((oI (hereF tx len (pt + 1))) - (nI 48)))) hx hb rfl dX6_rowNumber_46 ?_
    refine lv_aload_n hx hb dX6_rowNumber_47 rfl (lv_at hl 1 rfl) ?_
    refine n_cV (b := qr 0) (As := []) (rest := [.int ((nI 10) * ((oI (hereF tx len (pt + 1))) - (nI 48)))]) (wc := (wR kA qr cc ac co ad rc nm st an svm cnt tx len th xf xt xs xa xw xc xk xp (pt + 2) (alF (alF wr (decide (hereF tx len pt = some 32)) pt) ((digT tx len (pt + 1)).isSome) (pt + 1)) xm mny)) hS0 (c_X6_look lQ D kA qr cc ac co ad rc nm st an svm cnt tx len th xf xt xs xa xw xc xk xp (pt + 2) (alF (alF wr (decide (hereF tx len pt = some 32)) pt) ((digT tx len (pt + 1)).isSome) (pt + 1)) xm mny (by first | assumption | omega) (by first | assumption | omega)) (cwV 0 hts gX6_rowNumber_X6_look rfl rfl rfl (by decide +kernel) ⟨Nat.le_of_ble_eq_true rfl, Nat.le_of_ble_eq_true rfl⟩) hP hK (q0 := 0) rfl rfl rfl rfl rfl hl.1 (Nat.le_of_ble_eq_true rfl) dX6_rowNumber_48 ⟨Nat.le_refl _, Nat.le_refl _⟩ (fun r48 h48 => ?_)
    subst h48
    refine n_iadd (v := (((nI 10) * ((oI (hereF tx len (pt + 1))) - (nI 48))) + (oI (hereF tx len (pt + 2))))) hx hb rfl dX6_rowNumber_51 ?_
    refine lv_bipush (v := (nI 48)) hx hb dX6_rowNumber_52 (by decide) ?_
    refine n_isub (v := ((((nI 10) * ((oI (hereF tx len (pt + 1))) - (nI 48))) + (oI (hereF tx len (pt + 2)))) - (nI 48))) hx hb rfl dX6_rowNumber_54 ?_
    refine lv_istore_n (lv' := [(1, .int ((((nI 10) * ((oI (hereF tx len (pt + 1))) - (nI 48))) + (oI (hereF tx len (pt + 2)))) - (nI 48))), (0, .ref (qr 0))]) hx hb dX6_rowNumber_55 rfl hl (by decide) rfl (fun ls hl => ?_)
    refine lv_aload_n hx hb dX6_rowNumber_56 rfl (lv_at hl 1 rfl) ?_
    refine lv_dup hx hb dX6_rowNumber_57 rfl ?_
    refine n_get (ci := 6) (v := .int (nI (pt + 2))) (C := RX6) (T := TX6) (N := 18) hx hb hts hinX6 hown hK hP 0 rfl rfl 14 rfl ⟨rfl, rfl, rfl⟩ f193 rfl dX6_rowNumber_58 ?_
    refine lv_iconst (v := (nI 1)) hx hb dX6_rowNumber_61 (by decide) ?_
    refine n_iadd (v := (nI (pt + 3))) hx hb (nI_add _ _) dX6_rowNumber_62 ?_
    refine n_put (ci := 6) (v := .int (nI (pt + 3))) (C := RX6) (T := TX6) (N := 18) (ws' := (wR kA qr cc ac co ad rc nm st an svm cnt tx len th xf xt xs xa xw xc xk xp (pt + 3) (alF (alF wr (decide (hereF tx len pt = some 32)) pt) ((digT tx len (pt + 1)).isSome) (pt + 1)) xm mny)) hx hb hts hinX6 tyX6 tyX6_ok nmX6 hown hK hP hD hS 0 rfl rfl 14 rfl ⟨rfl, rfl, rfl, rfl⟩ f193 rfl rfl rfl rfl dX6_rowNumber_63 (fun H locs hP hD hS => ?_)
    refine lv_iload_n hx hb dX6_rowNumber_66 rfl (lv_at hl 0 rfl) ?_
    have hw9 : (wR kA qr cc ac co ad rc nm st an svm cnt tx len th xf xt xs xa xw xc xk xp (pt + 3) (alF (alF wr (decide (hereF tx len pt = some 32)) pt) ((digT tx len (pt + 1)).isSome) (pt + 1)) xm mny) = (wR kA qr cc ac co ad rc nm st an svm cnt tx len th xf xt xs xa xw xc xk xp (cond (digT tx len (pt + 2)).isSome (pt + 3) (pt + 2)) (alF (alF wr (decide (hereF tx len pt = some 32)) pt) (digT tx len (pt + 1)).isSome (pt + 1)) xm mny) := (by rw [c40]; rfl)
    rw [hw9] at hP hD
    exact n_wreti hx hb hr hlocks (post := fun (r : Int32) (u : Unit) => r = (cond (digT tx len (pt + 2)).isSome (nI 10 * (oI (hereF tx len (pt + 1)) - nI 48) + oI (hereF tx len (pt + 2)) - nI 48) (oI (hereF tx len (pt + 1)) - nI 48))) (w1 := fun u => (wR kA qr cc ac co ad rc nm st an svm cnt tx len th xf xt xs xa xw xc xk xp (cond (digT tx len (pt + 2)).isSome (pt + 3) (pt + 2)) (alF (alF wr (decide (hereF tx len pt = some 32)) pt) (digT tx len (pt + 1)).isSome (pt + 1)) xm mny)) () (by rw [c40]; rfl) hP hD hK hS hAe dX6_rowNumber_67

set_option maxHeartbeats 4000000 in
set_option maxRecDepth 100000 in
theorem c_X6_word (lQ : Launch) (D : va_G) (kA : Nat → ClassId) (qr : Nat → Nat) (cc : Nat) (ac : Nat → Nat) (co : Nat → Nat) (ad : Nat) (rc : Nat) (nm : Nat → Nat) (st : Nat → Nat) (an : Nat → Nat) (svm : Nat → TCt) (cnt : Nat) (tx : Nat → Nat) (len : Nat) (th : Nat) (xf : Nat → Option Nat) (xt : Nat → Nat) (xs : Nat → Option Nat) (xa : Nat → Nat) (xw : Nat → Nat) (xc : Nat → Nat) (xk : Nat → Option Nat) (xp : Nat → Nat) (pt : Nat) (wr : Option Nat) (xm : Nat → Nat) (mny : Nat) (sz : Nat) (hlen : len ≤ 150) (htx : ∀ j, j < len → tx j < 128) (hpl : pt ≤ len) : Met lQ yX6_word wsX6_word (rmN 1 22) (wr_Pc D vwCl [.ref (qr 0)] (wR kA qr cc ac co ad rc nm st an svm cnt tx len th xf xt xs xa xw xc xk xp pt wr xm mny) (tyK kA) sz) (va_Qi (S := Unit) (fun (r : Int32) (u : Unit) => r = (nI (wdF tx pt (wenF tx len 150 pt)))) (wr_B D vwCl (wR kA qr cc ac co ad rc nm st an svm cnt tx len th xf xt xs xa xw xc xk xp pt wr xm mny) (tyK kA) sz (fun u => (wR kA qr cc ac co ad rc nm st an svm cnt tx len th xf xt xs xa xw xc xk xp (wenF tx len 150 pt) wr xm mny))) (va_A (wR kA qr cc ac co ad rc nm st an svm cnt tx len th xf xt xs xa xw xc xk xp pt wr xm mny) sz)) 0 0 (va_A (wR kA qr cc ac co ad rc nm st an svm cnt tx len th xf xt xs xa xw xc xk xp pt wr xm mny) sz) := by
  refine Met.ofW (cc := cX6_word) (maxL := 3) (ret := (some .int)) (by decide) rfl ?_
  intro pQ eQ s mQ args below meth cQ s₁ B hml hv
  obtain ⟨rfl, hsz, hP, hK, hD0⟩ := hv
  have hx := B.exec
  have hb := B.bytes
  have hr := B.returns
  have hts := atoms_spec (ws := wsX6_word) B.pre
  have hown : s.vm.findClass RX6 = some mQ.cls := findClass_of_methodNamed B.named
  have hlocks : meth.locks = false := B.notSynchronized
  have hS0 : CallFix pQ mQ cQ cX6_word 3 s ([.ref (qr 0)] : List Value).toArray wsX6_word RX6 := ⟨hx, hb, hml, hown, hts⟩
  subst hsz
  have hD := hD0.self (sz := s.heap.size)
  generalize hAe : va_A (wR kA qr cc ac co ad rc nm st an svm cnt tx len th xf xt xs xa xw xc xk xp pt wr xm mny) s.heap.size = A at hD ⊢
  have hA : ∀ q : Nat, s.heap.size ≤ q → A q := fun q h => by rw [← hAe]; exact Or.inr h
  have hS : va_S A s.heap s.heap [] := va_S.rf
  have f193 : (Cond.fieldLink RX6 193 "AskedRulesModel" "at" "I").before ([.ref (qr 0)] : List Value).toArray s = true := hts _ (by decide +kernel)
  have hinX6 : ∀ w ∈ wsX60, w ∈ wsX6_word := by decide +kernel
  have hl := lv_entry ([.ref (qr 0)]) (n := 3) (Nat.le_of_ble_eq_true rfl)
  rw [lg_entry_eq]
  generalize (lg_sl ([.ref (qr 0)]) ++ List.replicate (3 - (lg_sl ([.ref (qr 0)])).length) Slot.unset).toArray = ls at hl ⊢
  have hl : lv_has ls 3 [(0, .ref (qr 0))] := hl
  have hP : va_P D vwCl (wR kA qr cc ac co ad rc nm st an svm cnt tx len th xf xt xs xa xw xc xk xp pt wr xm mny) s.heap := hP
  have hD : va_D A (wR kA qr cc ac co ad rc nm st an svm cnt tx len th xf xt xs xa xw xc xk xp pt wr xm mny) := hD
  refine lv_aload_n hx hb dX6_word_0 rfl (lv_at hl 0 rfl) ?_
  refine n_get (ci := 6) (v := .int (nI pt)) (C := RX6) (T := TX6) (N := 18) hx hb hts hinX6 hown hK hP 0 rfl rfl 14 rfl ⟨rfl, rfl, rfl⟩ f193 rfl dX6_word_1 ?_
  refine lv_istore_n (lv' := [(1, .int (nI pt)), (0, .ref (qr 0))]) hx hb dX6_word_4 rfl hl (by decide) rfl (fun ls hl => ?_)
  refine lv_iconst (v := (nI 0)) hx hb dX6_word_5 (by decide) ?_
  refine lv_istore_n (lv' := [(2, .int (nI 0)), (1, .int (nI pt)), (0, .ref (qr 0))]) hx hb dX6_word_6 rfl hl (by decide) rfl (fun ls hl => ?_)
  have L7 : ∀ (nQ : Nat) (u : Nat) (a9 : Nat), len - a9 < nQ → (pt ≤ a9) → (a9 ≤ len) → (u = wlF tx pt (a9 - pt)) → (wenF tx len 150 pt = wenF tx len (150 - (a9 - pt)) a9) → ∀ (H : Heap) (locs : List Loc), va_P D vwCl (wR kA qr cc ac co ad rc nm st an svm cnt tx len th xf xt xs xa xw xc xk xp a9 wr xm mny) H → va_D A (wR kA qr cc ac co ad rc nm st an svm cnt tx len th xf xt xs xa xw xc xk xp a9 wr xm mny) → va_S A s.heap H locs → ∀ (ls : Array Slot), lv_has ls 3 [(2, .int (nI u)), (1, .int (nI pt)), (0, .ref (qr 0))] → W pQ lQ eQ (headSpec wsX6_word (rmN 1 22)).room s mQ ([.ref (qr 0)] : List Value).toArray below meth cQ H locs 0 0 (MQ below (va_Qi (S := Unit) (fun (r : Int32) (u : Unit) => r = (nI (wdF tx pt (wenF tx len 150 pt)))) (wr_B D vwCl (wR kA qr cc ac co ad rc nm st an svm cnt tx len th xf xt xs xa xw xc xk xp pt wr xm mny) (tyK kA) s.heap.size (fun u => (wR kA qr cc ac co ad rc nm st an svm cnt tx len th xf xt xs xa xw xc xk xp (wenF tx len 150 pt) wr xm mny))) A) ([.ref (qr 0)] : List Value).toArray s 0 0 A) (F0 mQ 7 ls []) := by
    intro nQ
    induction nQ with
    | zero => intro u a9 hn; exact absurd hn (Nat.not_lt_zero _)
    | succ nQ ih7 =>
      intro u a9 hm7 ha1 ha2 hu hs H locs hP hD hS ls hl
      refine lv_aload_n hx hb dX6_word_7 rfl (lv_at hl 2 rfl) ?_
      refine n_cV (b := qr 0) (As := []) (rest := []) (wc := (wR kA qr cc ac co ad rc nm st an svm cnt tx len th xf xt xs xa xw xc xk xp a9 wr xm mny)) hS0 (c_X6_look lQ D kA qr cc ac co ad rc nm st an svm cnt tx len th xf xt xs xa xw xc xk xp a9 wr xm mny (by first | assumption | omega) (by first | assumption | omega)) (cwV 0 hts gX6_word_X6_look rfl rfl rfl (by decide +kernel) ⟨Nat.le_of_ble_eq_true rfl, Nat.le_of_ble_eq_true rfl⟩) hP hK (q0 := 0) rfl rfl rfl rfl rfl hl.1 (Nat.le_of_ble_eq_true rfl) dX6_word_8 ⟨Nat.le_refl _, Nat.le_refl _⟩ (fun r8 h8 => ?_)
      subst h8
      refine lv_bipush (v := (nI 97)) hx hb dX6_word_11 (by decide) ?_
      refine lv_bipush (v := (nI 122)) hx hb dX6_word_13 (by decide) ?_
      refine n_cS (As := [.int (oI (hereF tx len a9)), .int (nI 97), .int (nI 122)]) (rest := []) (wc := []) hS0 (c_X6_in lQ D kA (oI (hereF tx len a9)) (nI 97) (nI 122) ) (va_cwS 3 hts gX6_word_X6_in rfl rfl rfl (by decide +kernel) ⟨Nat.le_of_ble_eq_true rfl, Nat.le_of_ble_eq_true rfl⟩) (hP.mem (ws' := []) (fun qQ h => absurd h List.not_mem_nil)) hK rfl rfl hl.1 (Nat.le_of_ble_eq_true rfl) dX6_word_15 ⟨Nat.le_refl _, Nat.le_refl _⟩ (fun r15 h15 => ?_)
      subst h15
      refine n_ifb_eq (b := inI (oI (hereF tx len a9)) (nI 97) (nI 122)) (tgt := 61) hx hb dX6_word_18 (by decide) (fun c18 => ?_) (fun c18 => ?_)
      · have he9 : wenF tx len 150 pt = a9 := by rw [hs]; exact let_f htx c18 _
        refine lv_aload_n hx hb dX6_word_61 rfl (lv_at hl 2 rfl) ?_
        refine n_get (ci := 6) (v := .int (nI a9)) (C := RX6) (T := TX6) (N := 18) hx hb hts hinX6 hown hK hP 0 rfl rfl 14 rfl ⟨rfl, rfl, rfl⟩ f193 rfl dX6_word_62 ?_
        refine lv_iload_n hx hb dX6_word_65 rfl (lv_at hl 1 rfl) ?_
        refine n_isub (v := (nI (a9 - pt))) hx hb (pk_sub (by omega)) dX6_word_66 ?_
        refine lv_bipush (v := (nI 6)) hx hb dX6_word_67 (by decide) ?_
        refine n_icmp_ge (a := a9 - pt) (b := 6) (tgt := 76) hx hb (by omega) (by omega) dX6_word_69 (by decide) (fun c69 => ?_) (fun c69 => ?_)
        · refine lv_iconst (v := (nI 0)) hx hb dX6_word_76 (by decide) ?_
          rw [← he9] at hP hD
          have hP : va_P D vwCl (wR kA qr cc ac co ad rc nm st an svm cnt tx len th xf xt xs xa xw xc xk xp (wenF tx len 150 pt) wr xm mny) H := hP
          have hD : va_D A (wR kA qr cc ac co ad rc nm st an svm cnt tx len th xf xt xs xa xw xc xk xp (wenF tx len 150 pt) wr xm mny) := hD
          exact n_wreti hx hb hr hlocks (post := fun (r : Int32) (u : Unit) => r = (nI (wdF tx pt (wenF tx len 150 pt)))) (w1 := fun u => (wR kA qr cc ac co ad rc nm st an svm cnt tx len th xf xt xs xa xw xc xk xp (wenF tx len 150 pt) wr xm mny)) () (by rw [he9]; unfold wdF; first | (rw [if_pos (by omega), hu]) | (rw [if_neg (by omega)])) hP hD hK hS hAe dX6_word_77
        · refine lv_iload_n hx hb dX6_word_72 rfl (lv_at hl 0 rfl) ?_
          refine lv_goto (tgt := 77) hx hb dX6_word_73 (by decide) ?_
          rw [← he9] at hP hD
          have hP : va_P D vwCl (wR kA qr cc ac co ad rc nm st an svm cnt tx len th xf xt xs xa xw xc xk xp (wenF tx len 150 pt) wr xm mny) H := hP
          have hD : va_D A (wR kA qr cc ac co ad rc nm st an svm cnt tx len th xf xt xs xa xw xc xk xp (wenF tx len 150 pt) wr xm mny) := hD
          exact n_wreti hx hb hr hlocks (post := fun (r : Int32) (u : Unit) => r = (nI (wdF tx pt (wenF tx len 150 pt)))) (w1 := fun u => (wR kA qr cc ac co ad rc nm st an svm cnt tx len th xf xt xs xa xw xc xk xp (wenF tx len 150 pt) wr xm mny)) () (by rw [he9]; unfold wdF; first | (rw [if_pos (by omega), hu]) | (rw [if_neg (by omega)])) hP hD hK hS hAe dX6_word_77
      · obtain ⟨b9, hb9, hb1, hb2⟩ := let_t htx c18
        have hal9 := (hereF_lt hb9).1
        have hbt9 := (hereF_lt hb9).2
        refine lv_aload_n hx hb dX6_word_21 rfl (lv_at hl 2 rfl) ?_
        refine n_get (ci := 6) (v := .int (nI a9)) (C := RX6) (T := TX6) (N := 18) hx hb hts hinX6 hown hK hP 0 rfl rfl 14 rfl ⟨rfl, rfl, rfl⟩ f193 rfl dX6_word_22 ?_
        refine lv_iload_n hx hb dX6_word_25 rfl (lv_at hl 1 rfl) ?_
        refine n_isub (v := (nI (a9 - pt))) hx hb (pk_sub (by omega)) dX6_word_26 ?_
        refine lv_iconst (v := (nI 5)) hx hb dX6_word_27 (by decide) ?_
        refine n_icmp_ge (a := a9 - pt) (b := 5) (tgt := 46) hx hb (by omega) (by omega) dX6_word_28 (by decide) (fun c28 => ?_) (fun c28 => ?_)
        · refine lv_iconst (v := (nI 0)) hx hb dX6_word_46 (by decide) ?_
          refine lv_istore_n (lv' := [(2, .int (nI 0)), (1, .int (nI pt)), (0, .ref (qr 0))]) hx hb dX6_word_47 rfl hl (by decide) rfl (fun ls hl => ?_)
          refine lv_aload_n hx hb dX6_word_48 rfl (lv_at hl 2 rfl) ?_
          refine lv_dup hx hb dX6_word_49 rfl ?_
          refine n_get (ci := 6) (v := .int (nI a9)) (C := RX6) (T := TX6) (N := 18) hx hb hts hinX6 hown hK hP 0 rfl rfl 14 rfl ⟨rfl, rfl, rfl⟩ f193 rfl dX6_word_50 ?_
          refine lv_iconst (v := (nI 1)) hx hb dX6_word_53 (by decide) ?_
          refine n_iadd (v := (nI (a9 + 1))) hx hb (nI_add _ _) dX6_word_54 ?_
          refine n_put (ci := 6) (v := .int (nI (a9 + 1))) (C := RX6) (T := TX6) (N := 18) (ws' := (wR kA qr cc ac co ad rc nm st an svm cnt tx len th xf xt xs xa xw xc xk xp (a9 + 1) wr xm mny)) hx hb hts hinX6 tyX6 tyX6_ok nmX6 hown hK hP hD hS 0 rfl rfl 14 rfl ⟨rfl, rfl, rfl, rfl⟩ f193 rfl rfl rfl rfl dX6_word_55 (fun H locs hP hD hS => ?_)
          refine lv_goto (tgt := 7) hx hb dX6_word_58 (by decide) ?_
          exact ih7 0 (a9 + 1) (by omega) (by first | assumption | omega) (by first | assumption | omega) (by rw [show a9 + 1 - pt = (a9 - pt) + 1 by omega, wlF_s, ← hu, show pt + (a9 - pt) = a9 by omega, ← hbt9]; first | (rw [if_pos c28]) | (rw [if_neg (by omega)])) (by rw [hs, show 150 - (a9 - pt) = (150 - (a9 + 1 - pt)) + 1 by omega, wenF_t hb9 ⟨hb1, hb2⟩]) _ _ hP hD hS _ (lv_sub hl [0, 1, 2] rfl)
        · refine lv_bipush (v := (nI 32)) hx hb dX6_word_31 (by decide) ?_
          refine lv_iload_n hx hb dX6_word_33 rfl (lv_at hl 0 rfl) ?_
          refine n_imul (v := (nI (32 * u))) hx hb (pk_mul _ _) dX6_word_34 ?_
          refine lv_aload_n hx hb dX6_word_35 rfl (lv_at hl 2 rfl) ?_
          refine n_cV (b := qr 0) (As := []) (rest := [.int (nI (32 * u))]) (wc := (wR kA qr cc ac co ad rc nm st an svm cnt tx len th xf xt xs xa xw xc xk xp a9 wr xm mny)) hS0 (c_X6_look lQ D kA qr cc ac co ad rc nm st an svm cnt tx len th xf xt xs xa xw xc xk xp a9 wr xm mny (by first | assumption | omega) (by first | assumption | omega)) (cwV 0 hts gX6_word_X6_look rfl rfl rfl (by decide +kernel) ⟨Nat.le_of_ble_eq_true rfl, Nat.le_of_ble_eq_true rfl⟩) hP hK (q0 := 0) rfl rfl rfl rfl rfl hl.1 (Nat.le_of_ble_eq_true rfl) dX6_word_36 ⟨Nat.le_refl _, Nat.le_refl _⟩ (fun r36 h36 => ?_)
          subst h36
          rw [hb9]
          show W pQ lQ eQ (headSpec wsX6_word (rmN 1 22)).room s mQ ([.ref (qr 0)] : List Value).toArray below meth cQ H locs 0 0 (MQ below (va_Qi (S := Unit) (fun (r : Int32) (u : Unit) => r = (nI (wdF tx pt (wenF tx len 150 pt)))) (wr_B D vwCl (wR kA qr cc ac co ad rc nm st an svm cnt tx len th xf xt xs xa xw xc xk xp pt wr xm mny) (tyK kA) s.heap.size (fun u => (wR kA qr cc ac co ad rc nm st an svm cnt tx len th xf xt xs xa xw xc xk xp (wenF tx len 150 pt) wr xm mny))) A) ([.ref (qr 0)] : List Value).toArray s 0 0 A) (F0 mQ 39 ls [.int (nI b9), .int (nI (32 * u))])
          refine n_iadd (v := (nI ((32 * u) + b9))) hx hb (nI_add _ _) dX6_word_39 ?_
          refine lv_bipush (v := (nI 96)) hx hb dX6_word_40 (by decide) ?_
          refine n_isub (v := (nI (((32 * u) + b9) - 96))) hx hb (pk_sub (by omega)) dX6_word_42 ?_
          refine lv_goto (tgt := 47) hx hb dX6_word_43 (by decide) ?_
          refine lv_istore_n (lv' := [(2, .int (nI (((32 * u) + b9) - 96))), (1, .int (nI pt)), (0, .ref (qr 0))]) hx hb dX6_word_47 rfl hl (by decide) rfl (fun ls hl => ?_)
          refine lv_aload_n hx hb dX6_word_48 rfl (lv_at hl 2 rfl) ?_
          refine lv_dup hx hb dX6_word_49 rfl ?_
          refine n_get (ci := 6) (v := .int (nI a9)) (C := RX6) (T := TX6) (N := 18) hx hb hts hinX6 hown hK hP 0 rfl rfl 14 rfl ⟨rfl, rfl, rfl⟩ f193 rfl dX6_word_50 ?_
          refine lv_iconst (v := (nI 1)) hx hb dX6_word_53 (by decide) ?_
          refine n_iadd (v := (nI (a9 + 1))) hx hb (nI_add _ _) dX6_word_54 ?_
          refine n_put (ci := 6) (v := .int (nI (a9 + 1))) (C := RX6) (T := TX6) (N := 18) (ws' := (wR kA qr cc ac co ad rc nm st an svm cnt tx len th xf xt xs xa xw xc xk xp (a9 + 1) wr xm mny)) hx hb hts hinX6 tyX6 tyX6_ok nmX6 hown hK hP hD hS 0 rfl rfl 14 rfl ⟨rfl, rfl, rfl, rfl⟩ f193 rfl rfl rfl rfl dX6_word_55 (fun H locs hP hD hS => ?_)
          refine lv_goto (tgt := 7) hx hb dX6_word_58 (by decide) ?_
          exact ih7 (((32 * u) + b9) - 96) (a9 + 1) (by omega) (by first | assumption | omega) (by first | assumption | omega) (by rw [show a9 + 1 - pt = (a9 - pt) + 1 by omega, wlF_s, ← hu, show pt + (a9 - pt) = a9 by omega, ← hbt9]; first | (rw [if_pos c28]) | (rw [if_neg (by omega)])) (by rw [hs, show 150 - (a9 - pt) = (150 - (a9 + 1 - pt)) + 1 by omega, wenF_t hb9 ⟨hb1, hb2⟩]) _ _ hP hD hS _ (lv_sub hl [0, 1, 2] rfl)
  exact L7 ((len - pt) + 1) 0 pt (Nat.lt_succ_self _) (by first | assumption | omega) (by first | assumption | omega) (by rw [Nat.sub_self]; rfl) (by rw [Nat.sub_self]) _ _ hP hD hS _ (lv_sub hl [0, 1, 2] rfl)

set_option maxHeartbeats 4000000 in
set_option maxRecDepth 100000 in
theorem c_X6_skips (lQ : Launch) (D : va_G) (kA : Nat → ClassId) (qr : Nat → Nat) (cc : Nat) (ac : Nat → Nat) (co : Nat → Nat) (ad : Nat) (rc : Nat) (nm : Nat → Nat) (st : Nat → Nat) (an : Nat → Nat) (svm : Nat → TCt) (cnt : Nat) (tx : Nat → Nat) (len : Nat) (th : Nat) (xf : Nat → Option Nat) (xt : Nat → Nat) (xs : Nat → Option Nat) (xa : Nat → Nat) (xw : Nat → Nat) (xc : Nat → Nat) (xk : Nat → Option Nat) (xp : Nat → Nat) (pt : Nat) (wr : Option Nat) (xm : Nat → Nat) (mny : Nat) (sz : Nat) (hlen : len ≤ 150) (htx : ∀ j, j < len → tx j < 128) (hpt : pt < 100000) : Met lQ yX6_skips wsX6_skips (rmN 1 20) (wr_Pc D vwCl [.ref (qr 0)] (wR kA qr cc ac co ad rc nm st an svm cnt tx len th xf xt xs xa xw xc xk xp pt wr xm mny) (tyK kA) sz) (va_Qv (S := Unit) (fun (u : Unit) => True) (wr_B D vwCl (wR kA qr cc ac co ad rc nm st an svm cnt tx len th xf xt xs xa xw xc xk xp pt wr xm mny) (tyK kA) sz (fun u => (wR kA qr cc ac co ad rc nm st an svm cnt tx len th xf xt xs xa xw xc xk xp (skpF tx len 150 pt) wr xm mny))) (va_A (wR kA qr cc ac co ad rc nm st an svm cnt tx len th xf xt xs xa xw xc xk xp pt wr xm mny) sz)) 0 0 (va_A (wR kA qr cc ac co ad rc nm st an svm cnt tx len th xf xt xs xa xw xc xk xp pt wr xm mny) sz) := by
  refine Met.ofW (cc := cX6_skips) (maxL := 1) (ret := none) (by decide) rfl ?_
  intro pQ eQ s mQ args below meth cQ s₁ B hml hv
  obtain ⟨rfl, hsz, hP, hK, hD0⟩ := hv
  have hx := B.exec
  have hb := B.bytes
  have hr := B.returns
  have hts := atoms_spec (ws := wsX6_skips) B.pre
  have hown : s.vm.findClass RX6 = some mQ.cls := findClass_of_methodNamed B.named
  have hlocks : meth.locks = false := B.notSynchronized
  have hS0 : CallFix pQ mQ cQ cX6_skips 1 s ([.ref (qr 0)] : List Value).toArray wsX6_skips RX6 := ⟨hx, hb, hml, hown, hts⟩
  subst hsz
  have hD := hD0.self (sz := s.heap.size)
  generalize hAe : va_A (wR kA qr cc ac co ad rc nm st an svm cnt tx len th xf xt xs xa xw xc xk xp pt wr xm mny) s.heap.size = A at hD ⊢
  have hA : ∀ q : Nat, s.heap.size ≤ q → A q := fun q h => by rw [← hAe]; exact Or.inr h
  have hS : va_S A s.heap s.heap [] := va_S.rf
  have f193 : (Cond.fieldLink RX6 193 "AskedRulesModel" "at" "I").before ([.ref (qr 0)] : List Value).toArray s = true := hts _ (by decide +kernel)
  have hinX6 : ∀ w ∈ wsX60, w ∈ wsX6_skips := by decide +kernel
  have hl := lv_entry ([.ref (qr 0)]) (n := 1) (Nat.le_of_ble_eq_true rfl)
  rw [lg_entry_eq]
  generalize (lg_sl ([.ref (qr 0)]) ++ List.replicate (1 - (lg_sl ([.ref (qr 0)])).length) Slot.unset).toArray = ls at hl ⊢
  have hl : lv_has ls 1 [(0, .ref (qr 0))] := hl
  have hP : va_P D vwCl (wR kA qr cc ac co ad rc nm st an svm cnt tx len th xf xt xs xa xw xc xk xp pt wr xm mny) s.heap := hP
  have hD : va_D A (wR kA qr cc ac co ad rc nm st an svm cnt tx len th xf xt xs xa xw xc xk xp pt wr xm mny) := hD
  have L0 : ∀ (nQ : Nat) (a9 : Nat), len - a9 < nQ → (pt ≤ a9) → (a9 ≤ pt + 150) → (a9 = pt ∨ a9 ≤ len) → (skpF tx len 150 pt = skpF tx len (150 - (a9 - pt)) a9) → ∀ (H : Heap) (locs : List Loc), va_P D vwCl (wR kA qr cc ac co ad rc nm st an svm cnt tx len th xf xt xs xa xw xc xk xp a9 wr xm mny) H → va_D A (wR kA qr cc ac co ad rc nm st an svm cnt tx len th xf xt xs xa xw xc xk xp a9 wr xm mny) → va_S A s.heap H locs → ∀ (ls : Array Slot), lv_has ls 1 [(0, .ref (qr 0))] → W pQ lQ eQ (headSpec wsX6_skips (rmN 1 20)).room s mQ ([.ref (qr 0)] : List Value).toArray below meth cQ H locs 0 0 (MQ below (va_Qv (S := Unit) (fun (u : Unit) => True) (wr_B D vwCl (wR kA qr cc ac co ad rc nm st an svm cnt tx len th xf xt xs xa xw xc xk xp pt wr xm mny) (tyK kA) s.heap.size (fun u => (wR kA qr cc ac co ad rc nm st an svm cnt tx len th xf xt xs xa xw xc xk xp (skpF tx len 150 pt) wr xm mny))) A) ([.ref (qr 0)] : List Value).toArray s 0 0 A) (F0 mQ 0 ls []) := by
    intro nQ
    induction nQ with
    | zero => intro a9 hn; exact absurd hn (Nat.not_lt_zero _)
    | succ nQ ih0 =>
      intro a9 hm0 ha1 ha2 ha3 hs H locs hP hD hS ls hl
      refine lv_aload_n hx hb dX6_skips_0 rfl (lv_at hl 0 rfl) ?_
      refine n_cV (b := qr 0) (As := []) (rest := []) (wc := (wR kA qr cc ac co ad rc nm st an svm cnt tx len th xf xt xs xa xw xc xk xp a9 wr xm mny)) hS0 (c_X6_look lQ D kA qr cc ac co ad rc nm st an svm cnt tx len th xf xt xs xa xw xc xk xp a9 wr xm mny (by first | assumption | omega) (by first | assumption | omega)) (cwV 0 hts gX6_skips_X6_look rfl rfl rfl (by decide +kernel) ⟨Nat.le_of_ble_eq_true rfl, Nat.le_of_ble_eq_true rfl⟩) hP hK (q0 := 0) rfl rfl rfl rfl rfl hl.1 (Nat.le_of_ble_eq_true rfl) dX6_skips_1 ⟨Nat.le_refl _, Nat.le_refl _⟩ (fun r1 h1 => ?_)
      subst h1
      refine lv_bipush (v := (nI 32)) hx hb dX6_skips_4 (by decide) ?_
      refine lv_icmp_ne (tgt := 22) hx hb dX6_skips_6 (by decide) (fun c6 => ?_) (fun c6 => ?_)
      · have e9 : skpF tx len 150 pt = a9 := by
          rw [hs]
          exact skpF_f (fun h => c6 ((oI_N (hereF_bd htx) (by decide)).mpr h)) _
        rw [← e9] at hP hD
        have hP : va_P D vwCl (wR kA qr cc ac co ad rc nm st an svm cnt tx len th xf xt xs xa xw xc xk xp (skpF tx len 150 pt) wr xm mny) H := hP
        have hD : va_D A (wR kA qr cc ac co ad rc nm st an svm cnt tx len th xf xt xs xa xw xc xk xp (skpF tx len 150 pt) wr xm mny) := hD
        exact n_wretv hx hb hr hlocks (post := fun (u : Unit) => True) (w1 := fun u => (wR kA qr cc ac co ad rc nm st an svm cnt tx len th xf xt xs xa xw xc xk xp (skpF tx len 150 pt) wr xm mny)) () trivial hP hD hK hS hAe dX6_skips_22
      · refine lv_aload_n hx hb dX6_skips_9 rfl (lv_at hl 0 rfl) ?_
        refine lv_dup hx hb dX6_skips_10 rfl ?_
        refine n_get (ci := 6) (v := .int (nI a9)) (C := RX6) (T := TX6) (N := 18) hx hb hts hinX6 hown hK hP 0 rfl rfl 14 rfl ⟨rfl, rfl, rfl⟩ f193 rfl dX6_skips_11 ?_
        refine lv_iconst (v := (nI 1)) hx hb dX6_skips_14 (by decide) ?_
        refine n_iadd (v := (nI (a9 + 1))) hx hb (nI_add _ _) dX6_skips_15 ?_
        refine n_put (ci := 6) (v := .int (nI (a9 + 1))) (C := RX6) (T := TX6) (N := 18) (ws' := (wR kA qr cc ac co ad rc nm st an svm cnt tx len th xf xt xs xa xw xc xk xp (a9 + 1) wr xm mny)) hx hb hts hinX6 tyX6 tyX6_ok nmX6 hown hK hP hD hS 0 rfl rfl 14 rfl ⟨rfl, rfl, rfl, rfl⟩ f193 rfl rfl rfl rfl dX6_skips_16 (fun H locs hP hD hS => ?_)
        refine lv_goto (tgt := 0) hx hb dX6_skips_19 (by decide) ?_
        have h15 := (oI_N (hereF_bd htx) (by decide)).mp c6
        have hl15 := (hereF_lt h15).1
        exact ih0 (a9 + 1) (by omega) (by first | assumption | omega) (by first | assumption | omega) (by first | assumption | omega) (by rw [hs, show 150 - (a9 - pt) = (150 - (a9 + 1 - pt)) + 1 by omega, skpF_t h15]) _ _ hP hD hS _ (lv_sub hl [0] rfl)
  exact L0 ((len - pt) + 1) pt (Nat.lt_succ_self _) (by first | assumption | omega) (by first | assumption | omega) (by first | assumption | omega) (by rw [Nat.sub_self]) _ _ hP hD hS _ (lv_sub hl [0] rfl)

