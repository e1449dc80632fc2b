
theorem p5_pos (k : Nat) : 0 < 5 ^ k := Nat.pow_pos (by decide)
/-- digits of base 5 -/
theorem dig_lt {f : Nat → Nat} : ∀ {n : Nat}, (∀ k, k < n → f k < 5) → sumF (fun k => f k * 5 ^ k) n < 5 ^ n
  | 0, _ => Nat.one_pos
  | n + 1, h => by
    rw [sumF_s, Nat.pow_succ]
    have h1 := dig_lt (n := n) (fun k hk => h k (by omega))
    have h2 := h n (by omega)
    have h3 : (f n + 1) * 5 ^ n ≤ 5 * 5 ^ n := Nat.mul_le_mul_right _ (by omega)
    rw [Nat.add_mul, Nat.one_mul] at h3
    omega
theorem dg5_hi (x a : Nat) {i n : Nat} (h : i < n) : dg5 (x + a * 5 ^ n) i = dg5 x i := by
  unfold dg5
  have e : a * 5 ^ n = 5 ^ i * (5 * (a * 5 ^ (n - i - 1))) := by
    have : 5 ^ n = 5 ^ i * (5 * 5 ^ (n - i - 1)) := by rw [← Nat.pow_succ', ← Nat.pow_add]; congr 1; omega
    rw [this, Nat.mul_left_comm a, Nat.mul_left_comm a]
  rw [e, Nat.add_mul_div_left _ _ (p5_pos i), Nat.add_mul_mod_self_left]
theorem dg5_at (x a n : Nat) (hx : x < 5 ^ n) (ha : a < 5) : dg5 (x + a * 5 ^ n) n = a := by
  unfold dg5
  rw [Nat.add_mul_div_right _ _ (p5_pos n), Nat.div_eq_of_lt hx, Nat.zero_add, Nat.mod_eq_of_lt ha]
theorem dig_at {f : Nat → Nat} {i : Nat} : ∀ {n : Nat}, (∀ k, k < n → f k < 5) → i < n → dg5 (sumF (fun k => f k * 5 ^ k) n) i = f i
  | 0, _, hi => absurd hi (Nat.not_lt_zero _)
  | n + 1, h, hi => by
    rw [sumF_s]
    by_cases e : i = n
    · subst e
      exact dg5_at _ _ _ (dig_lt (fun k hk => h k (by omega))) (h i (by omega))
    · rw [dg5_hi _ _ (show i < n by omega)]
      exact dig_at (fun k hk => h k (by omega)) (by omega)
theorem dig_mod (x : Nat) : ∀ n, sumF (fun k => dg5 x k * 5 ^ k) n = x % 5 ^ n
  | 0 => by rw [Nat.pow_zero, Nat.mod_one]; rfl
  | n + 1 => by
    rw [sumF_s, dig_mod x n, Nat.pow_succ, Nat.mod_mul, Nat.mul_comm (5 ^ n)]; rfl
theorem dig_ext {x y n : Nat} (hx : x < 5 ^ n) (hy : y < 5 ^ n) (h : ∀ i, i < n → dg5 x i = dg5 y i) : x = y := by
  have h1 := dig_mod x n
  have h2 := dig_mod y n
  rw [Nat.mod_eq_of_lt hx] at h1
  rw [Nat.mod_eq_of_lt hy] at h2
  rw [← h1, ← h2]
  exact sumF_cong (fun j hj => by rw [h j hj])
/-- a digit that is 0 gets a value -/
theorem dg5_add {y k j : Nat} (hd : dg5 y k = 0) (hj : j < 5) (i : Nat) : dg5 (y + j * 5 ^ k) i = if i = k then j else dg5 y i := by
  rcases Nat.lt_trichotomy i k with h | h | h
  · rw [dg5_hi _ _ h, if_neg (by omega)]
  · subst h
    rw [if_pos rfl]
    unfold dg5 at hd ⊢
    rw [Nat.add_mul_div_right _ _ (p5_pos i)]
    omega
  · rw [if_neg (by omega)]
    unfold dg5 at hd ⊢
    have e : (y + j * 5 ^ k) / 5 ^ (k + 1) = y / 5 ^ (k + 1) := by
      have hm : y % 5 ^ (k + 1) < 5 ^ k := by
        rw [Nat.pow_succ, Nat.mod_mul, hd, Nat.mul_zero, Nat.add_zero]
        exact Nat.mod_lt _ (p5_pos k)
      have h1 := Nat.div_add_mod y (5 ^ (k + 1))
      have h3 : j * 5 ^ k ≤ 4 * 5 ^ k := Nat.mul_le_mul_right _ (by omega)
      have h4 : 5 ^ (k + 1) = 5 * 5 ^ k := by rw [Nat.pow_succ, Nat.mul_comm]
      generalize hA : y / 5 ^ (k + 1) = A at h1 ⊢
      refine Nat.div_eq_of_lt_le ?_ ?_
      · rw [Nat.mul_comm]; omega
      · rw [Nat.add_mul, Nat.one_mul, Nat.mul_comm A]; omega
    have e2 : 5 ^ i = 5 ^ (k + 1) * 5 ^ (i - (k + 1)) := by rw [← Nat.pow_add]; congr 1; omega
    rw [e2, ← Nat.div_div_eq_div_mul, e, Nat.div_div_eq_div_mul]
/-- digits of the numbers of cases -/
theorem mix_lt {ac e : Nat → Nat} : ∀ {n : Nat}, (∀ k, k < n → e k < ac k) → sumF (fun k => e k * prodF ac k) n < prodF ac n
  | 0, _ => Nat.one_pos
  | n + 1, h => by
    rw [sumF_s, prodF_s]
    have h1 := mix_lt (n := n) (fun k hk => h k (by omega))
    have h2 := h n (by omega)
    have h3 : (e n + 1) * prodF ac n ≤ ac n * prodF ac n := Nat.mul_le_mul_right _ (by omega)
    rw [Nat.add_mul, Nat.one_mul, Nat.mul_comm (ac n)] at h3
    omega
theorem mix_at {ac e : Nat → Nat} {i : Nat} : ∀ {n : Nat}, (∀ k, k < n → 2 ≤ ac k ∧ ac k ≤ 4) → (∀ k, k < n → e k < ac k) → i < n → digF ac i (sumF (fun k => e k * prodF ac k) n) = e i
  | 0, _, _, hi => absurd hi (Nat.not_lt_zero _)
  | n + 1, hac, h, hi => by
    rw [sumF_s, Nat.add_comm]
    have hl := mix_lt (n := n) (fun k hk => h k (by omega))
    by_cases e1 : i = n
    · subst e1
      unfold digF
      rw [Nat.add_comm, Nat.add_mul_div_right _ _ (prodF_pos (fun k hk => hac k (by omega))), Nat.div_eq_of_lt hl, Nat.zero_add, Nat.mod_eq_of_lt (h i (by omega))]
    · rw [digF_low (show i < n by omega) (fun k hk => hac k (by omega))]
      exact mix_at (fun k hk => hac k (by omega)) (fun k hk => h k (by omega)) (by omega)
theorem mix_mod {ac : Nat → Nat} (c : Nat) : ∀ n, sumF (fun k => digF ac k c * prodF ac k) n = c % prodF ac n
  | 0 => by show 0 = c % 1; rw [Nat.mod_one]
  | n + 1 => by
    rw [sumF_s, mix_mod c n, prodF_s, Nat.mod_mul, Nat.mul_comm (prodF ac n)]; rfl
theorem mix_self {ac : Nat → Nat} {c n : Nat} (h : c < prodF ac n) : sumF (fun k => digF ac k c * prodF ac k) n = c := by rw [mix_mod, Nat.mod_eq_of_lt h]
/-- the set of one answer, in the bits of a case -/
theorem nib_or (a b k : Nat) : nibN (a ||| b) k = nibN a k ||| nibN b k := by
  unfold nibN
  rw [Nat.shiftRight_or_distrib, Nat.and_or_distrib_right]
theorem nib_hi {a k : Nat} (h : a < 2 ^ (4 * k)) : nibN a k = 0 := by
  unfold nibN
  rw [Nat.shiftRight_eq_div_pow, Nat.div_eq_of_lt h]; rfl
theorem nib_one : ∀ n, n < 5 → ∀ d, d < 4 → ∀ k, k ≤ n → nibN (1 <<< (4 * n + d)) k = if k = n then 1 <<< d else 0 := by decide +kernel
theorem nib_bitC {ac : Nat → Nat} {c k : Nat} : ∀ {n : Nat}, n ≤ 5 → (∀ k, k < n → 2 ≤ ac k ∧ ac k ≤ 4) → k < n → nibN (bitC ac c n) k = 1 <<< digF ac k c
  | 0, _, _, hk => absurd hk (Nat.not_lt_zero _)
  | n + 1, hn, hac, hk => by
    have hd : digF ac n c < 4 := Nat.lt_of_lt_of_le (digF_lt (by have := hac n (by omega); omega)) (hac n (by omega)).2
    rw [bitC_s, nib_or, nib_one n (by omega) _ hd k (by omega)]
    by_cases e : k = n
    · subst e
      rw [if_pos rfl, nib_hi (bitC_lt c (fun i hi => hac i (by omega))), Nat.zero_or]
    · rw [if_neg e, Nat.or_zero]
      exact nib_bitC (by omega) (fun i hi => hac i (by omega)) (by omega)
/-- the state that knows, of the answers of a case, those to some conditions -/
def skD (ac : Nat → Nat) (c m k : Nat) : Nat := if (m >>> k) &&& 1 = 1 then digF ac k c + 1 else 0
def skN (ac : Nat → Nat) (c m n : Nat) : Nat := sumF (fun k => skD ac c m k * 5 ^ k) n
theorem skD_le {ac : Nat → Nat} {c m k : Nat} (h : 2 ≤ ac k) : skD ac c m k ≤ ac k := by
  unfold skD
  have := digF_lt (ac := ac) (k := k) (c := c) (by omega)
  split <;> omega
theorem skN_lt {cc c m : Nat} {ac : Nat → Nat} (hac : ∀ k, k < cc → 2 ≤ ac k ∧ ac k ≤ 4) : skN ac c m cc < 5 ^ cc := dig_lt (fun k hk => Nat.lt_of_le_of_lt (skD_le (hac k hk).1) (by have := (hac k hk).2; omega))
theorem skN_at {cc c m k : Nat} {ac : Nat → Nat} (hac : ∀ k, k < cc → 2 ≤ ac k ∧ ac k ≤ 4) (hk : k < cc) : dg5 (skN ac c m cc) k = skD ac c m k := dig_at (f := skD ac c m) (fun k hk => Nat.lt_of_le_of_lt (skD_le (hac k hk).1) (by have := (hac k hk).2; omega)) hk
theorem skN_val {cc c m : Nat} {ac : Nat → Nat} (hac : ∀ k, k < cc → 2 ≤ ac k ∧ ac k ≤ 4) : valB ac (skN ac c m cc) cc = true := allB_t (fun k hk => decide_eq_true (by rw [skN_at hac hk]; exact skD_le (hac k hk).1))
theorem bit_clear : ∀ q, q < 32 → ∀ k, k < 5 → (q >>> k) &&& 1 = 1 → (q - 2 ^ k < q ∧ ∀ i, i < 5 → ((q - 2 ^ k) >>> i) &&& 1 = if i = k then 0 else (q >>> i) &&& 1) := by decide +kernel
theorem bit_all : ∀ n, n < 6 → ∀ i, i < n → (((1 <<< n) - 1) >>> i) &&& 1 = 1 := by decide +kernel
theorem bit_some : ∀ n, n < 6 → ∀ q, q < (1 <<< n) - 1 → ∃ i, i < n ∧ ¬ (q >>> i) &&& 1 = 1 := by
  have h : ∀ n, n < 6 → ∀ q, q < 32 → q < (1 <<< n) - 1 → ((List.range n).any (fun i => decide (¬ (q >>> i) &&& 1 = 1))) = true := by decide +kernel
  intro n hn q hq
  have h2 : (1 <<< n) - 1 < 32 := by
    have : ∀ n, n < 6 → (1 <<< n) - 1 < 32 := by decide
    exact this n hn
  obtain ⟨i, hi, h3⟩ := List.any_eq_true.mp (h n hn q (by omega) hq)
  exact ⟨i, List.mem_range.mp hi, of_decide_eq_true h3⟩
theorem bit_make (b : Nat → Bool) : ∀ n, ∃ m, m < 2 ^ n ∧ ∀ i, i < n → (m / 2 ^ i % 2 = 1 ↔ b i = true)
  | 0 => ⟨0, by decide, fun i hi => absurd hi (Nat.not_lt_zero _)⟩
  | n + 1 => by
    obtain ⟨m, h1, h2⟩ := bit_make b n
    have hp : 0 < 2 ^ n := Nat.two_pow_pos n
    refine ⟨m + (if b n = true then 1 else 0) * 2 ^ n, ?_, fun i hi => ?_⟩
    · rw [Nat.pow_succ]; split <;> omega
    · by_cases e : i = n
      · subst e
        rw [Nat.add_mul_div_right _ _ hp, Nat.div_eq_of_lt h1, Nat.zero_add]
        by_cases hb : b i = true
        · simp [hb]
        · simp [hb]
      · have hin : i < n := by omega
        have e2 : (if b n = true then 1 else 0) * 2 ^ n = 2 ^ i * (2 * ((if b n = true then 1 else 0) * 2 ^ (n - i - 1))) := by
          have : 2 ^ n = 2 ^ i * (2 * 2 ^ (n - i - 1)) := by rw [← Nat.pow_succ', ← Nat.pow_add]; congr 1; omega
          rw [this, Nat.mul_left_comm _ (2 ^ i), Nat.mul_left_comm _ 2]
        rw [e2, Nat.add_mul_div_left _ _ (Nat.two_pow_pos i), Nat.add_mul_mod_self_left]
        exact h2 i hin
theorem bit_raw (m i : Nat) : ((m >>> i) &&& 1 = 1) ↔ m / 2 ^ i % 2 = 1 := by rw [Nat.shiftRight_eq_div_pow, Nat.and_one_is_mod]
/-- a state that no mask makes has an answer that the case has not -/
theorem sk_no {cc c y : Nat} {ac : Nat → Nat} (hac : ∀ k, k < cc → 2 ≤ ac k ∧ ac k ≤ 4) (hy : y < 5 ^ cc) (h : ∀ m, m < 2 ^ cc → y ≠ skN ac c m cc) : ∃ i, i < cc ∧ dg5 y i ≠ 0 ∧ dg5 y i ≠ digF ac i c + 1 := by
  refine Classical.byContradiction (fun hn => ?_)
  obtain ⟨m, h1, h2⟩ := bit_make (fun i => decide (dg5 y i ≠ 0)) cc
  refine h m h1 (dig_ext hy (skN_lt hac) (fun i hi => ?_))
  rw [skN_at hac hi]
  unfold skD
  have hb := (bit_raw m i).trans (h2 i hi)
  by_cases e : dg5 y i = 0
  · rw [if_neg (fun h3 => of_decide_eq_true (hb.mp h3) e), e]
  · rw [if_pos (hb.mpr (decide_eq_true e))]
    refine Classical.byContradiction (fun h3 => hn ⟨i, hi, e, h3⟩)
/-- what is known of one state -/
def stOK (cc : Nat) (ac co sd ax cm wo : Nat → Nat) (y : Nat) : Prop := cm y = cmN cc ac sd ax cm (dg5 y) y ∧ wo y = woN cc ac co wo (dg5 y) y (cm y)
theorem shl_pow (n : Nat) : 1 <<< n = 2 ^ n := by rw [Nat.shiftLeft_eq, Nat.one_mul]
section WW
variable {cc c a a0 : Nat} {ac co sd ax cm wo : Nat → Nat}
theorem ww_start (hac : ∀ k, k < cc → 2 ≤ ac k ∧ ac k ≤ 4) (hcc : cc ≤ 5) (hsd : ∀ k, k < cc → sd k = prodF ac k) (hc : c < prodF ac cc) (ha : a < 11) (ha0 : a0 < 11) (h : plOK cc ac co sd (va_up ax c a0) cm wo) :
    ∀ y, y < 5 ^ cc → valB ac y cc = true → (∀ j, j < (1 <<< cc) - 1 → y ≠ skN ac c j cc) → stOK cc ac co sd (va_up ax c a) (va_up cm (skN ac c ((1 <<< cc) - 1) cc) a) wo y := by
  intro y hy hv hj
  have hFd : ∀ k, k < cc → dg5 (skN ac c ((1 <<< cc) - 1) cc) k = digF ac k c + 1 := fun k hk => by
    rw [skN_at hac hk]; unfold skD; rw [if_pos (bit_all cc (by omega) k hk)]
  by_cases e : y = skN ac c ((1 <<< cc) - 1) cc
  · have hnone : firstF (fun k => decide (dg5 y k = 0)) cc = none := firstF_none (fun k hk => decide_eq_false (by rw [e, hFd k hk]; omega))
    have hsum : sumF (fun k => (dg5 y k - 1) * sd k) cc = c := by
      rw [cs_eq hsd, sumF_cong (g := fun k => digF ac k c * prodF ac k) (fun k hk => by rw [e, hFd k hk, Nat.add_sub_cancel])]
      exact mix_self hc
    obtain ⟨h1, h2⟩ := h y hy hv
    rw [cmN_none hnone, hsum, up_s] at h1
    have hw0 : wo y = 0 := by rw [h2, h1]; unfold woN; rw [if_neg (by omega)]
    unfold stOK
    rw [cmN_none hnone, hsum, ← e, up_s, up_s, hw0]
    refine ⟨rfl, ?_⟩
    unfold woN; rw [if_neg (by omega)]
  · have hall : ∀ m, m < 2 ^ cc → y ≠ skN ac c m cc := fun m hm => by
      rw [← shl_pow] at hm
      by_cases e2 : m = (1 <<< cc) - 1
      · rw [e2]; exact e
      · exact hj m (by omega)
    obtain ⟨i, hi, hd0, hd1⟩ := sk_no hac hy hall
    obtain ⟨h1, h2⟩ := h y hy hv
    unfold stOK
    rw [up_n _ _ e]
    refine ⟨h1.trans (cmN_dep hac (fun k j hk hk0 j1 j2 => ?_) (fun hk => ?_)), h2⟩
    · refine (up_n _ _ (fun e3 => ?_)).symm
      have h3 : dg5 (y + j * 5 ^ k) i = dg5 y i := by
        rw [dg5_add hk0 (by have := (hac k hk).2; omega) i, if_neg (fun e4 => by subst e4; exact hd0 hk0)]
      rw [e3, hFd i hi] at h3
      exact hd1 h3.symm
    · have hvk := valB_i hv
      have hs : sumF (fun k => (dg5 y k - 1) * sd k) cc ≠ c := fun e3 => by
        have h3 := mix_at (e := fun k => dg5 y k - 1) (i := i) hac (fun k hk2 => by have := hvk k hk2; have := hk k hk2; show dg5 y k - 1 < ac k; omega) hi
        rw [← cs_eq (dg := dg5 y) hsd, e3] at h3
        have h4 := hk i hi
        omega
      rw [up_n _ _ hs, up_n _ _ hs]
theorem ww_step (hac : ∀ k, k < cc → 2 ≤ ac k ∧ ac k ≤ 4) (hcc : cc ≤ 5) {q x : Nat} {dg : Nat → Nat} (hq : q < (1 <<< cc) - 1) (hx : x = skN ac c q cc) (hd : ∀ k, k < cc → dg k = dg5 x k)
    (h : ∀ y, y < 5 ^ cc → valB ac y cc = true → (∀ j, j < q + 1 → y ≠ skN ac c j cc) → stOK cc ac co sd (va_up ax c a) cm wo y) :
    ∀ y, y < 5 ^ cc → valB ac y cc = true → (∀ j, j < q → y ≠ skN ac c j cc) → stOK cc ac co sd (va_up ax c a) (va_up cm x (cmN cc ac sd ax cm dg x)) (va_up wo x (woN cc ac co wo dg x (cmN cc ac sd ax cm dg x))) y := by
  intro y hy hv hj
  have h32 : (1 <<< cc) - 1 < 32 := by
    have : ∀ n, n < 6 → (1 <<< n) - 1 < 32 := by decide
    exact this cc (by omega)
  have hne : ∀ k j, k < cc → dg5 y k = 0 → 1 ≤ j → j ≤ ac k → y + j * 5 ^ k ≠ x := by
    intro k j hk hk0 j1 j2 e
    have hj5 : j < 5 := by have := (hac k hk).2; omega
    have hb : (q >>> k) &&& 1 = 1 := by
      have h3 := skN_at (c := c) (m := q) hac hk
      rw [← hx, ← e, dg5_add hk0 hj5 k, if_pos rfl] at h3
      unfold skD at h3
      by_cases hb : (q >>> k) &&& 1 = 1
      · exact hb
      · rw [if_neg hb] at h3; omega
    obtain ⟨g1, g2⟩ := bit_clear q (by omega) k (by omega) hb
    refine hj (q - 2 ^ k) g1 (dig_ext hy (skN_lt hac) (fun i hi => ?_))
    rw [skN_at hac hi]
    have h3 := skN_at (c := c) (m := q) hac hi
    rw [← hx, ← e, dg5_add hk0 hj5 i] at h3
    unfold skD at h3 ⊢
    rw [g2 i (by omega)]
    by_cases e2 : i = k
    · subst e2
      rw [if_pos rfl, if_neg (by decide), hk0]
    · rw [if_neg e2] at h3 ⊢
      exact h3
  have e2 : ∀ z, woN cc ac co (va_up wo x (woN cc ac co wo dg x (cmN cc ac sd ax cm dg x))) (dg5 y) y z = woN cc ac co wo (dg5 y) y z := fun z => woN_dep (fun k j hk hk0 j1 j2 => up_n _ _ (hne k j hk hk0 j1 j2))
  unfold stOK
  rw [e2]
  by_cases e : y = x
  · obtain ⟨i, hi, hb⟩ := bit_some cc (by omega) q hq
    have hd0 : dg5 y i = 0 := by rw [e, hx, skN_at hac hi]; unfold skD; rw [if_neg hb]
    have e1 : cmN cc ac sd (va_up ax c a) (va_up cm x (cmN cc ac sd ax cm dg x)) (dg5 y) y = cmN cc ac sd ax cm (dg5 y) y := cmN_dep hac (fun k j hk hk0 j1 j2 => up_n _ _ (hne k j hk hk0 j1 j2)) (fun hk => absurd hd0 (hk i hi))
    rw [e1]
    subst e
    rw [up_s, up_s, cmN_cong hd, woN_cong hd]
    exact ⟨rfl, rfl⟩
  · have e1 : cmN cc ac sd (va_up ax c a) (va_up cm x (cmN cc ac sd ax cm dg x)) (dg5 y) y = cmN cc ac sd (va_up ax c a) cm (dg5 y) y := cmN_dep hac (fun k j hk hk0 j1 j2 => up_n _ _ (hne k j hk hk0 j1 j2)) (fun _ => rfl)
    rw [e1, up_n _ _ e, up_n _ _ e]
    refine h y hy hv (fun j hj2 => ?_)
    by_cases e3 : j = q
    · rw [e3, ← hx]; exact e
    · exact hj j (by omega)
end WW

/-- the first of the cheapest actions, and its cost -/
def bstN (f : Nat → Nat) : Nat → Nat × Nat
  | 0 => (0, 100)
  | n + 1 => if f n < (bstN f n).2 then (n, f n) else bstN f n
theorem bstN_s (f : Nat → Nat) (n : Nat) : bstN f (n + 1) = if f n < (bstN f n).2 then (n, f n) else bstN f n := rfl
theorem bstN_cong {f g : Nat → Nat} : ∀ {n : Nat}, (∀ j, j < n → f j = g j) → bstN f n = bstN g n
  | 0, _ => rfl
  | n + 1, h => by rw [bstN_s, bstN_s, bstN_cong (fun j hj => h j (by omega)), h n (by omega)]
