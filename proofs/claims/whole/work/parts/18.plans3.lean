
theorem p5_pos (k : Nat) : 0 < 5 ^ k := Nat.pow_pos (by decide)
/-- digits of base 5 -/
theorem dig_lt {f : Nat → Nat} : ∀ {n : Nat}, (∀ k, k < n → f k < 5) → sumF (fun k => f k * 5 ^ k) n < 5 ^ n
  | 0, _ => Nat.one_pos
  | n + 1, h => by
    rw [sumF_s, Nat.pow_succ]
    have h1 := dig_lt (n := n) (fun k hk => h k (by omega))
    have h2 := h n (by omega)
    have h3 : (f n + 1) * 5 ^ n ≤ 5 * 5 ^ n := Nat.mul_le_mul_right _ (by omega)
    rw [Nat.add_mul, Nat.one_mul] at h3
    omega
theorem dg5_hi (x a : Nat) {i n : Nat} (h : i < n) : dg5 (x + a * 5 ^ n) i = dg5 x i := by
  unfold dg5
  have e : a * 5 ^ n = 5 ^ i * (5 * (a * 5 ^ (n - i - 1))) := by
    have : 5 ^ n = 5 ^ i * (5 * 5 ^ (n - i - 1)) := by rw [← Nat.pow_succ', ← Nat.pow_add]; congr 1; omega
    rw [this, Nat.mul_left_comm a, Nat.mul_left_comm a]
  rw [e, Nat.add_mul_div_left _ _ (p5_pos i), Nat.add_mul_mod_self_left]
theorem dg5_at (x a n : Nat) (hx : x < 5 ^ n) (ha : a < 5) : dg5 (x + a * 5 ^ n) n = a := by
  unfold dg5
  rw [Nat.add_mul_div_right _ _ (p5_pos n), Nat.div_eq_of_lt hx, Nat.zero_add, Nat.mod_eq_of_lt ha]
theorem dig_at {f : Nat → Nat} {i : Nat} : ∀ {n : Nat}, (∀ k, k < n → f k < 5) → i < n → dg5 (sumF (fun k => f k * 5 ^ k) n) i = f i
  | 0, _, hi => absurd hi (Nat.not_lt_zero _)
  | n + 1, h, hi => by
    rw [sumF_s]
    by_cases e : i = n
    · subst e
      exact dg5_at _ _ _ (dig_lt (fun k hk => h k (by omega))) (h i (by omega))
    · rw [dg5_hi _ _ (show i < n by omega)]
      exact dig_at (fun k hk => h k (by omega)) (by omega)
theorem dig_mod (x : Nat) : ∀ n, sumF (fun k => dg5 x k * 5 ^ k) n = x % 5 ^ n
  | 0 => by rw [Nat.pow_zero, Nat.mod_one]; rfl
  | n + 1 => by
    rw [sumF_s, dig_mod x n, Nat.pow_succ, Nat.mod_mul, Nat.mul_comm (5 ^ n)]; rfl
theorem dig_ext {x y n : Nat} (hx : x < 5 ^ n) (hy : y < 5 ^ n) (h : ∀ i, i < n → dg5 x i = dg5 y i) : x = y := by
  have h1 := dig_mod x n
  have h2 := dig_mod y n
  rw [Nat.mod_eq_of_lt hx] at h1
  rw [Nat.mod_eq_of_lt hy] at h2
  rw [← h1, ← h2]
  exact sumF_cong (fun j hj => by rw [h j hj])
/-- a digit that is 0 gets a value -/
theorem dg5_add {y k j : Nat} (hd : dg5 y k = 0) (hj : j < 5) (i : Nat) : dg5 (y + j * 5 ^ k) i = if i = k then j else dg5 y i := by
  rcases Nat.lt_trichotomy i k with h | h | h
  · rw [dg5_hi _ _ h, if_neg (by omega)]
  · subst h
    rw [if_pos rfl]
    unfold dg5 at hd ⊢
    rw [Nat.add_mul_div_right _ _ (p5_pos i)]
    omega
  · rw [if_neg (by omega)]
    unfold dg5 at hd ⊢
    have e : (y + j * 5 ^ k) / 5 ^ (k + 1) = y / 5 ^ (k + 1) := by
      have hm : y % 5 ^ (k + 1) < 5 ^ k := by
        rw [Nat.pow_succ, Nat.mod_mul, hd, Nat.mul_zero, Nat.add_zero]
        exact Nat.mod_lt _ (p5_pos k)
      have h1 := Nat.div_add_mod y (5 ^ (k + 1))
      have h3 : j * 5 ^ k ≤ 4 * 5 ^ k := Nat.mul_le_mul_right _ (by omega)
      have h4 : 5 ^ (k + 1) = 5 * 5 ^ k := by rw [Nat.pow_succ, Nat.mul_comm]
      generalize hA : y / 5 ^ (k + 1) = A at h1 ⊢
      refine Nat.div_eq_of_lt_le ?_ ?_
      · rw [Nat.mul_comm]; omega
      · rw [Nat.add_mul, Nat.one_mul, Nat.mul_comm A]; omega
    have e2 : 5 ^ i = 5 ^ (k + 1) * 5 ^ (i - (k + 1)) := by rw [← Nat.pow_add]; congr 1; omega
    rw [e2, ← Nat.div_div_eq_div_mul, e, Nat.div_div_eq_div_mul]
/-- digits of the numbers of cases -/
theorem mix_lt {ac e : Nat → Nat} : ∀ {n : Nat}, (∀ k, k < n → e k < ac k) → sumF (fun k => e k * prodF ac k) n < prodF ac n
  | 0, _ => Nat.one_pos
  | n + 1, h => by
    rw [sumF_s, prodF_s]
    have h1 := mix_lt (n := n) (fun k hk => h k (by omega))
    have h2 := h n (by omega)
    have h3 : (e n + 1) * prodF ac n ≤ ac n * prodF ac n := Nat.mul_le_mul_right _ (by omega)
    rw [Nat.add_mul, Nat.one_mul, Nat.mul_comm (ac n)] at h3
    omega
theorem mix_at {ac e : Nat → Nat} {i : Nat} : ∀ {n : Nat}, (∀ k, k < n → 2 ≤ ac k ∧ ac k ≤ 4) → (∀ k, k < n → e k < ac k) → i < n → digF ac i (sumF (fun k => e k * prodF ac k) n) = e i
  | 0, _, _, hi => absurd hi (Nat.not_lt_zero _)
  | n + 1, hac, h, hi => by
    rw [sumF_s, Nat.add_comm]
    have hl := mix_lt (n := n) (fun k hk => h k (by omega))
    by_cases e1 : i = n
    · subst e1
      unfold digF
      rw [Nat.add_comm, Nat.add_mul_div_right _ _ (prodF_pos (fun k hk => hac k (by omega))), Nat.div_eq_of_lt hl, Nat.zero_add, Nat.mod_eq_of_lt (h i (by omega))]
    · rw [digF_low (show i < n by omega) (fun k hk => hac k (by omega))]
      exact mix_at (fun k hk => hac k (by omega)) (fun k hk => h k (by omega)) (by omega)
theorem mix_mod {ac : Nat → Nat} (c : Nat) : ∀ n, sumF (fun k => digF ac k c * prodF ac k) n = c % prodF ac n
  | 0 => by show 0 = c % 1; rw [Nat.mod_one]
  | n + 1 => by
    rw [sumF_s, mix_mod c n, prodF_s, Nat.mod_mul, Nat.mul_comm (prodF ac n)]; rfl
theorem mix_self {ac : Nat → Nat} {c n : Nat} (h : c < prodF ac n) : sumF (fun k => digF ac k c * prodF ac k) n = c := by rw [mix_mod, Nat.mod_eq_of_lt h]
/-- the set of one answer, in the bits of a case -/
theorem nib_or (a b k : Nat) : nibN (a ||| b) k = nibN a k ||| nibN b k := by
  unfold nibN
  rw [Nat.shiftRight_or_distrib, Nat.and_or_distrib_right]
theorem nib_hi {a k : Nat} (h : a < 2 ^ (4 * k)) : nibN a k = 0 := by
  unfold nibN
  rw [Nat.shiftRight_eq_div_pow, Nat.div_eq_of_lt h]; rfl
theorem nib_one : ∀ n, n < 5 → ∀ d, d < 4 → ∀ k, k ≤ n → nibN (1 <<< (4 * n + d)) k = if k = n then 1 <<< d else 0 := by decide +kernel
theorem nib_bitC {ac : Nat → Nat} {c k : Nat} : ∀ {n : Nat}, n ≤ 5 → (∀ k, k < n → 2 ≤ ac k ∧ ac k ≤ 4) → k < n → nibN (bitC ac c n) k = 1 <<< digF ac k c
  | 0, _, _, hk => absurd hk (Nat.not_lt_zero _)
  | n + 1, hn, hac, hk => by
    have hd : digF ac n c < 4 := Nat.lt_of_lt_of_le (digF_lt (by have := hac n (by omega); omega)) (hac n (by omega)).2
    rw [bitC_s, nib_or, nib_one n (by omega) _ hd k (by omega)]
    by_cases e : k = n
    · subst e
      rw [if_pos rfl, nib_hi (bitC_lt c (fun i hi => hac i (by omega))), Nat.zero_or]
    · rw [if_neg e, Nat.or_zero]
      exact nib_bitC (by omega) (fun i hi => hac i (by omega)) (by omega)
/-- the state that knows, of the answers of a case, those to some conditions -/
def skD (ac : Nat → Nat) (c m k : Nat) : Nat := if (m >>> k) &&& 1 = 1 then digF ac k c + 1 else 0
def skN (ac : Nat → Nat) (c m n : Nat) : Nat := sumF (fun k => skD ac c m k * 5 ^ k) n
theorem skD_le {ac : Nat → Nat} {c m k : Nat} (h : 2 ≤ ac k) : skD ac c m k ≤ ac k := by
  unfold skD
  have := digF_lt (ac := ac) (k := k) (c := c) (by omega)
  split <;> omega
theorem skN_lt {cc c m : Nat} {ac : Nat → Nat} (hac : ∀ k, k < cc → 2 ≤ ac k ∧ ac k ≤ 4) : skN ac c m cc < 5 ^ cc := dig_lt (fun k hk => Nat.lt_of_le_of_lt (skD_le (hac k hk).1) (by have := (hac k hk).2; omega))
theorem skN_at {cc c m k : Nat} {ac : Nat → Nat} (hac : ∀ k, k < cc → 2 ≤ ac k ∧ ac k ≤ 4) (hk : k < cc) : dg5 (skN ac c m cc) k = skD ac c m k := dig_at (f := skD ac c m) (fun k hk => Nat.lt_of_le_of_lt (skD_le (hac k hk).1) (by have := (hac k hk).2; omega)) hk
theorem skN_val {cc c m : Nat} {ac : Nat → Nat} (hac : ∀ k, k < cc → 2 ≤ ac k ∧ ac k ≤ 4) : valB ac (skN ac c m cc) cc = true := allB_t (fun k hk => decide_eq_true (by rw [skN_at hac hk]; exact skD_le (hac k hk).1))
theorem bit_clear : ∀ q, q < 32 → ∀ k, k < 5 → (q >>> k) &&& 1 = 1 → (q - 2 ^ k < q ∧ ∀ i, i < 5 → ((q - 2 ^ k) >>> i) &&& 1 = if i = k then 0 else (q >>> i) &&& 1) := by decide +kernel
theorem bit_all : ∀ n, n < 6 → ∀ i, i < n → (((1 <<< n) - 1) >>> i) &&& 1 = 1 := by decide +kernel
theorem bit_some : ∀ n, n < 6 → ∀ q, q < (1 <<< n) - 1 → ∃ i, i < n ∧ ¬ (q >>> i) &&& 1 = 1 := by
  have h : ∀ n, n < 6 → ∀ q, q < 32 → q < (1 <<< n) - 1 → ((List.range n).any (fun i => decide (¬ (q >>> i) &&& 1 = 1))) = true := by decide +kernel
  intro n hn q hq
  have h2 : (1 <<< n) - 1 < 32 := by
    have : ∀ n, n < 6 → (1 <<< n) - 1 < 32 := by decide
    exact this n hn
  obtain ⟨i, hi, h3⟩ := List.any_eq_true.mp (h n hn q (by omega) hq)
  exact ⟨i, List.mem_range.mp hi, of_decide_eq_true h3⟩
theorem bit_make (b : Nat → Bool) : ∀ n, ∃ m, m < 2 ^ n ∧ ∀ i, i < n → (m / 2 ^ i % 2 = 1 ↔ b i = true)
  | 0 => ⟨0, by decide, fun i hi => absurd hi (Nat.not_lt_zero _)⟩
  | n + 1 => by
    obtain ⟨m, h1, h2⟩ := bit_make b n
    have hp : 0 < 2 ^ n := Nat.two_pow_pos n
    refine ⟨m + (if b n = true then 1 else 0) * 2 ^ n, ?_, fun i hi => ?_⟩
    · rw [Nat.pow_succ]; split <;> omega
    · by_cases e : i = n
      · subst e
        rw [Nat.add_mul_div_right _ _ hp, Nat.div_eq_of_lt h1, Nat.zero_add]
        by_cases hb : b i = true
        · simp [hb]
        · simp [hb]
      · have hin : i < n := by omega
        have e2 : (if b n = true then 1 else 0) * 2 ^ n = 2 ^ i * (2 * ((if b n = true then 1 else 0) * 2 ^ (n - i - 1))) := by
          have : 2 ^ n = 2 ^ i * (2 * 2 ^ (n - i - 1)) := by rw [← Nat.pow_succ', ← Nat.pow_add]; congr 1; omega
          rw [this, Nat.mul_left_comm _ (2 ^ i), Nat.mul_left_comm _ 2]
        rw [e2, Nat.add_mul_div_left _ _ (Nat.two_pow_pos i), Nat.add_mul_mod_self_left]
        exact h2 i hin
theorem bit_raw (m i : Nat) : ((m >>> i) &&& 1 = 1) ↔ m / 2 ^ i % 2 = 1 := by rw [Nat.shiftRight_eq_div_pow, Nat.and_one_is_mod]
/-- a state that no mask makes has an answer that the case has not -/
theorem sk_no {cc c y : Nat} {ac : Nat → Nat} (hac : ∀ k, k < cc → 2 ≤ ac k ∧ ac k ≤ 4) (hy : y < 5 ^ cc) (h : ∀ m, m < 2 ^ cc → y ≠ skN ac c m cc) : ∃ i, i < cc ∧ dg5 y i ≠ 0 ∧ dg5 y i ≠ digF ac i c + 1 := by
  refine Classical.byContradiction (fun hn => ?_)
  obtain ⟨m, h1, h2⟩ := bit_make (fun i => decide (dg5 y i ≠ 0)) cc
  refine h m h1 (dig_ext hy (skN_lt hac) (fun i hi => ?_))
  rw [skN_at hac hi]
  unfold skD
  have hb := (bit_raw m i).trans (h2 i hi)
  by_cases e : dg5 y i = 0
  · rw [if_neg (fun h3 => of_decide_eq_true (hb.mp h3) e), e]
  · rw [if_pos (hb.mpr (decide_eq_true e))]
    refine Classical.byContradiction (fun h3 => hn ⟨i, hi, e, h3⟩)
/-- what is known of one state -/
def stOK (cc : Nat) (ac co sd ax cm wo : Nat → Nat) (y : Nat) : Prop := cm y = cmN cc ac sd ax cm (dg5 y) y ∧ wo y = woN cc ac co wo (dg5 y) y (cm y)
theorem shl_pow (n : Nat) : 1 <<< n = 2 ^ n := by rw [Nat.shiftLeft_eq, Nat.one_mul]
section WW
variable {cc c a a0 : Nat} {ac co sd ax cm wo : Nat → Nat}
theorem ww_start (hac : ∀ k, k < cc → 2 ≤ ac k ∧ ac k ≤ 4) (hcc : cc ≤ 5) (hsd : ∀ k, k < cc → sd k = prodF ac k) (hc : c < prodF ac cc) (ha : a < 11) (ha0 : a0 < 11) (h : plOK cc ac co sd (va_up ax c a0) cm wo) :
    ∀ y, y < 5 ^ cc → valB ac y cc = true → (∀ j, j < (1 <<< cc) - 1 → y ≠ skN ac c j cc) → stOK cc ac co sd (va_up ax c a) (va_up cm (skN ac c ((1 <<< cc) - 1) cc) a) wo y := by
  intro y hy hv hj
  have hFd : ∀ k, k < cc → dg5 (skN ac c ((1 <<< cc) - 1) cc) k = digF ac k c + 1 := fun k hk => by
    rw [skN_at hac hk]; unfold skD; rw [if_pos (bit_all cc (by omega) k hk)]
  by_cases e : y = skN ac c ((1 <<< cc) - 1) cc
  · have hnone : firstF (fun k => decide (dg5 y k = 0)) cc = none := firstF_none (fun k hk => decide_eq_false (by rw [e, hFd k hk]; omega))
    have hsum : sumF (fun k => (dg5 y k - 1) * sd k) cc = c := by
      rw [cs_eq hsd, sumF_cong (g := fun k => digF ac k c * prodF ac k) (fun k hk => by rw [e, hFd k hk, Nat.add_sub_cancel])]
      exact mix_self hc
    obtain ⟨h1, h2⟩ := h y hy hv
    rw [cmN_none hnone, hsum, up_s] at h1
    have hw0 : wo y = 0 := by rw [h2, h1]; unfold woN; rw [if_neg (by omega)]
    unfold stOK
    rw [cmN_none hnone, hsum, ← e, up_s, up_s, hw0]
    refine ⟨rfl, ?_⟩
    unfold woN; rw [if_neg (by omega)]
  · have hall : ∀ m, m < 2 ^ cc → y ≠ skN ac c m cc := fun m hm => by
      rw [← shl_pow] at hm
      by_cases e2 : m = (1 <<< cc) - 1
      · rw [e2]; exact e
      · exact hj m (by omega)
    obtain ⟨i, hi, hd0, hd1⟩ := sk_no hac hy hall
    obtain ⟨h1, h2⟩ := h y hy hv
    unfold stOK
    rw [up_n _ _ e]
    refine ⟨h1.trans (cmN_dep hac (fun k j hk hk0 j1 j2 => ?_) (fun hk => ?_)), h2⟩
    · refine (up_n _ _ (fun e3 => ?_)).symm
      have h3 : dg5 (y + j * 5 ^ k) i = dg5 y i := by
        rw [dg5_add hk0 (by have := (hac k hk).2; omega) i, if_neg (fun e4 => by subst e4; exact hd0 hk0)]
      rw [e3, hFd i hi] at h3
      exact hd1 h3.symm
    · have hvk := valB_i hv
      have hs : sumF (fun k => (dg5 y k - 1) * sd k) cc ≠ c := fun e3 => by
        have h3 := mix_at (e := fun k => dg5 y k - 1) (i := i) hac (fun k hk2 => by have := hvk k hk2; have := hk k hk2; show dg5 y k - 1 < ac k; omega) hi
        rw [← cs_eq (dg := dg5 y) hsd, e3] at h3
        have h4 := hk i hi
        omega
      rw [up_n _ _ hs, up_n _ _ hs]
theorem ww_step (hac : ∀ k, k < cc → 2 ≤ ac k ∧ ac k ≤ 4) (hcc : cc ≤ 5) {q x : Nat} {dg : Nat → Nat} (hq : q < (1 <<< cc) - 1) (hx : x = skN ac c q cc) (hd : ∀ k, k < cc → dg k = dg5 x k)
    (h : ∀ y, y < 5 ^ cc → valB ac y cc = true → (∀ j, j < q + 1 → y ≠ skN ac c j cc) → stOK cc ac co sd (va_up ax c a) cm wo y) :
    ∀ y, y < 5 ^ cc → valB ac y cc = true → (∀ j, j < q → y ≠ skN ac c j cc) → stOK cc ac co sd (va_up ax c a) (va_up cm x (cmN cc ac sd ax cm dg x)) (va_up wo x (woN cc ac co wo dg x (cmN cc ac sd ax cm dg x))) y := by
  intro y hy hv hj
  have h32 : (1 <<< cc) - 1 < 32 := by
    have : ∀ n, n < 6 → (1 <<< n) - 1 < 32 := by decide
    exact this cc (by omega)
  have hne : ∀ k j, k < cc → dg5 y k = 0 → 1 ≤ j → j ≤ ac k → y + j * 5 ^ k ≠ x := by
    intro k j hk hk0 j1 j2 e
    have hj5 : j < 5 := by have := (hac k hk).2; omega
    have hb : (q >>> k) &&& 1 = 1 := by
      have h3 := skN_at (c := c) (m := q) hac hk
      rw [← hx, ← e, dg5_add hk0 hj5 k, if_pos rfl] at h3
      unfold skD at h3
      by_cases hb : (q >>> k) &&& 1 = 1
      · exact hb
      · rw [if_neg hb] at h3; omega
    obtain ⟨g1, g2⟩ := bit_clear q (by omega) k (by omega) hb
    refine hj (q - 2 ^ k) g1 (dig_ext hy (skN_lt hac) (fun i hi => ?_))
    rw [skN_at hac hi]
    have h3 := skN_at (c := c) (m := q) hac hi
    rw [← hx, ← e, dg5_add hk0 hj5 i] at h3
    unfold skD at h3 ⊢
    rw [g2 i (by omega)]
    by_cases e2 : i = k
    · subst e2
      rw [if_pos rfl, if_neg (by decide), hk0]
    · rw [if_neg e2] at h3 ⊢
      exact h3
  have e2 : ∀ z, woN cc ac co (va_up wo x (woN cc ac co wo dg x (cmN cc ac sd ax cm dg x))) (dg5 y) y z = woN cc ac co wo (dg5 y) y z := fun z => woN_dep (fun k j hk hk0 j1 j2 => up_n _ _ (hne k j hk hk0 j1 j2))
  unfold stOK
  rw [e2]
  by_cases e : y = x
  · obtain ⟨i, hi, hb⟩ := bit_some cc (by omega) q hq
    have hd0 : dg5 y i = 0 := by rw [e, hx, skN_at hac hi]; unfold skD; rw [if_neg hb]
    have e1 : cmN cc ac sd (va_up ax c a) (va_up cm x (cmN cc ac sd ax cm dg x)) (dg5 y) y = cmN cc ac sd ax cm (dg5 y) y := cmN_dep hac (fun k j hk hk0 j1 j2 => up_n _ _ (hne k j hk hk0 j1 j2)) (fun hk => absurd hd0 (hk i hi))
    rw [e1]
    subst e
    rw [up_s, up_s, cmN_cong hd, woN_cong hd]
    exact ⟨rfl, rfl⟩
  · have e1 : cmN cc ac sd (va_up ax c a) (va_up cm x (cmN cc ac sd ax cm dg x)) (dg5 y) y = cmN cc ac sd (va_up ax c a) cm (dg5 y) y := cmN_dep hac (fun k j hk hk0 j1 j2 => up_n _ _ (hne k j hk hk0 j1 j2)) (fun _ => rfl)
    rw [e1, up_n _ _ e, up_n _ _ e]
    refine h y hy hv (fun j hj2 => ?_)
    by_cases e3 : j = q
    · rw [e3, ← hx]; exact e
    · exact hj j (by omega)
end WW

set_option maxHeartbeats 4000000 in
set_option maxRecDepth 100000 in
theorem c_X2_stateKnowing (lQ : Launch) (D : va_G) (kA : Nat → ClassId) (adK adV : Nat → Nat) (qp : Nat → Nat) (cm : Nat → Nat) (wo : Nat → Nat) (dg : Nat → Nat) (qc : Nat → Nat) (cn : Nat) (sd : Nat → Nat) (bt : Nat → Nat) (fi : Nat → Option Nat) (se : Nat → Option Nat) (tl : Nat → Nat) (ax : Nat → Nat) (cf : Nat → Bool) (ow : Nat → Nat) (ho : Nat) (ov : Nat) (cs : Nat) (q : Nat → Nat) (cc : Nat) (ac : Nat → Nat) (co : Nat → Nat) (ad : Nat) (rc : Nat) (nm : Nat → Nat) (st : Nat → Nat) (an : Nat → Nat) (c : Nat) (m : Nat) (hcc : cc ≤ 5) (hac : ∀ k, k < cc → 2 ≤ ac k ∧ ac k ≤ 4) (hc : c < 1024) (hbt : bt c = bitC ac c cc) (hm : m < 2147483648) : Met lQ yX2_stateKnowing wsX2_stateKnowing (rmN 1 24) (rdE_Pc D vwCl adK adV [.ref (qp 0), .int (nI c), .int (nI m)] ((wP kA qp q qc cm wo dg) ++ ((wC kA qc q cn sd bt fi se tl ax cf ow ho ov cs) ++ (wT kA q cc ac co ad rc nm st an))) (tyK kA)) (vp_Si (fun r : Int32 => r = (nI (skN ac c m cc)))) 0 0 (fun _ => False) := by
  refine Met.ofW (cc := cX2_stateKnowing) (maxL := 5) (ret := (some .int)) (by decide) rfl ?_
  intro pQ eQ s mQ args below meth cQ s₁ B hml hv
  obtain ⟨rfl, hP, hK, hE⟩ := hv
  have hx := B.exec
  have hb := B.bytes
  have hr := B.returns
  have hts := atoms_spec (ws := wsX2_stateKnowing) B.pre
  have hown : s.vm.findClass RX2 = some mQ.cls := findClass_of_methodNamed B.named
  have hlocks : meth.locks = false := B.notSynchronized
  have hS0 : CallFix pQ mQ cQ cX2_stateKnowing 5 s ([.ref (qp 0), .int (nI c), .int (nI m)] : List Value).toArray wsX2_stateKnowing RX2 := ⟨hx, hb, hml, hown, hts⟩
  have f21 : (Cond.fieldLink RX2 21 "AskedRules$Plans" "table" "LAskedRules$Table;").before ([.ref (qp 0), .int (nI c), .int (nI m)] : List Value).toArray s = true := hts _ (by decide +kernel)
  have hinX2 : ∀ w ∈ wsX20, w ∈ wsX2_stateKnowing := by decide +kernel
  have f29 : (Cond.fieldLink RX2 29 "AskedRules$Table" "conditionCount" "I").before ([.ref (qp 0), .int (nI c), .int (nI m)] : List Value).toArray s = true := hts _ (by decide +kernel)
  have hinX4 : ∀ w ∈ wsX40, w ∈ wsX2_stateKnowing := by decide +kernel
  have f25 : (Cond.fieldLink RX2 25 "AskedRules$Plans" "cases" "LAskedRules$Cases;").before ([.ref (qp 0), .int (nI c), .int (nI m)] : List Value).toArray s = true := hts _ (by decide +kernel)
  have f38 : (Cond.fieldLink RX2 38 "AskedRules$Plans" "POWER" "[I").before ([.ref (qp 0), .int (nI c), .int (nI m)] : List Value).toArray s = true := hts _ (by decide +kernel)
  have hl := lv_entry ([.ref (qp 0), .int (nI c), .int (nI m)]) (n := 5) (Nat.le_of_ble_eq_true rfl)
  rw [lg_entry_eq]
  generalize (lg_sl ([.ref (qp 0), .int (nI c), .int (nI m)]) ++ List.replicate (5 - (lg_sl ([.ref (qp 0), .int (nI c), .int (nI m)])).length) Slot.unset).toArray = ls at hl ⊢
  have hl : lv_has ls 5 [(0, .ref (qp 0)), (1, .int (nI c)), (2, .int (nI m))] := hl
  have hP : va_P D vwCl ((wP kA qp q qc cm wo dg) ++ ((wC kA qc q cn sd bt fi se tl ax cf ow ho ov cs) ++ (wT kA q cc ac co ad rc nm st an))) s.heap := hP
  obtain ⟨tP, hZP, hTP⟩ := hE.1
  refine lv_iconst (v := (nI 0)) hx hb dX2_stateKnowing_0 (by decide) ?_
  refine lv_istore_n (lv' := [(3, .int (nI 0)), (0, .ref (qp 0)), (1, .int (nI c)), (2, .int (nI m))]) hx hb dX2_stateKnowing_1 rfl hl (by decide) rfl (fun ls hl => ?_)
  refine lv_iconst (v := (nI 0)) hx hb dX2_stateKnowing_2 (by decide) ?_
  refine lv_istore (lv' := [(4, .int (nI 0)), (3, .int (nI 0)), (0, .ref (qp 0)), (1, .int (nI c)), (2, .int (nI m))]) hx hb dX2_stateKnowing_3 hl (by decide) rfl (fun ls hl => ?_)
  have L5 : ∀ (nQ : Nat) (k : Nat) (u : Nat), cc - k < nQ → (k ≤ cc) → (u = skN ac c m k) → ∀ (ls : Array Slot), lv_has ls 5 [(4, .int (nI k)), (3, .int (nI u)), (0, .ref (qp 0)), (1, .int (nI c)), (2, .int (nI m))] → W pQ lQ eQ (headSpec wsX2_stateKnowing (rmN 1 24)).room s mQ ([.ref (qp 0), .int (nI c), .int (nI m)] : List Value).toArray below meth cQ s.heap [] 0 0 (MQ below (vp_Si (fun r : Int32 => r = (nI (skN ac c m cc)))) ([.ref (qp 0), .int (nI c), .int (nI m)] : List Value).toArray s 0 0 (fun _ => False)) (F0 mQ 5 ls []) := by
    intro nQ
    induction nQ with
    | zero => intro k u hn; exact absurd hn (Nat.not_lt_zero _)
    | succ nQ ih5 =>
      intro k u hm5 hk hu ls hl
      refine lv_iload hx hb dX2_stateKnowing_5 (lv_at hl 0 rfl) ?_
      refine lv_aload_n hx hb dX2_stateKnowing_7 rfl (lv_at hl 2 rfl) ?_
      refine n_get (ci := 2) (v := .ref (q 0)) (C := RX2) (T := TX2) (N := 5) hx hb hts hinX2 hown hK hP 0 rfl rfl 0 rfl ⟨rfl, rfl, rfl⟩ f21 rfl dX2_stateKnowing_8 ?_
      refine n_get (ci := 4) (v := .int (nI cc)) (C := RX4) (T := TX4) (N := 8) hx hb hts hinX4 hown hK hP 13 rfl rfl 0 rfl ⟨rfl, rfl, rfl⟩ f29 rfl dX2_stateKnowing_11 ?_
      refine n_icmp_ge (a := k) (b := cc) (tgt := 55) hx hb (by omega) (by omega) dX2_stateKnowing_14 (by decide) (fun c14 => ?_) (fun c14 => ?_)
      · refine lv_iload_n hx hb dX2_stateKnowing_55 rfl (lv_at hl 1 rfl) ?_
        have e9 : cc = k := by omega
        exact n_reti hx hb hr hlocks (post := fun r : Int32 => r = (nI (skN ac c m cc))) (by rw [hu, e9]) rfl dX2_stateKnowing_56
      · refine lv_iload_n hx hb dX2_stateKnowing_17 rfl (lv_at hl 4 rfl) ?_
        refine lv_iload hx hb dX2_stateKnowing_18 (lv_at hl 0 rfl) ?_
        refine n_ishr (v := (nI (m >>> k))) hx hb (nN_shr (by omega) (by omega)) dX2_stateKnowing_20 ?_
        refine lv_iconst (v := (nI 1)) hx hb dX2_stateKnowing_21 (by decide) ?_
        refine n_iand (v := (nI ((m >>> k) &&& 1))) hx hb (nN_and _ _) dX2_stateKnowing_22 ?_
        refine lv_iconst (v := (nI 1)) hx hb dX2_stateKnowing_23 (by decide) ?_
        refine n_icmp_ne (a := (m >>> k) &&& 1) (b := 1) (tgt := 49) hx hb (Nat.lt_of_le_of_lt Nat.and_le_right (by decide)) (by decide) dX2_stateKnowing_24 (by decide) (fun c24 => ?_) (fun c24 => ?_)
        · refine lv_iinc (v := (nI (k + 1))) (lv' := [(4, .int (nI (k + 1))), (3, .int (nI u)), (0, .ref (qp 0)), (1, .int (nI c)), (2, .int (nI m))]) hx hb dX2_stateKnowing_49 hl (k := 0) rfl (nI_inc _) (by decide) rfl (fun ls hl => ?_)
          refine lv_goto (tgt := 5) hx hb dX2_stateKnowing_52 (by decide) ?_
          exact ih5 (k + 1) u (by omega) (by first | assumption | omega) (by rw [hu]; show _ = sumF (fun k => skD ac c m k * 5 ^ k) k + skD ac c m k * 5 ^ k; unfold skD; first | (rw [if_pos c24]; rfl) | (rw [if_neg c24, Nat.zero_mul, Nat.add_zero]; rfl)) _ (lv_sub hl [0, 1, 2, 3, 4] rfl)
        · refine lv_iload_n hx hb dX2_stateKnowing_27 rfl (lv_at hl 1 rfl) ?_
          refine lv_aload_n hx hb dX2_stateKnowing_28 rfl (lv_at hl 2 rfl) ?_
          refine n_get (ci := 2) (v := .ref (qc 0)) (C := RX2) (T := TX2) (N := 5) hx hb hts hinX2 hown hK hP 0 rfl rfl 1 rfl ⟨rfl, rfl, rfl⟩ f25 rfl dX2_stateKnowing_29 ?_
          refine lv_iload_n hx hb dX2_stateKnowing_32 rfl (lv_at hl 3 rfl) ?_
          refine lv_iload hx hb dX2_stateKnowing_33 (lv_at hl 0 rfl) ?_
          refine n_cV (b := qc 0) (As := [.int (nI c), .int (nI k)]) (rest := [.int (nI u)]) (wc := ((wC kA qc q cn sd bt fi se tl ax cf ow ho ov cs) ++ (wT kA q cc ac co ad rc nm st an))) hS0 (c_X0_answer lQ D kA qc cn sd bt fi se tl ax cf ow ho ov cs q cc ac co ad rc nm st an c k (digF ac k c) (by first | assumption | omega) (by omega) (by rw [hbt]; exact bitC_lt20 _ hcc hac) (Nat.lt_of_lt_of_le (digF_lt (by have := hac k c14; omega)) (hac k c14).2) (by rw [hbt]; exact nib_bitC hcc hac c14)) (cwV 2 hts gX2_stateKnowing_X0_answer rfl rfl rfl (by decide +kernel) ⟨Nat.le_of_ble_eq_true rfl, Nat.le_of_ble_eq_true rfl⟩) (hP.mem (ws' := ((wC kA qc q cn sd bt fi se tl ax cf ow ho ov cs) ++ (wT kA q cc ac co ad rc nm st an))) (fun qQ h => (show _ from ((by simpa only [List.append_assoc, List.append_nil] using (((List.Perm.append_left _ (List.Perm.refl _)).trans (List.perm_append_comm_assoc _ _ _)).trans (List.Perm.append_left _ List.perm_append_comm))) : List.Perm ((wP kA qp q qc cm wo dg) ++ ((wC kA qc q cn sd bt fi se tl ax cf ow ho ov cs) ++ (wT kA q cc ac co ad rc nm st an))) (((wC kA qc q cn sd bt fi se tl ax cf ow ho ov cs) ++ (wT kA q cc ac co ad rc nm st an)) ++ (wP kA qp q qc cm wo dg))).mem_iff.mpr (List.mem_append_left _ h)))) hK (q0 := 0) rfl rfl rfl rfl rfl hl.1 (Nat.le_of_ble_eq_true rfl) dX2_stateKnowing_35 ⟨Nat.le_refl _, Nat.le_refl _⟩ (fun r35 h35 => ?_)
          subst h35
          refine lv_iconst (v := (nI 1)) hx hb dX2_stateKnowing_38 (by decide) ?_
          refine n_iadd (v := (nI (digF ac k c + 1))) hx hb (nI_add _ _) dX2_stateKnowing_39 ?_
          refine va_gets (C := "AskedRules$Plans") hx hb hZP va_S.rf hown f38 (fun _ h9 => h9) dX2_stateKnowing_40 ?_
          refine lv_iload hx hb dX2_stateKnowing_43 (lv_at hl 0 rfl) ?_
          refine n_tald (i := k) hx hb hTP va_S.rf (by omega) dX2_stateKnowing_45 ?_
          refine n_imul (v := (nI ((digF ac k c + 1) * (5 ^ k)))) hx hb (pk_mul _ _) dX2_stateKnowing_46 ?_
          refine n_iadd (v := (nI (u + ((digF ac k c + 1) * (5 ^ k))))) hx hb (nI_add _ _) dX2_stateKnowing_47 ?_
          refine lv_istore_n (lv' := [(3, .int (nI (u + ((digF ac k c + 1) * (5 ^ k))))), (4, .int (nI k)), (0, .ref (qp 0)), (1, .int (nI c)), (2, .int (nI m))]) hx hb dX2_stateKnowing_48 rfl hl (by decide) rfl (fun ls hl => ?_)
          refine lv_iinc (v := (nI (k + 1))) (lv' := [(4, .int (nI (k + 1))), (3, .int (nI (u + ((digF ac k c + 1) * (5 ^ k))))), (0, .ref (qp 0)), (1, .int (nI c)), (2, .int (nI m))]) hx hb dX2_stateKnowing_49 hl (k := 1) rfl (nI_inc _) (by decide) rfl (fun ls hl => ?_)
          refine lv_goto (tgt := 5) hx hb dX2_stateKnowing_52 (by decide) ?_
          exact ih5 (k + 1) (u + ((digF ac k c + 1) * (5 ^ k))) (by omega) (by first | assumption | omega) (by rw [hu]; show _ = sumF (fun k => skD ac c m k * 5 ^ k) k + skD ac c m k * 5 ^ k; unfold skD; first | (rw [if_pos c24]; rfl) | (rw [if_neg c24, Nat.zero_mul, Nat.add_zero]; rfl)) _ (lv_sub hl [0, 1, 2, 3, 4] rfl)
  exact L5 ((cc - 0) + 1) 0 0 (Nat.lt_succ_self _) (by first | assumption | omega) rfl _ (lv_sub hl [0, 1, 2, 3, 4] rfl)

set_option maxHeartbeats 4000000 in
set_option maxRecDepth 100000 in
theorem c_X2_worstWith (lQ : Launch) (D : va_G) (kA : Nat → ClassId) (adK adV : Nat → Nat) (qp : Nat → Nat) (cm : Nat → Nat) (wo : Nat → Nat) (dg : Nat → Nat) (qc : Nat → Nat) (cn : Nat) (sd : Nat → Nat) (bt : Nat → Nat) (fi : Nat → Option Nat) (se : Nat → Option Nat) (tl : Nat → Nat) (ax : Nat → Nat) (cf : Nat → Bool) (ow : Nat → Nat) (ho : Nat) (ov : Nat) (cs : Nat) (q : Nat → Nat) (cc : Nat) (ac : Nat → Nat) (co : Nat → Nat) (ad : Nat) (rc : Nat) (nm : Nat → Nat) (st : Nat → Nat) (an : Nat → Nat) (c : Nat) (a : Nat) (a0 : Nat) (sz : Nat) (hcc : cc ≤ 5) (hac : ∀ k, k < cc → 2 ≤ ac k ∧ ac k ≤ 4) (hco : ∀ k, k < cc → co k < 10) (hcm : ∀ y, y < 3125 → cm y < 12) (hwo : ∀ y, y < 3125 → wo y ≤ 100) (hsd : ∀ k, k < cc → sd k = prodF ac k) (hbt : bt c = bitC ac c cc) (hax : ∀ c, c < prodF ac cc → ax c < 11) (hc : c < prodF ac cc) (ha : a < 11) (ha0 : a0 < 11) (hpl : plOK cc ac co sd (va_up ax c a0) cm wo) : Met lQ yX2_worstWith wsX2_worstWith (rmN 3 71) (wrE_Pc D vwCl adK adV [.ref (qp 0), .int (nI c), .int (nI a)] ((wP kA qp q qc cm wo dg) ++ ((wC kA qc q cn sd bt fi se tl ax cf ow ho ov cs) ++ (wT kA q cc ac co ad rc nm st an))) (tyK kA) sz) (va_Qi (S := (Nat → Nat) × (Nat → Nat) × (Nat → Nat)) (fun (r : Int32) (u : (Nat → Nat) × (Nat → Nat) × (Nat → Nat)) => r = (nI (u.2.1 0)) ∧ plOK cc ac co sd (va_up ax c a) u.1 u.2.1 ∧ (∀ y, y < 3125 → u.1 y < 12) ∧ (∀ y, y < 3125 → u.2.1 y ≤ 100)) (wr_B D vwCl ((wP kA qp q qc cm wo dg) ++ ((wC kA qc q cn sd bt fi se tl ax cf ow ho ov cs) ++ (wT kA q cc ac co ad rc nm st an))) (tyK kA) sz (fun u => ((wP kA qp q qc u.1 u.2.1 u.2.2) ++ ((wC kA qc q cn sd bt fi se tl ax cf ow ho ov cs) ++ (wT kA q cc ac co ad rc nm st an))))) (va_A ((wP kA qp q qc cm wo dg) ++ ((wC kA qc q cn sd bt fi se tl ax cf ow ho ov cs) ++ (wT kA q cc ac co ad rc nm st an))) sz)) 0 0 (va_A ((wP kA qp q qc cm wo dg) ++ ((wC kA qc q cn sd bt fi se tl ax cf ow ho ov cs) ++ (wT kA q cc ac co ad rc nm st an))) sz) := by
  refine Met.ofW (cc := cX2_worstWith) (maxL := 6) (ret := (some .int)) (by decide) rfl ?_
  intro pQ eQ s mQ args below meth cQ s₁ B hml hv
  obtain ⟨rfl, hsz, hP, hK, hD0, hE⟩ := hv
  have hx := B.exec
  have hb := B.bytes
  have hr := B.returns
  have hts := atoms_spec (ws := wsX2_worstWith) B.pre
  have hown : s.vm.findClass RX2 = some mQ.cls := findClass_of_methodNamed B.named
  have hlocks : meth.locks = false := B.notSynchronized
  have hS0 : CallFix pQ mQ cQ cX2_worstWith 6 s ([.ref (qp 0), .int (nI c), .int (nI a)] : List Value).toArray wsX2_worstWith RX2 := ⟨hx, hb, hml, hown, hts⟩
  subst hsz
  have hD := hD0.self (sz := s.heap.size)
  generalize hAe : va_A ((wP kA qp q qc cm wo dg) ++ ((wC kA qc q cn sd bt fi se tl ax cf ow ho ov cs) ++ (wT kA q cc ac co ad rc nm st an))) s.heap.size = A at hD hE ⊢
  have hA : ∀ q : Nat, s.heap.size ≤ q → A q := fun q h => by rw [← hAe]; exact Or.inr h
  have hS : va_S A s.heap s.heap [] := va_S.rf
  have f21 : (Cond.fieldLink RX2 21 "AskedRules$Plans" "table" "LAskedRules$Table;").before ([.ref (qp 0), .int (nI c), .int (nI a)] : List Value).toArray s = true := hts _ (by decide +kernel)
  have hinX2 : ∀ w ∈ wsX20, w ∈ wsX2_worstWith := by decide +kernel
  have f29 : (Cond.fieldLink RX2 29 "AskedRules$Table" "conditionCount" "I").before ([.ref (qp 0), .int (nI c), .int (nI a)] : List Value).toArray s = true := hts _ (by decide +kernel)
  have hinX4 : ∀ w ∈ wsX40, w ∈ wsX2_worstWith := by decide +kernel
  have f11 : (Cond.fieldLink RX2 11 "AskedRules$Plans" "common" "[I").before ([.ref (qp 0), .int (nI c), .int (nI a)] : List Value).toArray s = true := hts _ (by decide +kernel)
  have f15 : (Cond.fieldLink RX2 15 "AskedRules$Plans" "worst" "[I").before ([.ref (qp 0), .int (nI c), .int (nI a)] : List Value).toArray s = true := hts _ (by decide +kernel)
  have hl := lv_entry ([.ref (qp 0), .int (nI c), .int (nI a)]) (n := 6) (Nat.le_of_ble_eq_true rfl)
  rw [lg_entry_eq]
  generalize (lg_sl ([.ref (qp 0), .int (nI c), .int (nI a)]) ++ List.replicate (6 - (lg_sl ([.ref (qp 0), .int (nI c), .int (nI a)])).length) Slot.unset).toArray = ls at hl ⊢
  have hl : lv_has ls 6 [(0, .ref (qp 0)), (1, .int (nI c)), (2, .int (nI a))] := hl
  have hP : va_P D vwCl ((wP kA qp q qc cm wo dg) ++ ((wC kA qc q cn sd bt fi se tl ax cf ow ho ov cs) ++ (wT kA q cc ac co ad rc nm st an))) s.heap := hP
  have hD : va_D A ((wP kA qp q qc cm wo dg) ++ ((wC kA qc q cn sd bt fi se tl ax cf ow ho ov cs) ++ (wT kA q cc ac co ad rc nm st an))) := hD
  obtain ⟨tP, hZP, hTP⟩ := hE.1
  have hc10 := Nat.lt_of_lt_of_le hc (prodF_1024 hcc hac)
  have hsk : ∀ m, skN ac c m cc < 3125 := fun m => Nat.lt_of_lt_of_le (skN_lt hac) (p5_3125 hcc)
  have hall : (1 <<< cc) - 1 < 32 := by
    have : ∀ n, n < 6 → (1 <<< n) - 1 < 32 := by decide
    exact this cc (by omega)
  refine lv_iconst (v := (nI 1)) hx hb dX2_worstWith_0 (by decide) ?_
  refine lv_aload_n hx hb dX2_worstWith_1 rfl (lv_at hl 0 rfl) ?_
  refine n_get (ci := 2) (v := .ref (q 0)) (C := RX2) (T := TX2) (N := 5) hx hb hts hinX2 hown hK hP 0 rfl rfl 0 rfl ⟨rfl, rfl, rfl⟩ f21 rfl dX2_worstWith_2 ?_
  refine n_get (ci := 4) (v := .int (nI cc)) (C := RX4) (T := TX4) (N := 8) hx hb hts hinX4 hown hK hP 13 rfl rfl 0 rfl ⟨rfl, rfl, rfl⟩ f29 rfl dX2_worstWith_5 ?_
  refine n_ishl (v := (nI (1 <<< cc))) hx hb (nN_shl _ (by omega)) dX2_worstWith_8 ?_
  refine lv_iconst (v := (nI 1)) hx hb dX2_worstWith_9 (by decide) ?_
  refine n_isub (v := (nI ((1 <<< cc) - 1))) hx hb (pk_sub (one_shl _)) dX2_worstWith_10 ?_
  refine lv_istore_n (lv' := [(3, .int (nI ((1 <<< cc) - 1))), (0, .ref (qp 0)), (1, .int (nI c)), (2, .int (nI a))]) hx hb dX2_worstWith_11 rfl hl (by decide) rfl (fun ls hl => ?_)
  refine lv_aload_n hx hb dX2_worstWith_12 rfl (lv_at hl 1 rfl) ?_
  refine n_get (ci := 2) (v := .ref (qp 1)) (C := RX2) (T := TX2) (N := 5) hx hb hts hinX2 hown hK hP 0 rfl rfl 2 rfl ⟨rfl, rfl, rfl⟩ f11 rfl dX2_worstWith_13 ?_
  refine lv_aload_n hx hb dX2_worstWith_16 rfl (lv_at hl 1 rfl) ?_
  refine lv_iload_n hx hb dX2_worstWith_17 rfl (lv_at hl 2 rfl) ?_
  refine lv_iload_n hx hb dX2_worstWith_18 rfl (lv_at hl 0 rfl) ?_
  refine n_cVE (b := qp 0) (As := [.int (nI c), .int (nI ((1 <<< cc) - 1))]) (rest := [.ref (qp 1)]) (wc := ((wP kA qp q qc cm wo dg) ++ ((wC kA qc q cn sd bt fi se tl ax cf ow ho ov cs) ++ (wT kA q cc ac co ad rc nm st an)))) hS0 (c_X2_stateKnowing lQ D kA adK adV qp cm wo dg qc cn sd bt fi se tl ax cf ow ho ov cs q cc ac co ad rc nm st an c ((1 <<< cc) - 1) (by first | assumption | omega) (by first | assumption | omega) (by first | assumption | omega) (by first | assumption | omega) (by first | assumption | omega)) (cwV 2 hts gX2_worstWith_X2_stateKnowing rfl rfl rfl (by decide +kernel) ⟨Nat.le_of_ble_eq_true rfl, Nat.le_of_ble_eq_true rfl⟩) hP hK (q0 := 0) rfl rfl rfl hE hS rfl rfl hl.1 (Nat.le_of_ble_eq_true rfl) dX2_worstWith_19 ⟨Nat.le_refl _, Nat.le_refl _⟩ (fun r19 h19 => ?_)
  subst h19
  refine lv_iload_n hx hb dX2_worstWith_22 rfl (lv_at hl 3 rfl) ?_
  refine n_iast (i := skN ac c ((1 <<< cc) - 1) cc) (x := (nI a)) (g := aN (va_up cm (skN ac c ((1 <<< cc) - 1) cc) a)) (ws' := ((wP kA qp q qc (va_up cm (skN ac c ((1 <<< cc) - 1) cc) a) wo dg) ++ ((wC kA qc q cn sd bt fi se tl ax cf ow ho ov cs) ++ (wT kA q cc ac co ad rc nm st an)))) hx hb hK hP hD hS 1 0 rfl rfl (hsk _) (Nat.le_of_ble_eq_true rfl) (aN_up _ _ _) rfl dX2_worstWith_23 (fun H locs hP hD hS => ?_)
  refine lv_iload_n hx hb dX2_worstWith_24 rfl (lv_at hl 0 rfl) ?_
  refine lv_iconst (v := (nI 1)) hx hb dX2_worstWith_25 (by decide) ?_
  refine n_isub (v := (oI (dO ((1 <<< cc) - 1)))) hx hb (oI_dO _) dX2_worstWith_26 ?_
  refine lv_istore (lv' := [(4, .int (oI (dO ((1 <<< cc) - 1)))), (3, .int (nI ((1 <<< cc) - 1))), (0, .ref (qp 0)), (1, .int (nI c)), (2, .int (nI a))]) hx hb dX2_worstWith_27 hl (by decide) rfl (fun ls hl => ?_)
  have L29 : ∀ (nQ : Nat) (m9 : Nat) (cmx : Nat → Nat) (wox : Nat → Nat) (dgx : Nat → Nat), m9 < nQ → (m9 ≤ ((1 <<< cc) - 1)) → (∀ y, y < 5 ^ cc → valB ac y cc = true → (∀ j, j < m9 → y ≠ skN ac c j cc) → stOK cc ac co sd (va_up ax c a) cmx wox y) → (∀ y, y < 3125 → cmx y < 12) → (∀ y, y < 3125 → wox y ≤ 100) → ∀ (H : Heap) (locs : List Loc), va_P D vwCl ((wP kA qp q qc cmx wox dgx) ++ ((wC kA qc q cn sd bt fi se tl ax cf ow ho ov cs) ++ (wT kA q cc ac co ad rc nm st an))) H → va_D A ((wP kA qp q qc cmx wox dgx) ++ ((wC kA qc q cn sd bt fi se tl ax cf ow ho ov cs) ++ (wT kA q cc ac co ad rc nm st an))) → va_S A s.heap H locs → ∀ (ls : Array Slot), lv_has ls 6 [(4, .int (oI (dO m9))), (3, .int (nI ((1 <<< cc) - 1))), (0, .ref (qp 0)), (1, .int (nI c)), (2, .int (nI a))] → W pQ lQ eQ (headSpec wsX2_worstWith (rmN 3 71)).room s mQ ([.ref (qp 0), .int (nI c), .int (nI a)] : List Value).toArray below meth cQ H locs 0 0 (MQ below (va_Qi (S := (Nat → Nat) × (Nat → Nat) × (Nat → Nat)) (fun (r : Int32) (u : (Nat → Nat) × (Nat → Nat) × (Nat → Nat)) => r = (nI (u.2.1 0)) ∧ plOK cc ac co sd (va_up ax c a) u.1 u.2.1 ∧ (∀ y, y < 3125 → u.1 y < 12) ∧ (∀ y, y < 3125 → u.2.1 y ≤ 100)) (wr_B D vwCl ((wP kA qp q qc cm wo dg) ++ ((wC kA qc q cn sd bt fi se tl ax cf ow ho ov cs) ++ (wT kA q cc ac co ad rc nm st an))) (tyK kA) s.heap.size (fun u => ((wP kA qp q qc u.1 u.2.1 u.2.2) ++ ((wC kA qc q cn sd bt fi se tl ax cf ow ho ov cs) ++ (wT kA q cc ac co ad rc nm st an))))) A) ([.ref (qp 0), .int (nI c), .int (nI a)] : List Value).toArray s 0 0 A) (F0 mQ 29 ls []) := by
    intro nQ
    induction nQ with
    | zero => intro m9 cmx wox dgx hn; exact absurd hn (Nat.not_lt_zero _)
    | succ nQ ih29 =>
      intro m9 cmx wox dgx hm29 hm hok hcmx hwox H locs hP hD hS ls hl
      refine lv_iload hx hb dX2_worstWith_29 (lv_at hl 0 rfl) ?_
      refine n_ifo_lt (o := dO m9) (tgt := 64) hx hb (fun q h => by have := dO_some h; omega) dX2_worstWith_31 (by decide) (fun c31 => ?_) (fun q31 c31 => ?_)
      · have hl : lv_has ls 6 [(4, .int (oI none)), (3, .int (nI ((1 <<< cc) - 1))), (0, .ref (qp 0)), (1, .int (nI c)), (2, .int (nI a))] := by rw [c31] at hl; exact hl
        refine lv_aload_n hx hb dX2_worstWith_64 rfl (lv_at hl 2 rfl) ?_
        refine n_get (ci := 2) (v := .ref (qp 2)) (C := RX2) (T := TX2) (N := 5) hx hb hts hinX2 hown hK hP 0 rfl rfl 3 rfl ⟨rfl, rfl, rfl⟩ f15 rfl dX2_worstWith_65 ?_
        refine lv_iconst (v := (nI 0)) hx hb dX2_worstWith_68 (by decide) ?_
        refine n_iald (i := 0) (v := (nI (wox 0))) hx hb hK hP 2 0 rfl rfl (by omega) (Nat.le_of_ble_eq_true rfl) rfl dX2_worstWith_69 ?_
        have hm0 := dO_none c31
        exact n_wreti hx hb hr hlocks (post := fun (r : Int32) (u : (Nat → Nat) × (Nat → Nat) × (Nat → Nat)) => r = (nI (u.2.1 0)) ∧ plOK cc ac co sd (va_up ax c a) u.1 u.2.1 ∧ (∀ y, y < 3125 → u.1 y < 12) ∧ (∀ y, y < 3125 → u.2.1 y ≤ 100)) (w1 := fun u => ((wP kA qp q qc u.1 u.2.1 u.2.2) ++ ((wC kA qc q cn sd bt fi se tl ax cf ow ho ov cs) ++ (wT kA q cc ac co ad rc nm st an)))) (cmx, wox, dgx) ⟨rfl, fun y hy hv => hok y hy hv (fun j hj => absurd hj (by omega)), hcmx, hwox⟩ hP hD hK hS hAe dX2_worstWith_70
      · have hl : lv_has ls 6 [(4, .int (nI q31)), (3, .int (nI ((1 <<< cc) - 1))), (0, .ref (qp 0)), (1, .int (nI c)), (2, .int (nI a))] := by rw [c31] at hl; exact hl
        have hmq9 := dO_some c31
        refine lv_aload_n hx hb dX2_worstWith_34 rfl (lv_at hl 2 rfl) ?_
        refine lv_iload_n hx hb dX2_worstWith_35 rfl (lv_at hl 3 rfl) ?_
        refine lv_iload hx hb dX2_worstWith_36 (lv_at hl 0 rfl) ?_
        refine n_cVE (b := qp 0) (As := [.int (nI c), .int (nI q31)]) (rest := []) (wc := ((wP kA qp q qc cmx wox dgx) ++ ((wC kA qc q cn sd bt fi se tl ax cf ow ho ov cs) ++ (wT kA q cc ac co ad rc nm st an)))) hS0 (c_X2_stateKnowing lQ D kA adK adV qp cmx wox dgx qc cn sd bt fi se tl ax cf ow ho ov cs q cc ac co ad rc nm st an c q31 (by first | assumption | omega) (by first | assumption | omega) (by first | assumption | omega) (by first | assumption | omega) (by first | assumption | omega)) (cwV 2 hts gX2_worstWith_X2_stateKnowing rfl rfl rfl (by decide +kernel) ⟨Nat.le_of_ble_eq_true rfl, Nat.le_of_ble_eq_true rfl⟩) hP hK (q0 := 0) rfl rfl rfl hE hS rfl rfl hl.1 (Nat.le_of_ble_eq_true rfl) dX2_worstWith_38 ⟨Nat.le_refl _, Nat.le_refl _⟩ (fun r38 h38 => ?_)
        subst h38
        refine lv_istore (lv' := [(5, .int (nI (skN ac c q31 cc))), (4, .int (nI q31)), (3, .int (nI ((1 <<< cc) - 1))), (0, .ref (qp 0)), (1, .int (nI c)), (2, .int (nI a))]) hx hb dX2_worstWith_41 hl (by decide) rfl (fun ls hl => ?_)
        refine lv_aload_n hx hb dX2_worstWith_43 rfl (lv_at hl 3 rfl) ?_
        refine lv_iload hx hb dX2_worstWith_44 (lv_at hl 0 rfl) ?_
        refine n_wVi (b := qp 0) (As := [.int (nI (skN ac c q31 cc))]) (rest := []) (wr := []) (ws' := fun u => ((wP kA qp q qc cmx wox u) ++ ((wC kA qc q cn sd bt fi se tl ax cf ow ho ov cs) ++ (wT kA q cc ac co ad rc nm st an)))) hS0 (c_X2_readDigits lQ D kA qp cmx wox dgx qc cn sd bt fi se tl ax cf ow ho ov cs q cc ac co ad rc nm st an (skN ac c q31 cc) H.size (by first | assumption | omega) (by first | assumption | omega) (hsk _)) (cwV 1 hts gX2_worstWith_X2_readDigits rfl rfl rfl (by decide +kernel) ⟨Nat.le_of_ble_eq_true rfl, Nat.le_of_ble_eq_true rfl⟩) hP hD hS hA hK hK (by simpa only [List.append_assoc, List.append_nil] using ((List.Perm.refl _).trans (List.Perm.append_left _ ((List.Perm.refl _).trans (List.Perm.append_left _ (List.Perm.of_eq (List.append_nil _).symm)))))) (fun u => List.Perm.symm (by simpa only [List.append_assoc, List.append_nil] using ((List.Perm.refl _).trans (List.Perm.append_left _ ((List.Perm.refl _).trans (List.Perm.append_left _ (List.Perm.of_eq (List.append_nil _).symm))))))) (q0 := 0) rfl rfl rfl rfl rfl hl.1 (Nat.le_of_ble_eq_true rfl) dX2_worstWith_46 ⟨Nat.le_refl _, Nat.le_refl _⟩ (fun r46 u46 H locs h46 hP hD hS => ?_)
        obtain ⟨dg1_46, rfl⟩ : ∃ z, z = u46 := ⟨_, rfl⟩
        obtain ⟨rfl, h46_1⟩ := h46
        have hP : va_P D vwCl ((wP kA qp q qc cmx wox dg1_46) ++ ((wC kA qc q cn sd bt fi se tl ax cf ow ho ov cs) ++ (wT kA q cc ac co ad rc nm st an))) H := hP
        have hD : va_D A ((wP kA qp q qc cmx wox dg1_46) ++ ((wC kA qc q cn sd bt fi se tl ax cf ow ho ov cs) ++ (wT kA q cc ac co ad rc nm st an))) := hD
        have hdq := h46_1
        have hv9 : valB ac (skN ac c q31 cc) cc = true := skN_val hac
        refine n_ifb_eq (b := valB ac (skN ac c q31 cc) cc) (tgt := 58) hx hb dX2_worstWith_49 (by decide) (fun c49 => ?_) (fun c49 => ?_)
        · exact absurd hv9 (by rw [c49]; decide)
        · refine lv_aload_n hx hb dX2_worstWith_52 rfl (lv_at hl 3 rfl) ?_
          refine lv_iload hx hb dX2_worstWith_53 (lv_at hl 0 rfl) ?_
          refine n_wVvE (b := qp 0) (As := [.int (nI (skN ac c q31 cc))]) (rest := []) (wr := []) (ws' := fun u => ((wP kA qp q qc (va_up cmx (skN ac c q31 cc) (cmN cc ac sd ax cmx dg1_46 (skN ac c q31 cc))) (va_up wox (skN ac c q31 cc) (woN cc ac co wox dg1_46 (skN ac c q31 cc) (cmN cc ac sd ax cmx dg1_46 (skN ac c q31 cc)))) dg1_46) ++ ((wC kA qc q cn sd bt fi se tl ax cf ow ho ov cs) ++ (wT kA q cc ac co ad rc nm st an)))) hS0 (c_X2_weigh lQ D kA adK adV qp cmx wox dg1_46 qc cn sd bt fi se tl ax cf ow ho ov cs q cc ac co ad rc nm st an (skN ac c q31 cc) H.size (by first | assumption | omega) (by first | assumption | omega) (by first | assumption | omega) (skN_lt hac) (hdq hv9) (by first | assumption | omega) (by first | assumption | omega) (fun h => rf_cs hcc hac hsd hax (hdq hv9) (valB_i hv9) h)) (cwV 1 hts gX2_worstWith_X2_weigh rfl rfl rfl (by decide +kernel) ⟨Nat.le_of_ble_eq_true rfl, Nat.le_of_ble_eq_true rfl⟩) hP hD hS hE hA hK hK (by simpa only [List.append_assoc, List.append_nil] using ((List.Perm.refl _).trans (List.Perm.append_left _ ((List.Perm.refl _).trans (List.Perm.append_left _ (List.Perm.of_eq (List.append_nil _).symm)))))) (fun u => List.Perm.symm (by simpa only [List.append_assoc, List.append_nil] using ((List.Perm.refl _).trans (List.Perm.append_left _ ((List.Perm.refl _).trans (List.Perm.append_left _ (List.Perm.of_eq (List.append_nil _).symm))))))) (q0 := 0) rfl rfl rfl rfl rfl hl.1 (Nat.le_of_ble_eq_true rfl) dX2_worstWith_55 ⟨Nat.le_refl _, Nat.le_refl _⟩ (fun u55 H locs h55 hP hD hS => ?_)
          have hP : va_P D vwCl ((wP kA qp q qc (va_up cmx (skN ac c q31 cc) (cmN cc ac sd ax cmx dg1_46 (skN ac c q31 cc))) (va_up wox (skN ac c q31 cc) (woN cc ac co wox dg1_46 (skN ac c q31 cc) (cmN cc ac sd ax cmx dg1_46 (skN ac c q31 cc)))) dg1_46) ++ ((wC kA qc q cn sd bt fi se tl ax cf ow ho ov cs) ++ (wT kA q cc ac co ad rc nm st an))) H := hP
          have hD : va_D A ((wP kA qp q qc (va_up cmx (skN ac c q31 cc) (cmN cc ac sd ax cmx dg1_46 (skN ac c q31 cc))) (va_up wox (skN ac c q31 cc) (woN cc ac co wox dg1_46 (skN ac c q31 cc) (cmN cc ac sd ax cmx dg1_46 (skN ac c q31 cc)))) dg1_46) ++ ((wC kA qc q cn sd bt fi se tl ax cf ow ho ov cs) ++ (wT kA q cc ac co ad rc nm st an))) := hD
          refine lv_iinc (v := (oI (dO q31))) (lv' := [(4, .int (oI (dO q31))), (5, .int (nI (skN ac c q31 cc))), (3, .int (nI ((1 <<< cc) - 1))), (0, .ref (qp 0)), (1, .int (nI c)), (2, .int (nI a))]) hx hb dX2_worstWith_58 hl (k := 1) rfl (nI_dec _) (by decide) rfl (fun ls hl => ?_)
          refine lv_goto (tgt := 29) hx hb dX2_worstWith_61 (by decide) ?_
          exact ih29 q31 (va_up cmx (skN ac c q31 cc) (cmN cc ac sd ax cmx dg1_46 (skN ac c q31 cc))) (va_up wox (skN ac c q31 cc) (woN cc ac co wox dg1_46 (skN ac c q31 cc) (cmN cc ac sd ax cmx dg1_46 (skN ac c q31 cc)))) dg1_46 (by omega) (by first | assumption | omega) (ww_step hac hcc (by omega) rfl (hdq hv9) (by rw [← hmq9]; exact hok)) (fun y hy => by by_cases e : y = skN ac c q31 cc; (rw [e, up_s]; exact cmN_lt hcc hac hcmx (skN_lt hac) hax hsd (hdq hv9) (valB_i hv9)); rw [up_n _ _ e]; exact hcmx y hy) (fun y hy => by by_cases e : y = skN ac c q31 cc; (rw [e, up_s]; exact woN_le); rw [up_n _ _ e]; exact hwox y hy) _ _ hP hD hS _ (lv_sub hl [0, 2, 3, 4, 5] rfl)
  exact L29 ((((1 <<< cc) - 1)) + 1) ((1 <<< cc) - 1) (va_up cm (skN ac c ((1 <<< cc) - 1) cc) a) wo dg (Nat.lt_succ_self _) (Nat.le_refl _) (ww_start hac hcc hsd hc ha ha0 hpl) (fun y hy => by by_cases e : y = skN ac c ((1 <<< cc) - 1) cc; (rw [e, up_s]; omega); rw [up_n _ _ e]; exact hcm y hy) hwo _ _ hP hD hS _ (lv_sub hl [0, 1, 2, 3, 4] rfl)

/-- the first of the cheapest actions, and its cost -/
def bstN (f : Nat → Nat) : Nat → Nat × Nat
  | 0 => (0, 100)
  | n + 1 => if f n < (bstN f n).2 then (n, f n) else bstN f n
theorem bstN_s (f : Nat → Nat) (n : Nat) : bstN f (n + 1) = if f n < (bstN f n).2 then (n, f n) else bstN f n := rfl
theorem bstN_cong {f g : Nat → Nat} : ∀ {n : Nat}, (∀ j, j < n → f j = g j) → bstN f n = bstN g n
  | 0, _ => rfl
  | n + 1, h => by rw [bstN_s, bstN_s, bstN_cong (fun j hj => h j (by omega)), h n (by omega)]

set_option maxHeartbeats 4000000 in
set_option maxRecDepth 100000 in
theorem c_X2_bestActionFor (lQ : Launch) (D : va_G) (kA : Nat → ClassId) (adK adV : Nat → Nat) (qp : Nat → Nat) (cm : Nat → Nat) (wo : Nat → Nat) (dg : Nat → Nat) (qc : Nat → Nat) (cn : Nat) (sd : Nat → Nat) (bt : Nat → Nat) (fi : Nat → Option Nat) (se : Nat → Option Nat) (tl : Nat → Nat) (ax : Nat → Nat) (cf : Nat → Bool) (ow : Nat → Nat) (ho : Nat) (ov : Nat) (cs : Nat) (q : Nat → Nat) (cc : Nat) (ac : Nat → Nat) (co : Nat → Nat) (ad : Nat) (rc : Nat) (nm : Nat → Nat) (st : Nat → Nat) (an : Nat → Nat) (c : Nat) (sz : Nat) (hcc : cc ≤ 5) (hac : ∀ k, k < cc → 2 ≤ ac k ∧ ac k ≤ 4) (hco : ∀ k, k < cc → co k < 10) (hcm : ∀ y, y < 3125 → cm y < 12) (hwo : ∀ y, y < 3125 → wo y ≤ 100) (hsd : ∀ k, k < cc → sd k = prodF ac k) (hbt : bt c = bitC ac c cc) (hax : ∀ c, c < prodF ac cc → ax c < 11) (hc : c < prodF ac cc) (hho : ax c = 10) (hpl : plOK cc ac co sd ax cm wo) : Met lQ yX2_bestActionFor wsX2_bestActionFor (rmN 4 96) (wrE_Pc D vwCl adK adV [.ref (qp 0), .int (nI c)] ((wP kA qp q qc cm wo dg) ++ ((wC kA qc q cn sd bt fi se tl ax cf ow ho ov cs) ++ (wT kA q cc ac co ad rc nm st an))) (tyK kA) sz) (va_Qi (S := (Nat → Nat) × (Nat → Nat) × (Nat → Nat) × (Nat → Nat)) (fun (r : Int32) (u : (Nat → Nat) × (Nat → Nat) × (Nat → Nat) × (Nat → Nat)) => r = (nI ((bstN u.2.2.2 10).1)) ∧ plOK cc ac co sd ax u.1 u.2.1 ∧ (∀ y, y < 3125 → u.1 y < 12) ∧ (∀ y, y < 3125 → u.2.1 y ≤ 100) ∧ (∀ j, j < 10 → ∃ cm' wo', plOK cc ac co sd (va_up ax c j) cm' wo' ∧ wo' 0 = u.2.2.2 j)) (wr_B D vwCl ((wP kA qp q qc cm wo dg) ++ ((wC kA qc q cn sd bt fi se tl ax cf ow ho ov cs) ++ (wT kA q cc ac co ad rc nm st an))) (tyK kA) sz (fun u => ((wP kA qp q qc u.1 u.2.1 u.2.2.1) ++ ((wC kA qc q cn sd bt fi se tl ax cf ow ho ov cs) ++ (wT kA q cc ac co ad rc nm st an))))) (va_A ((wP kA qp q qc cm wo dg) ++ ((wC kA qc q cn sd bt fi se tl ax cf ow ho ov cs) ++ (wT kA q cc ac co ad rc nm st an))) sz)) 0 0 (va_A ((wP kA qp q qc cm wo dg) ++ ((wC kA qc q cn sd bt fi se tl ax cf ow ho ov cs) ++ (wT kA q cc ac co ad rc nm st an))) sz) := by
  refine Met.ofW (cc := cX2_bestActionFor) (maxL := 6) (ret := (some .int)) (by decide) rfl ?_
  intro pQ eQ s mQ args below meth cQ s₁ B hml hv
  obtain ⟨rfl, hsz, hP, hK, hD0, hE⟩ := hv
  have hx := B.exec
  have hb := B.bytes
  have hr := B.returns
  have hts := atoms_spec (ws := wsX2_bestActionFor) B.pre
  have hown : s.vm.findClass RX2 = some mQ.cls := findClass_of_methodNamed B.named
  have hlocks : meth.locks = false := B.notSynchronized
  have hS0 : CallFix pQ mQ cQ cX2_bestActionFor 6 s ([.ref (qp 0), .int (nI c)] : List Value).toArray wsX2_bestActionFor RX2 := ⟨hx, hb, hml, hown, hts⟩
  subst hsz
  have hD := hD0.self (sz := s.heap.size)
  generalize hAe : va_A ((wP kA qp q qc cm wo dg) ++ ((wC kA qc q cn sd bt fi se tl ax cf ow ho ov cs) ++ (wT kA q cc ac co ad rc nm st an))) s.heap.size = A at hD hE ⊢
  have hA : ∀ q : Nat, s.heap.size ≤ q → A q := fun q h => by rw [← hAe]; exact Or.inr h
  have hS : va_S A s.heap s.heap [] := va_S.rf
  skip
  have hl := lv_entry ([.ref (qp 0), .int (nI c)]) (n := 6) (Nat.le_of_ble_eq_true rfl)
  rw [lg_entry_eq]
  generalize (lg_sl ([.ref (qp 0), .int (nI c)]) ++ List.replicate (6 - (lg_sl ([.ref (qp 0), .int (nI c)])).length) Slot.unset).toArray = ls at hl ⊢
  have hl : lv_has ls 6 [(0, .ref (qp 0)), (1, .int (nI c))] := hl
  have hP : va_P D vwCl ((wP kA qp q qc cm wo dg) ++ ((wC kA qc q cn sd bt fi se tl ax cf ow ho ov cs) ++ (wT kA q cc ac co ad rc nm st an))) s.heap := hP
  have hD : va_D A ((wP kA qp q qc cm wo dg) ++ ((wC kA qc q cn sd bt fi se tl ax cf ow ho ov cs) ++ (wT kA q cc ac co ad rc nm st an))) := hD
  obtain ⟨tP, hZP, hTP⟩ := hE.1
  have hup : va_up ax c 10 = ax := by
    funext j; unfold va_up; split
    · next h => rw [h, hho]
    · rfl
  refine lv_iconst (v := (nI 0)) hx hb dX2_bestActionFor_0 (by decide) ?_
  refine lv_istore_n (lv' := [(2, .int (nI 0)), (0, .ref (qp 0)), (1, .int (nI c))]) hx hb dX2_bestActionFor_1 rfl hl (by decide) rfl (fun ls hl => ?_)
  refine lv_bipush (v := (nI 100)) hx hb dX2_bestActionFor_2 (by decide) ?_
  refine lv_istore_n (lv' := [(3, .int (nI 100)), (2, .int (nI 0)), (0, .ref (qp 0)), (1, .int (nI c))]) hx hb dX2_bestActionFor_4 rfl hl (by decide) rfl (fun ls hl => ?_)
  refine lv_iconst (v := (nI 0)) hx hb dX2_bestActionFor_5 (by decide) ?_
  refine lv_istore (lv' := [(4, .int (nI 0)), (3, .int (nI 100)), (2, .int (nI 0)), (0, .ref (qp 0)), (1, .int (nI c))]) hx hb dX2_bestActionFor_6 hl (by decide) rfl (fun ls hl => ?_)
  have L8 : ∀ (nQ : Nat) (i : Nat) (u : Nat) (v : Nat) (cmx : Nat → Nat) (wox : Nat → Nat) (dgx : Nat → Nat), 10 - i < nQ → (i ≤ 10) → (v ≤ 100) → (∃ b9, b9 < 11 ∧ plOK cc ac co sd (va_up ax c b9) cmx wox) → (∀ y, y < 3125 → cmx y < 12) → (∀ y, y < 3125 → wox y ≤ 100) → (∃ wf : Nat → Nat, bstN wf i = (u, v) ∧ ∀ j, j < i → ∃ cm' wo', plOK cc ac co sd (va_up ax c j) cm' wo' ∧ wo' 0 = wf j) → ∀ (H : Heap) (locs : List Loc), va_P D vwCl ((wP kA qp q qc cmx wox dgx) ++ ((wC kA qc q cn sd bt fi se tl ax cf ow ho ov cs) ++ (wT kA q cc ac co ad rc nm st an))) H → va_D A ((wP kA qp q qc cmx wox dgx) ++ ((wC kA qc q cn sd bt fi se tl ax cf ow ho ov cs) ++ (wT kA q cc ac co ad rc nm st an))) → va_S A s.heap H locs → ∀ (ls : Array Slot), lv_has ls 6 [(4, .int (nI i)), (3, .int (nI v)), (2, .int (nI u)), (0, .ref (qp 0)), (1, .int (nI c))] → W pQ lQ eQ (headSpec wsX2_bestActionFor (rmN 4 96)).room s mQ ([.ref (qp 0), .int (nI c)] : List Value).toArray below meth cQ H locs 0 0 (MQ below (va_Qi (S := (Nat → Nat) × (Nat → Nat) × (Nat → Nat) × (Nat → Nat)) (fun (r : Int32) (u : (Nat → Nat) × (Nat → Nat) × (Nat → Nat) × (Nat → Nat)) => r = (nI ((bstN u.2.2.2 10).1)) ∧ plOK cc ac co sd ax u.1 u.2.1 ∧ (∀ y, y < 3125 → u.1 y < 12) ∧ (∀ y, y < 3125 → u.2.1 y ≤ 100) ∧ (∀ j, j < 10 → ∃ cm' wo', plOK cc ac co sd (va_up ax c j) cm' wo' ∧ wo' 0 = u.2.2.2 j)) (wr_B D vwCl ((wP kA qp q qc cm wo dg) ++ ((wC kA qc q cn sd bt fi se tl ax cf ow ho ov cs) ++ (wT kA q cc ac co ad rc nm st an))) (tyK kA) s.heap.size (fun u => ((wP kA qp q qc u.1 u.2.1 u.2.2.1) ++ ((wC kA qc q cn sd bt fi se tl ax cf ow ho ov cs) ++ (wT kA q cc ac co ad rc nm st an))))) A) ([.ref (qp 0), .int (nI c)] : List Value).toArray s 0 0 A) (F0 mQ 8 ls []) := by
    intro nQ
    induction nQ with
    | zero => intro i u v cmx wox dgx hn; exact absurd hn (Nat.not_lt_zero _)
    | succ nQ ih8 =>
      intro i u v cmx wox dgx hm8 hi hv hpx hcmx hwox hW H locs hP hD hS ls hl
      refine lv_iload hx hb dX2_bestActionFor_8 (lv_at hl 0 rfl) ?_
      refine lv_bipush (v := (nI 9)) hx hb dX2_bestActionFor_10 (by decide) ?_
      refine n_icmp_gt (a := i) (b := 9) (tgt := 42) hx hb (by omega) (by omega) dX2_bestActionFor_12 (by decide) (fun c12 => ?_) (fun c12 => ?_)
      · obtain ⟨b9, hb9, hplx⟩ := hpx
        refine lv_aload_n hx hb dX2_bestActionFor_42 rfl (lv_at hl 3 rfl) ?_
        refine lv_iload_n hx hb dX2_bestActionFor_43 rfl (lv_at hl 4 rfl) ?_
        refine lv_bipush (v := (nI 10)) hx hb dX2_bestActionFor_44 (by decide) ?_
        refine n_wViE (b := qp 0) (As := [.int (nI c), .int (nI 10)]) (rest := []) (wr := []) (ws' := fun u => ((wP kA qp q qc u.1 u.2.1 u.2.2) ++ ((wC kA qc q cn sd bt fi se tl ax cf ow ho ov cs) ++ (wT kA q cc ac co ad rc nm st an)))) hS0 (c_X2_worstWith lQ D kA adK adV qp cmx wox dgx qc cn sd bt fi se tl ax cf ow ho ov cs q cc ac co ad rc nm st an c 10 b9 H.size (by first | assumption | omega) (by first | assumption | omega) (by first | assumption | omega) (by first | assumption | omega) (by first | assumption | omega) (by first | assumption | omega) (by first | assumption | omega) (by first | assumption | omega) (by first | assumption | omega) (by first | assumption | omega) (by first | assumption | omega) hplx) (cwV 2 hts gX2_bestActionFor_X2_worstWith rfl rfl rfl (by decide +kernel) ⟨Nat.le_of_ble_eq_true rfl, Nat.le_of_ble_eq_true rfl⟩) hP hD hS hE hA hK hK (by simpa only [List.append_assoc, List.append_nil] using ((List.Perm.refl _).trans (List.Perm.append_left _ ((List.Perm.refl _).trans (List.Perm.append_left _ (List.Perm.of_eq (List.append_nil _).symm)))))) (fun u => List.Perm.symm (by simpa only [List.append_assoc, List.append_nil] using ((List.Perm.refl _).trans (List.Perm.append_left _ ((List.Perm.refl _).trans (List.Perm.append_left _ (List.Perm.of_eq (List.append_nil _).symm))))))) (q0 := 0) rfl rfl rfl rfl rfl hl.1 (Nat.le_of_ble_eq_true rfl) dX2_bestActionFor_46 ⟨Nat.le_refl _, Nat.le_refl _⟩ (fun r46 u46 H locs h46 hP hD hS => ?_)
        obtain ⟨cm1_46, wo1_46, dg1_46⟩ := u46
        obtain ⟨rfl, h46_1, h46_2, h46_3⟩ := h46
        try dsimp only at h46_1 h46_2 h46_3
        have hP : va_P D vwCl ((wP kA qp q qc cm1_46 wo1_46 dg1_46) ++ ((wC kA qc q cn sd bt fi se tl ax cf ow ho ov cs) ++ (wT kA q cc ac co ad rc nm st an))) H := hP
        have hD : va_D A ((wP kA qp q qc cm1_46 wo1_46 dg1_46) ++ ((wC kA qc q cn sd bt fi se tl ax cf ow ho ov cs) ++ (wT kA q cc ac co ad rc nm st an))) := hD
        refine lv_pop hx hb dX2_bestActionFor_49 rfl ?_
        refine lv_iload_n hx hb dX2_bestActionFor_50 rfl (lv_at hl 2 rfl) ?_
        obtain ⟨wf, g1, g2⟩ := hW
        have e9 : i = 10 := by omega
        exact n_wreti hx hb hr hlocks (post := fun (r : Int32) (u : (Nat → Nat) × (Nat → Nat) × (Nat → Nat) × (Nat → Nat)) => r = (nI ((bstN u.2.2.2 10).1)) ∧ plOK cc ac co sd ax u.1 u.2.1 ∧ (∀ y, y < 3125 → u.1 y < 12) ∧ (∀ y, y < 3125 → u.2.1 y ≤ 100) ∧ (∀ j, j < 10 → ∃ cm' wo', plOK cc ac co sd (va_up ax c j) cm' wo' ∧ wo' 0 = u.2.2.2 j)) (w1 := fun u => ((wP kA qp q qc u.1 u.2.1 u.2.2.1) ++ ((wC kA qc q cn sd bt fi se tl ax cf ow ho ov cs) ++ (wT kA q cc ac co ad rc nm st an)))) (cm1_46, wo1_46, dg1_46, wf) ⟨by rw [← e9, g1], by rw [hup] at h46_1; exact h46_1, h46_2, h46_3, fun j hj => g2 j (by omega)⟩ hP hD hK hS hAe dX2_bestActionFor_51
      · obtain ⟨b9, hb9, hplx⟩ := hpx
        refine lv_aload_n hx hb dX2_bestActionFor_15 rfl (lv_at hl 3 rfl) ?_
        refine lv_iload_n hx hb dX2_bestActionFor_16 rfl (lv_at hl 4 rfl) ?_
        refine lv_iload hx hb dX2_bestActionFor_17 (lv_at hl 0 rfl) ?_
        refine n_wViE (b := qp 0) (As := [.int (nI c), .int (nI i)]) (rest := []) (wr := []) (ws' := fun u => ((wP kA qp q qc u.1 u.2.1 u.2.2) ++ ((wC kA qc q cn sd bt fi se tl ax cf ow ho ov cs) ++ (wT kA q cc ac co ad rc nm st an)))) hS0 (c_X2_worstWith lQ D kA adK adV qp cmx wox dgx qc cn sd bt fi se tl ax cf ow ho ov cs q cc ac co ad rc nm st an c i b9 H.size (by first | assumption | omega) (by first | assumption | omega) (by first | assumption | omega) (by first | assumption | omega) (by first | assumption | omega) (by first | assumption | omega) (by first | assumption | omega) (by first | assumption | omega) (by first | assumption | omega) (by first | assumption | omega) (by first | assumption | omega) hplx) (cwV 2 hts gX2_bestActionFor_X2_worstWith rfl rfl rfl (by decide +kernel) ⟨Nat.le_of_ble_eq_true rfl, Nat.le_of_ble_eq_true rfl⟩) hP hD hS hE hA hK hK (by simpa only [List.append_assoc, List.append_nil] using ((List.Perm.refl _).trans (List.Perm.append_left _ ((List.Perm.refl _).trans (List.Perm.append_left _ (List.Perm.of_eq (List.append_nil _).symm)))))) (fun u => List.Perm.symm (by simpa only [List.append_assoc, List.append_nil] using ((List.Perm.refl _).trans (List.Perm.append_left _ ((List.Perm.refl _).trans (List.Perm.append_left _ (List.Perm.of_eq (List.append_nil _).symm))))))) (q0 := 0) rfl rfl rfl rfl rfl hl.1 (Nat.le_of_ble_eq_true rfl) dX2_bestActionFor_19 ⟨Nat.le_refl _, Nat.le_refl _⟩ (fun r19 u19 H locs h19 hP hD hS => ?_)
        obtain ⟨cm1_19, wo1_19, dg1_19⟩ := u19
        obtain ⟨rfl, h19_1, h19_2, h19_3⟩ := h19
        try dsimp only at h19_1 h19_2 h19_3
        have hP : va_P D vwCl ((wP kA qp q qc cm1_19 wo1_19 dg1_19) ++ ((wC kA qc q cn sd bt fi se tl ax cf ow ho ov cs) ++ (wT kA q cc ac co ad rc nm st an))) H := hP
        have hD : va_D A ((wP kA qp q qc cm1_19 wo1_19 dg1_19) ++ ((wC kA qc q cn sd bt fi se tl ax cf ow ho ov cs) ++ (wT kA q cc ac co ad rc nm st an))) := hD
        refine lv_istore (lv' := [(5, .int (nI (wo1_19 0))), (4, .int (nI i)), (3, .int (nI v)), (2, .int (nI u)), (0, .ref (qp 0)), (1, .int (nI c))]) hx hb dX2_bestActionFor_22 hl (by decide) rfl (fun ls hl => ?_)
        refine lv_iload hx hb dX2_bestActionFor_24 (lv_at hl 0 rfl) ?_
        refine lv_iload_n hx hb dX2_bestActionFor_26 rfl (lv_at hl 2 rfl) ?_
        refine n_icmp_ge (a := wo1_19 0) (b := v) (tgt := 36) hx hb (Nat.lt_of_le_of_lt (h19_3 0 (by decide)) (by decide)) (by omega) dX2_bestActionFor_27 (by decide) (fun c27 => ?_) (fun c27 => ?_)
        · refine lv_iinc (v := (nI (i + 1))) (lv' := [(4, .int (nI (i + 1))), (5, .int (nI (wo1_19 0))), (3, .int (nI v)), (2, .int (nI u)), (0, .ref (qp 0)), (1, .int (nI c))]) hx hb dX2_bestActionFor_36 hl (k := 1) rfl (nI_inc _) (by decide) rfl (fun ls hl => ?_)
          refine lv_goto (tgt := 8) hx hb dX2_bestActionFor_39 (by decide) ?_
          exact ih8 (i + 1) u v cm1_19 wo1_19 dg1_19 (by omega) (by first | assumption | omega) (by first | exact hv | exact h19_3 0 (by decide)) ⟨i, by omega, h19_1⟩ h19_2 h19_3 (by obtain ⟨wf, g1, g2⟩ := hW; refine ⟨va_up wf i (wo1_19 0), ?_, fun j hj => ?_⟩; (rw [bstN_s, bstN_cong (g := wf) (fun j hj => up_n _ _ (by omega)), up_s, g1]; first | rw [if_pos c27] | rw [if_neg (by omega)]); by_cases e : j = i; (subst e; exact ⟨cm1_19, wo1_19, h19_1, (up_s _ _ _).symm⟩); obtain ⟨cm', wo', g3, g4⟩ := g2 j (by omega); exact ⟨cm', wo', g3, by rw [up_n _ _ e]; exact g4⟩) _ _ hP hD hS _ (lv_sub hl [0, 2, 3, 4, 5] rfl)
        · refine lv_iload hx hb dX2_bestActionFor_30 (lv_at hl 0 rfl) ?_
          refine lv_istore_n (lv' := [(3, .int (nI (wo1_19 0))), (5, .int (nI (wo1_19 0))), (4, .int (nI i)), (2, .int (nI u)), (0, .ref (qp 0)), (1, .int (nI c))]) hx hb dX2_bestActionFor_32 rfl hl (by decide) rfl (fun ls hl => ?_)
          refine lv_iload hx hb dX2_bestActionFor_33 (lv_at hl 2 rfl) ?_
          refine lv_istore_n (lv' := [(2, .int (nI i)), (3, .int (nI (wo1_19 0))), (5, .int (nI (wo1_19 0))), (4, .int (nI i)), (0, .ref (qp 0)), (1, .int (nI c))]) hx hb dX2_bestActionFor_35 rfl hl (by decide) rfl (fun ls hl => ?_)
          refine lv_iinc (v := (nI (i + 1))) (lv' := [(4, .int (nI (i + 1))), (2, .int (nI i)), (3, .int (nI (wo1_19 0))), (5, .int (nI (wo1_19 0))), (0, .ref (qp 0)), (1, .int (nI c))]) hx hb dX2_bestActionFor_36 hl (k := 3) rfl (nI_inc _) (by decide) rfl (fun ls hl => ?_)
          refine lv_goto (tgt := 8) hx hb dX2_bestActionFor_39 (by decide) ?_
          exact ih8 (i + 1) i (wo1_19 0) cm1_19 wo1_19 dg1_19 (by omega) (by first | assumption | omega) (by first | exact hv | exact h19_3 0 (by decide)) ⟨i, by omega, h19_1⟩ h19_2 h19_3 (by obtain ⟨wf, g1, g2⟩ := hW; refine ⟨va_up wf i (wo1_19 0), ?_, fun j hj => ?_⟩; (rw [bstN_s, bstN_cong (g := wf) (fun j hj => up_n _ _ (by omega)), up_s, g1]; first | rw [if_pos c27] | rw [if_neg (by omega)]); by_cases e : j = i; (subst e; exact ⟨cm1_19, wo1_19, h19_1, (up_s _ _ _).symm⟩); obtain ⟨cm', wo', g3, g4⟩ := g2 j (by omega); exact ⟨cm', wo', g3, by rw [up_n _ _ e]; exact g4⟩) _ _ hP hD hS _ (lv_sub hl [0, 2, 1, 4, 5] rfl)
  exact L8 ((10 - 0) + 1) 0 0 100 cm wo dg (Nat.lt_succ_self _) (by first | assumption | omega) (by first | assumption | omega) ⟨10, by decide, by rw [hup]; exact hpl⟩ hcm hwo ⟨fun _ => 0, rfl, fun j hj => absurd hj (Nat.not_lt_zero _)⟩ _ _ hP hD hS _ (lv_sub hl [0, 1, 2, 3, 4] rfl)
