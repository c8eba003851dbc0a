/-! ===== PURE LAYER: flags, ranges, free places, pairs ===== -/
theorem in_spec (v lo hi : Int64) : fX10_in v lo hi = some (decide (lo.toInt ≤ v.toInt ∧ v.toInt ≤ hi.toInt)) := by
  have e1 : ∀ x y : Int64, (lg_cmp x y < 0) = (x.toInt < y.toInt) := by
    intro x y
    unfold lg_cmp
    by_cases h1 : x > y
    · rw [if_pos h1]
      have : y.toInt < x.toInt := Int64.lt_iff_toInt_lt.mp h1
      simp [show ¬ (1 : Int32) < 0 by decide]; omega
    · rw [if_neg h1]
      have h1' : ¬ y.toInt < x.toInt := fun h => h1 (Int64.lt_iff_toInt_lt.mpr h)
      by_cases h2 : x = y
      · rw [if_pos h2, h2]; simp
      · rw [if_neg h2]
        have : x.toInt ≠ y.toInt := fun h => h2 (Int64.toInt_inj.mp h)
        simp [show (-1 : Int32) < 0 by decide]; omega
  have e2 : ∀ x y : Int64, (0 < lg_cmp x y) = (y.toInt < x.toInt) := by
    intro x y
    unfold lg_cmp
    by_cases h1 : x > y
    · rw [if_pos h1]
      have : y.toInt < x.toInt := Int64.lt_iff_toInt_lt.mp h1
      simp [show (0 : Int32) < 1 by decide]; omega
    · rw [if_neg h1]
      have h1' : ¬ y.toInt < x.toInt := fun h => h1 (Int64.lt_iff_toInt_lt.mpr h)
      by_cases h2 : x = y
      · rw [if_pos h2, h2]; simp
      · rw [if_neg h2]
        simp [show ¬ (0 : Int32) < -1 by decide]; omega
  unfold fX10_in
  simp only [e1, e2]
  by_cases h1 : v.toInt < lo.toInt
  · rw [if_pos h1]; congr 1; symm; simp; omega
  · rw [if_neg h1]
    by_cases h2 : hi.toInt < v.toInt
    · rw [if_pos h2]; congr 1; symm; simp; omega
    · rw [if_neg h2]; congr 1; symm; simp; omega
/-- there is such a flag -/
def hasB (n : Nat) (x : Int32) : Bool := decide (0 ≤ x.toInt ∧ x.toInt < (n : Int))
theorem hasB_nI {n f : Nat} (h : f < n) (hn : n ≤ 5) : hasB n (nI f) = true := by
  simp only [hasB, nI_toInt (show f < 2 ^ 31 by omega), decide_eq_true_eq]; omega
theorem flag_cases (n : Nat) (hn : n ≤ 5) (x : Int32) : (∃ f, f < n ∧ x = nI f) ∨ hasB n x = false := by
  by_cases h : 0 ≤ x.toInt ∧ x.toInt < (n : Int)
  · refine Or.inl ⟨x.toInt.toNat, by omega, ?_⟩
    apply Int32.toInt_inj.mp
    rw [nI_toInt (by omega)]
    omega
  · exact Or.inr (by simp only [hasB, decide_eq_false_iff_not]; exact h)
theorem has_spec {n : Nat} (hn : n ≤ 5) (x : Int32) : fX4_has x (nI n) = some (hasB n x) := by
  unfold fX4_has hasB
  have e0 : (x < 0) = (x.toInt < 0) := propext (by rw [Int32.lt_iff_toInt_lt, Int32.toInt_zero])
  have e1 : (nI n ≤ x) = ((n : Int) ≤ x.toInt) := propext (by rw [Int32.le_iff_toInt_le, nI_toInt (by omega)])
  simp only [e0, e1]
  by_cases h1 : x.toInt < 0
  · rw [if_pos h1]; congr 1; symm; simp; omega
  · rw [if_neg h1]
    by_cases h2 : (n : Int) ≤ x.toInt
    · rw [if_pos h2]; congr 1; symm; simp; omega
    · rw [if_neg h2]; congr 1; symm; simp; omega
theorem isFlag_spec {n : Nat} (hn : n ≤ 5) (x : Int32) : fX10_isFlag x (nI n) = some (hasB n x) := by
  unfold fX10_isFlag
  have e : ((nI n - (1 : Int32)).toInt64).toInt = (n : Int) - 1 := by
    rw [Int32.toInt_toInt64, i_1, pk_sub_toInt (by omega) (by omega)]; rfl
  have e2 : (x.toInt64).toInt = x.toInt := Int32.toInt_toInt64 x
  simp only [in_spec, obind, e, e2, hasB]
  have e3 : ((0 : Int64).toInt ≤ x.toInt ∧ x.toInt ≤ (n : Int) - 1) = (0 ≤ x.toInt ∧ x.toInt < (n : Int)) := propext (by
    rw [show (0 : Int64).toInt = 0 from rfl]; omega)
  simp only [e3]
/-- in a range of small numbers -/
theorem inS (x : Int32) (lo hi : Int64) (a b : Int) (ha : lo.toInt = a) (hb : hi.toInt = b) : fX10_in x.toInt64 lo hi = some (decide (a ≤ x.toInt ∧ x.toInt ≤ b)) := by
  rw [in_spec, Int32.toInt_toInt64, ha, hb]
theorem rng_cases (x : Int32) (b : Nat) (hb : b < 2147483647) : (∃ k, k ≤ b ∧ x = nI k) ∨ ¬ (0 ≤ x.toInt ∧ x.toInt ≤ (b : Int)) := by
  by_cases h : 0 ≤ x.toInt ∧ x.toInt ≤ (b : Int)
  · refine Or.inl ⟨x.toInt.toNat, by omega, ?_⟩
    apply Int32.toInt_inj.mp
    rw [nI_toInt (by omega)]
    omega
  · exact Or.inr h
theorem two5 {n : Nat} (hn : n ≤ 5) : 2 ^ n ≤ 32 := Nat.pow_le_pow_right (n := 2) (by decide) hn
theorem bits32 (f : Nat → Bool) {n : Nat} (hn : n ≤ 5) : bitsN f n < 32 := Nat.lt_of_lt_of_le (bitsN_lt f n) (two5 hn)
theorem freePegs_spec {n : Nat} (hn : n ≤ 5) (wh : Nat → Int32) (pegs : Int32) : fX8_freePegs wh pegs (nI n) = some (pegs - nI (popN (bitsN (fun i => decide (wh i = 2)) n))) := by
  unfold fX8_freePegs
  rw [bitsAt_spec hn, obind, cnt_c _ (bits32 _ hn), obind]
theorem freeTubs_spec {n : Nat} (hn : n ≤ 5) (wh : Nat → Int32) (tubs : Int32) : fX8_freeTubs wh tubs (nI n) = some (tubs - nI (popN (bitsN (fun i => decide (wh i = 1)) n))) := by
  unfold fX8_freeTubs
  rw [bitsAt_spec hn, obind, cnt_c _ (bits32 _ hn), obind]
theorem homeBits_spec {n : Nat} (hn : n ≤ 5) (wh : Nat → Int32) : fX8_homeBits wh (nI n) = some (nI (bitsN (fun i => decide (wh i = 0)) n)) := by
  unfold fX8_homeBits
  rw [bitsAt_spec hn, obind]
theorem freeP_spec {n lev : Nat} (hn : n ≤ 5) (hl : lev ≤ 1) (m : Nat → Int32) (t p : Int32) : fX10_free (nI lev) (2 : Int32) (nI n) t p m = some (p - nI (popN (bitsN (fun i => decide (m (17 * lev + 5 + i) = 2)) n))) := by
  unfold fX10_free fX10_free_16
  rw [if_neg (by decide), areIn_spec hn hl, obind, cnt_r _ (bits32 _ hn), obind]
theorem freeT_spec {n lev : Nat} (hn : n ≤ 5) (hl : lev ≤ 1) (m : Nat → Int32) (t p : Int32) : fX10_free (nI lev) (1 : Int32) (nI n) t p m = some (t - nI (popN (bitsN (fun i => decide (m (17 * lev + 5 + i) = 1)) n))) := by
  unfold fX10_free fX10_free_16
  rw [if_pos rfl, areIn_spec hn hl, obind, cnt_r _ (bits32 _ hn), obind]
/-! sums -/
def sumN (g : Nat → Nat) : Nat → Nat
  | 0 => 0
  | n + 1 => sumN g n + g n
theorem sumN_succ (g : Nat → Nat) (n : Nat) : sumN g (n + 1) = sumN g n + g n := rfl
theorem sumN_cong {f g : Nat → Nat} : ∀ {n : Nat}, (∀ i, i < n → f i = g i) → sumN f n = sumN g n
  | 0, _ => rfl
  | n + 1, h => by rw [sumN_succ, sumN_succ, sumN_cong (fun i hi => h i (by omega)), h n (by omega)]
theorem sumN_add (f g : Nat → Nat) : ∀ n, sumN (fun i => f i + g i) n = sumN f n + sumN g n
  | 0 => rfl
  | n + 1 => by rw [sumN_succ, sumN_succ, sumN_succ, sumN_add f g n]; omega
theorem sumN_le {f : Nat → Nat} {c : Nat} : ∀ {n : Nat}, (∀ i, i < n → f i ≤ c) → sumN f n ≤ n * c
  | 0, _ => by simp [sumN]
  | n + 1, h => by
    have h1 := sumN_le (f := f) (c := c) (n := n) (fun i hi => h i (by omega))
    have h2 := h n (by omega)
    rw [sumN_succ, Nat.succ_mul]; omega
theorem sumN_mul (c : Nat) (f : Nat → Nat) : ∀ n, sumN (fun i => c * f i) n = c * sumN f n
  | 0 => rfl
  | n + 1 => by rw [sumN_succ, sumN_succ, sumN_mul c f n, Nat.mul_add]
theorem sumN_zero : ∀ n, sumN (fun _ => 0) n = 0
  | 0 => rfl
  | n + 1 => by rw [sumN_succ, sumN_zero n]
/-- a bit as 0 or 1 -/
def bt (m i : Nat) : Nat := m / 2 ^ i % 2
theorem bt_le (m i : Nat) : bt m i ≤ 1 := by unfold bt; omega
theorem bt_tb (m i : Nat) : bt m i = if m.testBit i then 1 else 0 := by
  unfold bt
  rw [Nat.testBit_eq_decide_div_mod_eq]
  have : m / 2 ^ i % 2 < 2 := Nat.mod_lt _ (by decide)
  by_cases h : m / 2 ^ i % 2 = 1
  · simp [h]
  · simp [h]; omega
theorem bt_and (a b i : Nat) : bt (a &&& b) i = bt a i * bt b i := by
  rw [bt_tb, bt_tb, bt_tb, Nat.testBit_and]
  cases a.testBit i <;> cases b.testBit i <;> rfl
theorem popN_sum (m : Nat) : popN m = sumN (bt m) 5 := by
  simp [popN, sumN, bt]
theorem bt_low (k j : Nat) : bt (2 ^ k - 1) j = if j < k then 1 else 0 := by
  rw [bt_tb, Nat.testBit_two_pow_sub_one]
  by_cases h : j < k <;> simp [h]
theorem bt_big {m n j : Nat} (h : m < 2 ^ n) (hj : n ≤ j) : bt m j = 0 := by
  unfold bt
  rw [Nat.div_eq_of_lt (Nat.lt_of_lt_of_le h (Nat.pow_le_pow_right (by decide) hj))]
theorem sumN_cut {f : Nat → Nat} {n m : Nat} (hm : n ≤ m) (h : ∀ i, n ≤ i → i < m → f i = 0) : sumN f m = sumN f n := by
  induction m with
  | zero => rw [show n = 0 by omega]
  | succ k ih =>
    by_cases hk : n = k + 1
    · rw [hk]
    · rw [sumN_succ, ih (by omega) (fun i h1 h2 => h i h1 (by omega)), h k (by omega) (by omega), Nat.add_zero]
/-- hostile to whom: as the plan tells, each way -/
def HOS (n : Nat) (pho : Nat → Int32) (hm : Nat → Nat) : Prop := (∀ i, i < n → pho i = nI (hm i) ∧ hm i < 2 ^ n) ∧ (∀ i j, i < n → j < n → bt (hm i) j = bt (hm j) i) ∧ ∀ i, i < n → bt (hm i) i = 0
/-- how many pairs among these -/
def pairsN (n : Nat) (hm : Nat → Nat) (b : Nat) : Nat := sumN (fun i => bt b i * sumN (fun j => bt (hm i) j * bt b j) i) n
theorem twice_eq {hm : Nat → Nat} {b : Nat} : ∀ {n : Nat}, (∀ i j, i < n → j < n → bt (hm i) j = bt (hm j) i) → (∀ i, i < n → bt (hm i) i = 0) → sumN (fun i => bt b i * sumN (fun j => bt (hm i) j * bt b j) n) n = 2 * pairsN n hm b
  | 0, _, _ => rfl
  | n + 1, hs, hz => by
    have ih := twice_eq (hm := hm) (b := b) (n := n) (fun i j h1 h2 => hs i j (by omega) (by omega)) (fun i h => hz i (by omega))
    unfold pairsN at ih ⊢
    rw [sumN_succ, sumN_succ, sumN_succ, hz n (by omega), Nat.zero_mul, Nat.add_zero]
    have e1 : sumN (fun i => bt b i * sumN (fun j => bt (hm i) j * bt b j) (n + 1)) n = sumN (fun i => bt b i * sumN (fun j => bt (hm i) j * bt b j) n) n + bt b n * sumN (fun i => bt (hm n) i * bt b i) n := by
      rw [← sumN_mul, ← sumN_add]
      refine sumN_cong (fun i hi => ?_)
      rw [sumN_succ, Nat.mul_add, hs i n (by omega) (by omega)]
      congr 1
      rw [Nat.mul_comm (bt b i), Nat.mul_assoc, Nat.mul_comm (bt (hm n) i) (bt b n * bt b i), Nat.mul_assoc, Nat.mul_comm (bt b i)]
    rw [e1, ih]
    simp only [Nat.add_zero]
    omega
