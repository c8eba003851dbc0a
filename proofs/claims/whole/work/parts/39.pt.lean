/-! ===== PURE LAYER: drying by chance ===== -/
theorem hasr_big {b i : Nat} (hb : b < 2147483648) (hi : i < 32) : fX10_has (nI b) (nI i) = some (decide (bt b i = 1)) := by
  unfold fX10_has
  have h1 := bt_le b i
  have e : ((nI b >>> (nI i &&& 31)) &&& (1 : Int32)) = nI (bt b i) := bit_b hb hi
  rw [e]
  by_cases q : bt b i = 1
  · rw [q, if_pos (show nI 1 = (1 : Int32) from rfl)]; rfl
  · rw [show bt b i = 0 by omega, if_neg (show ¬ nI 0 = (1 : Int32) by decide)]; rfl
/-- how likely, and how much is dried, in the first k hours -/
def wgtN (x s : Nat) : Nat → Nat
  | 0 => 1
  | k + 1 => wgtN x s k * (if bt s k = 1 then x else 10 - x)
def drdN (s : Nat) : Nat → Nat
  | 0 => 0
  | k + 1 => drdN s k + (if bt s k = 1 then 3 else 1)
theorem cntN_le (s : Nat) : ∀ k, sumN (bt s) k ≤ k
  | 0 => Nat.le_refl _
  | k + 1 => by
    have := cntN_le s k
    have := bt_le s k
    rw [sumN_succ]; omega
theorem wgtN_eq (x s : Nat) : ∀ k, wgtN x s k = x ^ sumN (bt s) k * (10 - x) ^ (k - sumN (bt s) k)
  | 0 => by simp [wgtN, sumN]
  | k + 1 => by
    have h := wgtN_eq x s k
    have h1 := cntN_le s k
    have h2 := bt_le s k
    show wgtN x s k * (if bt s k = 1 then x else 10 - x) = _
    rw [h, sumN_succ]
    by_cases q : bt s k = 1
    · rw [if_pos q, q, Nat.pow_succ, show k + 1 - (sumN (bt s) k + 1) = k - sumN (bt s) k by omega, Nat.mul_right_comm]
    · rw [if_neg q, show bt s k = 0 by omega, Nat.add_zero, show k + 1 - sumN (bt s) k = (k - sumN (bt s) k) + 1 by omega, Nat.pow_succ, Nat.mul_assoc]
theorem drdN_eq (s : Nat) : ∀ k, drdN s k = k + 2 * sumN (bt s) k
  | 0 => rfl
  | k + 1 => by
    have h := drdN_eq s k
    have h2 := bt_le s k
    show drdN s k + (if bt s k = 1 then 3 else 1) = _
    rw [h, sumN_succ]
    by_cases q : bt s k = 1
    · rw [if_pos q, q]; omega
    · rw [if_neg q, show bt s k = 0 by omega]; omega
def chN : Nat → Nat → Nat
  | _, 0 => 1
  | 0, _ + 1 => 0
  | n + 1, k + 1 => chN n k + chN n (k + 1)
theorem ch_c : ∀ n, n < 7 → ∀ w, w < n + 1 → fX1_choices (nI n) (nI w) = some (nI (chN n w)) := by decide +kernel
theorem pow_c : ∀ b, b < 11 → ∀ k, k < 7 → fX1_power (nI b) (nI k) = some (nI (b ^ k)) := by decide +kernel
theorem all10 : ∀ n, n < 7 → ∀ x, x < 11 → sumN (fun w => chN n w * (x ^ w * (10 - x) ^ (n - w))) (n + 1) = 10 ^ n := by decide +kernel
/-- sets of hours, by how many are in them -/
theorem grp {n : Nat} (hn : n ≤ 6) (g : Nat → Nat) : sumN (fun s => g (sumN (bt s) n)) (2 ^ n) = sumN (fun w => chN n w * g w) (n + 1) := by
  rcases (show n = 0 ∨ n = 1 ∨ n = 2 ∨ n = 3 ∨ n = 4 ∨ n = 5 ∨ n = 6 by omega) with rfl | rfl | rfl | rfl | rfl | rfl | rfl <;> simp [sumN, bt, chN] <;> omega
/-- in so many windy hours it counts -/
def dryG (n x : Nat) (wet : Int32) (w : Nat) : Nat := if nI (n + 2 * w) < wet then 0 else x ^ w * (10 - x) ^ (n - w)
theorem ways_c {n x : Nat} (hn : n ≤ 6) (hx : x ≤ 10) (wet : Int32) : fX1_waysToDry wet (nI n) (nI x) = some (nI (sumN (fun w => chN n w * dryG n x wet w) (n + 1))) := by
  refine loop_seq (fun fu (s : Int32) k => fX1_waysToDry_5 wet (nI n) (nI x) fu s k) (fun i => nI (sumN (fun w => chN n w * dryG n x wet w) i)) (n + 1) _ (fun fu => ?_) (fun fu i hi => ?_) (n + 1) 0 FU (by omega) (by unfold FU; omega)
  · simp (disch := omega) only [fX1_waysToDry_5, gX1_waysToDry_5, ltS, show n < n + 1 by omega, reduceIte]
  · have es : sumN (fun w => chN n w * dryG n x wet w) (i + 1) = sumN (fun w => chN n w * dryG n x wet w) i + chN n i * dryG n x wet i := rfl
    rw [es]
    simp (disch := omega) only [fX1_waysToDry_5, gX1_waysToDry_5, fX1_waysToDry_49, ltS, show ¬ n < i by omega, reduceIte, i_2, pk_mul, nI_add, ch_c n (by omega) i hi, pow_c x (by omega) i (by omega), i_10, sub_s, pow_c (10 - x) (by omega) (n - i) (by omega), obind, i_1]
    unfold dryG
    by_cases q : nI (n + 2 * i) < wet
    · rw [if_pos q, if_pos q, Nat.mul_zero]; rfl
    · rw [if_neg q, if_neg q, Nat.mul_assoc]
theorem dry_in {n f x s : Nat} (hn : n ≤ 6) (hx : x ≤ 10) (hs : s < 64) (hf : f < 5) (rec61 : Int32 → Int32 → Int32 → Option Int32) (x4 : Bool) (x5 x6 : Int32) (m : Nat → Int32) : fX10_dry_78 rec61 (nI f) (nI n) (nI x) x4 x5 x6 (nI s) m FU (nI 1) (nI 0) (nI 0) = rec61 (x5 + nI (if nI (drdN s n) < m (10 + f) then 0 else wgtN x s n)) (x6 + nI (wgtN x s n)) (nI (s + 1)) := by
  refine loop_seq (fun fu (q : Int32 × Int32) k => fX10_dry_78 rec61 (nI f) (nI n) (nI x) x4 x5 x6 (nI s) m fu q.1 q.2 k) (fun i => (nI (wgtN x s i), nI (drdN s i))) n _ (fun fu => ?_) (fun fu i hi => ?_) n 0 FU (by omega) (by unfold FU; omega)
  · simp (disch := omega) only [fX10_dry_78, gX10_dry_78, fX10_dry_162, leS, Nat.le_refl, reduceIte, i_10, nI_add, inb_t, cl_s, i_1]
    by_cases q : nI (drdN s n) < m (10 + f)
    · rw [if_pos q, if_pos q]; rfl
    · rw [if_neg q, if_neg q]
  · have h1 := bt_le s i
    have e1 : wgtN x s (i + 1) = wgtN x s i * (if bt s i = 1 then x else 10 - x) := rfl
    have e2 : drdN s (i + 1) = drdN s i + (if bt s i = 1 then 3 else 1) := rfl
    rw [e1, e2]
    simp (disch := omega) only [fX10_dry_78, gX10_dry_78, fX10_dry_104, fX10_dry_124, leS, show ¬ n ≤ i by omega, reduceIte, hasr_big, obind, decide_eq_true_eq, i_10, sub_s, pk_mul, i_3, i_1, nI_add]
    by_cases q : bt s i = 1
    · simp only [q, reduceIte]
    · simp only [q, reduceIte]
theorem dry_out {n f x : Nat} (h1 : 1 ≤ n) (hn : n ≤ 6) (hx : x ≤ 10) (hf : f < 5) (x4 : Bool) (m : Nat → Int32) {wet : Int32} (hw : m (10 + f) = wet) {g : Nat} (g0 : 0 < g) (g1 : g < 2147483648) (hg : fX10_common (nI (sumN (fun w => chN n w * dryG n x wet w) (n + 1))) (nI (10 ^ n)) = some (nI g)) : fX10_dry_61 (nI f) (nI n) (nI x) x4 m FU (nI 0) (nI 0) (nI 0) = (if x4 = true then some (nI (sumN (fun w => chN n w * dryG n x wet w) (n + 1)) / nI g) else some (nI (10 ^ n) / nI g)) := by
  have h64 : 2 ^ n ≤ 64 := Nat.pow_le_pow_right (n := 2) (by decide) hn
  have eA : sumN (fun s => wgtN x s n) (2 ^ n) = 10 ^ n := by
    exact (sumN_cong (fun s _ => wgtN_eq x s n)).trans ((grp hn (fun w => x ^ w * (10 - x) ^ (n - w))).trans (all10 n (by omega) x (by omega)))
  have eS : sumN (fun s => if nI (drdN s n) < m (10 + f) then 0 else wgtN x s n) (2 ^ n) = sumN (fun w => chN n w * dryG n x wet w) (n + 1) := by
    rw [sumN_cong (g := fun s => dryG n x wet (sumN (bt s) n)) (fun s _ => by unfold dryG; rw [drdN_eq, wgtN_eq, hw]), grp hn]
  refine loop_seq (fun fu (q : Int32 × Int32) k => fX10_dry_61 (nI f) (nI n) (nI x) x4 m fu q.1 q.2 k) (fun i => (nI (sumN (fun s => if nI (drdN s n) < m (10 + f) then 0 else wgtN x s n) i), nI (sumN (fun s => wgtN x s n) i))) (2 ^ n) _ (fun fu => ?_) (fun fu i hi => ?_) (2 ^ n) 0 FU (by omega) (by unfold FU; omega)
  · simp (disch := omega) only [fX10_dry_61, gX10_dry_61, shl_1, leS, Nat.le_refl, reduceIte, eA, eS, hg, obind, nI_ne0 g0 g1]
  · have e1 : sumN (fun s => wgtN x s n) (i + 1) = sumN (fun s => wgtN x s n) i + wgtN x i n := rfl
    have e2 : sumN (fun s => if nI (drdN s n) < m (10 + f) then 0 else wgtN x s n) (i + 1) = sumN (fun s => if nI (drdN s n) < m (10 + f) then 0 else wgtN x s n) i + (if nI (drdN i n) < m (10 + f) then 0 else wgtN x i n) := rfl
    rw [e1, e2]
    show gX10_dry_61 _ _ _ _ _ _ _ _ _ = _
    unfold gX10_dry_61
    rw [shl_1 (by omega), if_neg (by rw [leS (by omega) (by omega)]; omega)]
    refine (dry_in hn hx (show i < 64 by omega) hf _ _ _ _ _).trans ?_
    rw [nI_add, nI_add]
/-- DRY -/
theorem sim_dry {n : Nat} (hn : n ≤ 5) {m wh lf co : Nat → Int32} {wi ho : Int32} (hR : RVo n 0 m wh lf co wi ho m) (x1 x2 x3 : Int32) (x4 : Bool) : ∃ r, fX9_dry x1 x2 x3 x4 (nI n) wh lf = some r ∧ fX10_dry x1 x2 x3 x4 (nI n) m = some r := by
  unfold fX9_dry fX10_dry
  simp only [has_spec hn, isFlag_spec hn, obind, inS x2 1 6 1 6 rfl rfl, inS x3 0 10 0 10 rfl rfl]
  have e1 : (x2 < 1) = (x2.toInt < 1) := propext Int32.lt_iff_toInt_lt
  have e2 : (6 < x2) = (6 < x2.toInt) := propext Int32.lt_iff_toInt_lt
  have e3 : (x3 < 0) = (x3.toInt < 0) := propext Int32.lt_iff_toInt_lt
  have e4 : (x3 ≤ 10) = (x3.toInt ≤ 10) := propext Int32.le_iff_toInt_le
  simp only [e1, e2, e3, e4]
  rcases flag_cases n hn x1 with ⟨f, hf, rfl⟩ | h1
  · have ⟨q1, q2, q3⟩ := hR.1 f hf
    simp only [Nat.mul_zero, Nat.zero_add] at q1 q2 q3
    by_cases a1 : 1 ≤ x2.toInt ∧ x2.toInt ≤ 6
    · by_cases a2 : 0 ≤ x3.toInt ∧ x3.toInt ≤ 10
      · obtain ⟨k, hk, rfl⟩ := (rng_cases x2 6 (by omega)).resolve_right (fun z => z (by omega))
        obtain ⟨x, hx, rfl⟩ := (rng_cases x3 10 (by omega)).resolve_right (fun z => z (by omega))
        have ek := nI_toInt (n := k) (by omega)
        have ex := nI_toInt (n := x) (by omega)
        simp (disch := omega) only [hasB_nI hf hn, reduceIte, a1, a2, and_self, decide_true, show ¬ (nI k).toInt < 1 by omega, show ¬ 6 < (nI k).toInt by omega, show ¬ (nI x).toInt < 0 by omega, inb_t, cl_s, i_5, nI_add, q2]
        by_cases w2 : wh f = 2
        · simp only [w2, reduceIte]
          have h10 : 10 ^ k ≤ 10 ^ 6 := Nat.pow_le_pow_right (by decide) hk
          have p10 : 0 < 10 ^ k := Nat.pow_pos (by decide)
          have hS : sumN (fun w => chN k w * dryG k x (lf f) w) (k + 1) ≤ 10 ^ k := by
            rw [← all10 k (by omega) x (by omega)]
            refine sumN_mono (fun w _ => Nat.mul_le_mul (Nat.le_refl _) ?_)
            unfold dryG
            split
            · exact Nat.zero_le _
            · exact Nat.le_refl _
          obtain ⟨g, g0, g1, g2, g3⟩ := frac_sim (a := sumN (fun w => chN k w * dryG k x (lf f) w) (k + 1)) (b := 10 ^ k) (by omega) p10 (by omega)
          have key := dry_out (show 1 ≤ k by omega) hk hx (show f < 5 by omega) x4 m q3 g0 g1 g3
          simp only [ways_c hk hx, obind, i_10, pow_c 10 (by omega) k (by omega)]
          unfold fX9_toldFraction
          simp only [g2, obind, nI_ne0 g0 g1, reduceIte]
          cases x4
          · exact ⟨_, rfl, key⟩
          · exact ⟨_, rfl, key⟩
        · simp only [w2, reduceIte]
          exact ⟨_, rfl, rfl⟩
      · simp only [hasB_nI hf hn, reduceIte, a1, a2, and_self, decide_true, decide_false, Bool.false_eq_true, show ¬ x2.toInt < 1 by omega, show ¬ 6 < x2.toInt by omega]
        refine ⟨-2, ?_, rfl⟩
        by_cases z : x3.toInt < 0
        · rw [if_pos z]
        · rw [if_neg z, if_neg (by omega)]
    · simp only [hasB_nI hf hn, reduceIte, a1, decide_false, Bool.false_eq_true]
      refine ⟨-2, ?_, rfl⟩
      by_cases z : x2.toInt < 1
      · rw [if_pos z]
      · rw [if_neg z, if_pos (by omega)]
  · simp only [h1, Bool.false_eq_true, reduceIte]; exact ⟨_, rfl, rfl⟩
