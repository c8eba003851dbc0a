/-! ===== PURE LAYER: fractions, shares ===== -/
theorem i_100 : (100 : Int32) = nI 100 := rfl
theorem jremS {a b : Nat} (ha : a < 2147483648) (h0 : 0 < b) (hb : b < 2147483648) : jrem (nI a) (nI b) = nI (a % b) := by
  unfold jrem; exact pk_rem ha h0 hb
theorem gc_end {fu i : Nat} {x : Int32} (hi : i < 100) : fX9_greatestCommon_7 (fu + 1) x (nI 0) (nI i) = some x := by
  show gX9_greatestCommon_7 _ _ _ _ = _
  unfold gX9_greatestCommon_7
  rw [if_neg (by rw [i_100, leS (by omega) (by omega)]; omega), if_pos nI_0]
theorem gc_step {fu i a b : Nat} (hi : i < 100) (ha : a < 2147483648) (h0 : 0 < b) (hb : b < 2147483648) : fX9_greatestCommon_7 (fu + 1) (nI a) (nI b) (nI i) = fX9_greatestCommon_7 fu (nI b) (nI (a % b)) (nI (i + 1)) := by
  show gX9_greatestCommon_7 _ _ _ _ = _
  unfold gX9_greatestCommon_7
  rw [if_neg (by rw [i_100, leS (by omega) (by omega)]; omega), if_neg (nI_ne0 h0 hb), if_neg (nI_ne0 h0 hb), jremS ha h0 hb, i_1, nI_add]
theorem cm_end {fu : Nat} {x : Int32} : fX10_common_13 (fu + 1) x (nI 0) = some x := by
  show gX10_common_13 _ _ _ = _
  unfold gX10_common_13
  rw [if_pos nI_0]
theorem cm_step {fu a b : Nat} (ha : a < 2147483648) (h0 : 0 < b) (hb : b < 2147483648) : fX10_common_13 (fu + 1) (nI a) (nI b) = fX10_common_13 fu (nI b) (nI (a % b)) := by
  show gX10_common_13 _ _ _ = _
  unfold gX10_common_13
  rw [if_neg (nI_ne0 h0 hb), if_neg (nI_ne0 h0 hb), jremS ha h0 hb]
theorem mod_half {b r k : Nat} (h0 : 0 < r) (hr : r < b) (hb : b < 2 ^ (k + 1)) : b % r < 2 ^ k := by
  have h1 := Nat.mod_lt b h0
  have e : 2 ^ (k + 1) = 2 ^ k + 2 ^ k := by rw [Nat.pow_succ]; omega
  by_cases q : r ≤ 2 ^ k
  · omega
  · have h2 : b % r = b - r := by
      rw [Nat.mod_eq_sub_mod (by omega), Nat.mod_eq_of_lt (by omega)]
    omega
/-- Euclid's steps: both come to the same -/
theorem gcd_run : ∀ (k a b fu fu' i : Nat), b < 2 ^ k → a < 2147483648 → b < 2147483648 → 2 * k < fu → 2 * k < fu' → i + 2 * k < 100 → 0 < a + b → ∃ g, 0 < g ∧ g < 2147483648 ∧ fX9_greatestCommon_7 fu (nI a) (nI b) (nI i) = some (nI g) ∧ fX10_common_13 fu' (nI a) (nI b) = some (nI g)
  | 0, a, b, fu, fu', i, h1, ha, hb, hf, hf', hi, hp => by
    have e : b = 0 := by simpa using h1
    subst e
    obtain ⟨f, rfl⟩ : ∃ f, fu = f + 1 := ⟨fu - 1, by omega⟩
    obtain ⟨f', rfl⟩ : ∃ f, fu' = f + 1 := ⟨fu' - 1, by omega⟩
    exact ⟨a, by omega, ha, gc_end (by omega), cm_end⟩
  | k + 1, a, b, fu, fu', i, h1, ha, hb, hf, hf', hi, hp => by
    obtain ⟨f, rfl⟩ : ∃ f, fu = f + 1 + 1 := ⟨fu - 2, by omega⟩
    obtain ⟨f', rfl⟩ : ∃ f, fu' = f + 1 + 1 := ⟨fu' - 2, by omega⟩
    by_cases q : b = 0
    · subst q
      exact ⟨a, by omega, ha, gc_end (by omega), cm_end⟩
    · have h0 : 0 < b := by omega
      have hr := Nat.mod_lt a h0
      rw [gc_step (by omega) ha h0 hb, cm_step ha h0 hb]
      by_cases q2 : a % b = 0
      · rw [q2]
        exact ⟨b, by omega, hb, gc_end (by omega), cm_end⟩
      · have h2 : 0 < a % b := by omega
        have h3 := mod_half h2 hr h1
        have h4 := Nat.mod_lt b h2
        rw [gc_step (by omega) hb h2 (by omega), cm_step hb h2 (by omega)]
        exact gcd_run k (a % b) (b % (a % b)) f f' (i + 1 + 1) h3 (by omega) (by omega) (by omega) (by omega) (by omega) (by omega)
theorem frac_sim {a b : Nat} (ha : a < 2147483648) (h0 : 0 < b) (hb : b < 2147483648) : ∃ g, 0 < g ∧ g < 2147483648 ∧ fX9_greatestCommon (nI a) (nI b) = some (nI g) ∧ fX10_common (nI a) (nI b) = some (nI g) := by
  obtain ⟨g, g0, g1, g2, g3⟩ := gcd_run 31 a b FU FU 0 (by omega) ha hb (by unfold FU; omega) (by unfold FU; omega) (by omega) (by omega)
  refine ⟨g, g0, g1, g2, ?_⟩
  unfold fX10_common fX10_common_10
  rw [if_pos (nI_pos' ha)]
  exact g3
/-- countries in peace -/
def calmN (n : Nat) (hm : Nat → Nat) (b : Nat) : Nat := sumN (fun i => if bt b i = 1 ∨ hm i &&& b = hm i then 1 else 0) n
theorem calmN_le (n : Nat) (hm : Nat → Nat) (b : Nat) : calmN n hm b ≤ n := by
  have := sumN_le (f := fun i => if bt b i = 1 ∨ hm i &&& b = hm i then 1 else 0) (c := 1) (n := n) (fun i _ => by split <;> omega)
  unfold calmN; omega
theorem wi_eq {a b : Nat} (ha : a < 32) (hb : b < 32) : ((nI a &&& (nI b ^^^ (-1 : Int32))) = 0) = (a &&& b = a) := by
  have h := within_c a ha b hb
  unfold fX9_isWithin at h
  apply propext
  by_cases q : (nI a &&& (nI b ^^^ (-1 : Int32))) = 0
  · rw [if_pos q] at h
    have := Option.some.inj h
    exact ⟨fun _ => of_decide_eq_true this.symm, fun _ => q⟩
  · rw [if_neg q] at h
    have := Option.some.inj h
    exact ⟨fun z => absurd z q, fun z => absurd z (of_decide_eq_false this.symm)⟩
theorem peace_c {n : Nat} (hn : n ≤ 5) {pho : Nat → Int32} {hm : Nat → Nat} (h : HOS n pho hm) {b : Nat} (hb : b < 32) : fX6_inPeace (nI b) (nI n) pho = some (nI (calmN n hm b)) := by
  refine loop_seq (fun fu (s : Int32) x => fX6_inPeace_4 (nI b) (nI n) pho fu s x) (fun i => nI (calmN i hm b)) n (some (nI (calmN n hm b))) (fun fu => ?_) (fun fu i hi => ?_) n 0 FU (by omega) (by unfold FU; omega)
  · simp (disch := omega) only [fX6_inPeace_4, gX6_inPeace_4, leS, Nat.le_refl, reduceIte]
  · have hb1 := bt_le b i
    have hp := (h.1 i hi).1
    have h32 := hm32 hn h hi
    have es : calmN (i + 1) hm b = calmN i hm b + if bt b i = 1 ∨ hm i &&& b = hm i then 1 else 0 := rfl
    simp (disch := omega) only [fX6_inPeace_4, gX6_inPeace_4, fX6_inPeace_25, fX6_inPeace_45, fX6_inPeace_48, leS, show ¬ n ≤ i by omega, reduceIte, i_1, bit01, i_0, eqS, inb_t, cl_s, hp, within_c _ h32 _ hb, obind, nI_add, Bool.false_eq_true, es]
    by_cases q : bt b i = 0
    · by_cases q2 : hm i &&& b = hm i
      · simp only [q, q2, reduceIte, or_true, decide_true]
      · simp only [q, q2, reduceIte, show ¬ (0 = 1) by omega, or_false, decide_false, Bool.false_eq_true, Nat.add_zero]
    · simp only [show bt b i = 1 by omega, show ¬ (1 = 0) by omega, reduceIte, true_or]
theorem calm_r {n : Nat} (hn : n ≤ 5) {pho : Nat → Int32} {hm : Nat → Nat} (h : HOS n pho hm) {b : Nat} (hb : b < 32) : fX10_calm (nI b) (nI n) pho = some (nI (calmN n hm b)) := by
  refine loop_seq (fun fu (s : Int32) x => fX10_calm_4 (nI b) (nI n) pho fu s x) (fun i => nI (calmN i hm b)) n (some (nI (calmN n hm b))) (fun fu => ?_) (fun fu i hi => ?_) n 0 FU (by omega) (by unfold FU; omega)
  · simp (disch := omega) only [fX10_calm_4, gX10_calm_4, leS, Nat.le_refl, reduceIte]
  · have hb1 := bt_le b i
    have hp := (h.1 i hi).1
    have h32 := hm32 hn h hi
    have es : calmN (i + 1) hm b = calmN i hm b + if bt b i = 1 ∨ hm i &&& b = hm i then 1 else 0 := rfl
    simp (disch := omega) only [fX10_calm_4, gX10_calm_4, fX10_calm_34, fX10_calm_39, leS, show ¬ n ≤ i by omega, reduceIte, hasr_spec, obind, inb_t, cl_s, hp, wi_eq h32 hb, nI_1, es, decide_eq_true_eq, show b2i true = nI 1 from rfl, show b2i false = nI 0 from rfl, nI_add]
    by_cases q : bt b i = 1
    · simp only [q, reduceIte, true_or]
    · by_cases q2 : hm i &&& b = hm i
      · simp only [q, q2, reduceIte, or_true]
      · simp only [q, q2, reduceIte, or_self]
theorem cm_a : ∀ s, s < 32 → ∀ f, f < 5 → ∀ i, i < 5 → bt s i = 1 → bt (s ||| 2 ^ f) i = 1 := by decide +kernel
theorem cm_b : ∀ h, h < 32 → ∀ s, s < 32 → ∀ f, f < 5 → h &&& s = h → h &&& (s ||| 2 ^ f) = h := by decide +kernel
theorem calm_mono {n f s : Nat} (hn : n ≤ 5) (hf : f < n) (hs : s < 32) {pho : Nat → Int32} {hm : Nat → Nat} (h : HOS n pho hm) : calmN n hm s ≤ calmN n hm (s ||| 2 ^ f) := by
  refine sumN_mono (fun i hi => ?_)
  have h32 := hm32 hn h hi
  by_cases q : bt s i = 1 ∨ hm i &&& s = hm i
  · have q2 : bt (s ||| 2 ^ f) i = 1 ∨ hm i &&& (s ||| 2 ^ f) = hm i := q.imp (cm_a s hs f (by omega) i (by omega)) (cm_b (hm i) h32 s hs f (by omega))
    rw [if_pos q, if_pos q2]; exact Nat.le_refl _
  · rw [if_neg q]; exact Nat.zero_le _
def facN (k : Nat) : Nat := [1, 1, 2, 6, 24, 120].getD k 1
theorem ord_c : ∀ k, k < 6 → fX6_orders (nI k) = some (nI (facN k)) := by decide +kernel
theorem fac_r : ∀ k, k < 6 → fX10_factorial (nI k) = some (nI (facN k)) := by decide +kernel
theorem facN_b : ∀ k, k < 6 → 0 < facN k ∧ facN k ≤ 120 := by decide +kernel
theorem sh_a : ∀ n, n < 6 → ∀ f, f < n → ∀ s, s < 32 → ((s &&& ((2 ^ n - 1) &&& (31 ^^^ 2 ^ f)) = s) ↔ (s < 2 ^ n ∧ bt s f = 0)) := by decide +kernel
theorem sh_b : ∀ n, n < 6 → ∀ f, f < n → ∀ s, s < 32 → s < 2 ^ n → bt s f = 0 → popN s + 1 ≤ n := by decide +kernel
theorem sh_c : ∀ s, s < 32 → ∀ f, f < 5 → s ||| 2 ^ f < 32 := by decide +kernel
/-- what a set that came adds in all orders -/
def shW (n f : Nat) (hm : Nat → Nat) (s : Nat) : Nat := if s < 2 ^ n ∧ bt s f = 0 then (calmN n hm (s ||| 2 ^ f) - calmN n hm s) * facN (popN s) * facN (n - 1 - popN s) else 0
theorem shW_y {n f s : Nat} {hm : Nat → Nat} (q : s < 2 ^ n ∧ bt s f = 0) : shW n f hm s = (calmN n hm (s ||| 2 ^ f) - calmN n hm s) * facN (popN s) * facN (n - 1 - popN s) := if_pos q
theorem shW_n {n f s : Nat} {hm : Nat → Nat} (q : ¬ (s < 2 ^ n ∧ bt s f = 0)) : shW n f hm s = 0 := if_neg q
theorem gain_all {n f : Nat} (hn : n ≤ 5) (hf : f < n) {pho : Nat → Int32} {hm : Nat → Nat} (h : HOS n pho hm) : fX6_gainInAllOrders (nI f) (nI n) pho = some (nI (sumN (shW n f hm) 32)) := by
  refine loop_seq (fun fu (s : Int32) x => fX6_gainInAllOrders_4 (nI f) (nI n) pho fu s x) (fun i => nI (sumN (shW n f hm) i)) 32 (some (nI (sumN (shW n f hm) 32))) (fun fu => ?_) (fun fu s hs => ?_) 32 0 FU (by omega) (by unfold FU; omega)
  · simp (disch := omega) only [fX6_gainInAllOrders_4, gX6_gainInAllOrders_4, i_31, ltS, show 31 < 32 by omega, reduceIte]
  · have h3 := two5 hn
    have hf2 := two_lt hf hn
    have hO : (2 ^ n - 1) &&& (31 ^^^ 2 ^ f) < 32 := Nat.lt_of_le_of_lt Nat.and_le_left (by omega)
    have ew := without (2 ^ n - 1) (by omega) (2 ^ f) hf2
    have hsc := sh_c s hs f (by omega)
    have es : sumN (shW n f hm) (s + 1) = sumN (shW n f hm) s + shW n f hm s := rfl
    rw [es]
    simp (disch := omega) only [fX6_gainInAllOrders_4, gX6_gainInAllOrders_4, fX6_gainInAllOrders_74, show ¬ (31 : Int32) < nI s by rw [i_31, ltS (by omega) (by omega)]; omega, reduceIte, allBits_spec n hn, obind, shl_1, ew, within_c s hs _ hO, sh_a n (by omega) f hf s hs, cnt_c s hs, or_s, peace_c hn h hsc, peace_c hn h hs, nI_1, decide_eq_true_eq]
    by_cases q : s < 2 ^ n ∧ bt s f = 0
    · have hp := sh_b n (by omega) f hf s hs q.1 q.2
      have hm1 := calm_mono hn hf hs h
      rw [if_pos q, ord_c _ (by omega), obind, i_1, sub_s (by omega), sub_s (by omega), ord_c _ (by omega), obind, sub_s hm1, pk_mul, pk_mul, nI_add, shW_y q]
    · rw [if_neg q, shW_n q]; rfl
theorem shW_le {n f : Nat} (hn : n ≤ 5) (hf : f < n) (hm : Nat → Nat) {s : Nat} (hs : s < 32) : shW n f hm s ≤ 5 * 120 * 120 := by
  unfold shW
  split
  · rename_i q
    have hp := sh_b n (by omega) f hf s hs q.1 q.2
    have h1 := calmN_le n hm (s ||| 2 ^ f)
    exact Nat.mul_le_mul (Nat.mul_le_mul (by omega) (facN_b _ (by omega)).2) (facN_b _ (by omega)).2
  · omega
/-- SHARE -/
theorem sim_share {n : Nat} {hm : Nat → Nat} {pcl phr pho mcl mws mho : Nat → Int32} (P : PL n hm pcl phr pho mcl mws mho) (x1 : Int32) (x2 : Bool) : ∃ r, fX9_share x1 x2 (nI n) pho = some r ∧ fX10_share x1 x2 (nI n) mho = some r := by
  obtain ⟨hn, hc, hcl, hws, hh, hho⟩ := P
  have hr := hh.to hho
  unfold fX9_share fX10_share
  simp only [has_spec hn, isFlag_spec hn, obind]
  rcases flag_cases n hn x1 with ⟨f, hf, rfl⟩ | h1
  · have h3 := two5 hn
    have hS : sumN (shW n f hm) 32 ≤ 32 * (5 * 120 * 120) := sumN_le (fun s hs => shW_le hn hf hm hs)
    have hS2 : sumN (shW n f hm) 32 = sumN (shW n f hm) (2 ^ n) := sumN_cut h3 (fun s h1 _ => by
      unfold shW; rw [if_neg (fun q => by omega)])
    have hF := facN_b n (by omega)
    obtain ⟨g, g0, g1, g2, g3⟩ := frac_sim (a := sumN (shW n f hm) 32) (b := facN n) (by omega) hF.1 (by omega)
    simp only [hasB_nI hf hn, reduceIte, gain_all hn hf hh, obind, ord_c n (by omega)]
    unfold fX9_toldFraction
    simp only [g2, obind, nI_ne0 g0 g1, reduceIte]
    have key : fX10_share_15 (nI f) x2 (nI n) mho FU (nI 0) (nI 0) = (if x2 = true then some (nI (sumN (shW n f hm) 32) / nI g) else some (nI (facN n) / nI g)) := by
      refine loop_seq (fun fu (s : Int32) x => fX10_share_15 (nI f) x2 (nI n) mho fu s x) (fun i => nI (sumN (shW n f hm) i)) (2 ^ n) _ (fun fu => ?_) (fun fu s hs => ?_) (2 ^ n) 0 FU (by omega) (by unfold FU; omega)
      · simp (disch := omega) only [fX10_share_15, gX10_share_15, shl_1, leS, Nat.le_refl, reduceIte, fac_r n (by omega), obind, ← hS2, g3, nI_ne0 g0 g1]
      · have hs32 : s < 32 := by omega
        have hb1 := bt_le s f
        have hsc := sh_c s hs32 f (by omega)
        have es : sumN (shW n f hm) (s + 1) = sumN (shW n f hm) s + shW n f hm s := rfl
        rw [es]
        simp (disch := omega) only [fX10_share_15, gX10_share_15, fX10_share_84, shl_1, leS, show ¬ 2 ^ n ≤ s by omega, reduceIte, hasr_spec, obind, cnt_r s hs32, or_s, calm_r hn hr hsc, calm_r hn hr hs32, nI_1, decide_eq_true_eq]
        by_cases q : bt s f = 1
        · rw [if_pos q, shW_n (fun z => by omega)]; rfl
        · have hp := sh_b n (by omega) f hf s hs32 hs (by omega)
          have hm1 := calm_mono hn hf hs32 hh
          rw [if_neg q, fac_r _ (by omega), obind, i_1, sub_s (by omega), sub_s (by omega), fac_r _ (by omega), obind, sub_s hm1, pk_mul, pk_mul, nI_add, shW_y ⟨hs, by omega⟩, Nat.mul_comm (facN (popN s) * _), Nat.mul_assoc]
    cases x2
    · exact ⟨_, rfl, key⟩
    · exact ⟨_, rfl, key⟩
  · simp only [h1, Bool.false_eq_true, reduceIte]; exact ⟨_, rfl, rfl⟩
