/-! ===== PURE LAYER: pairs that may fight, colours together ===== -/
theorem hm32 {n : Nat} (hn : n ≤ 5) {pho : Nat → Int32} {hm : Nat → Nat} (h : HOS n pho hm) {i : Nat} (hi : i < n) : hm i < 32 := Nat.lt_of_lt_of_le (h.1 i hi).2 (two5 hn)
theorem and32 {a b : Nat} (h : b < 32) : a &&& b < 32 := Nat.lt_of_le_of_lt Nat.and_le_right h
theorem sum_inner {n : Nat} (hn : n ≤ 5) {pho : Nat → Int32} {hm : Nat → Nat} (h : HOS n pho hm) {i b : Nat} (hi : i < n) : popN (hm i &&& b) = sumN (fun j => bt (hm i) j * bt b j) n := by
  rw [popN_sum]
  rw [sumN_cong (g := fun j => bt (hm i) j * bt b j) (fun j _ => bt_and _ _ _)]
  exact sumN_cut hn (fun j h1 _ => by rw [bt_big (h.1 i hi).2 h1, Nat.zero_mul])
theorem sum_low {n : Nat} (hn : n ≤ 5) {pho : Nat → Int32} {hm : Nat → Nat} (h : HOS n pho hm) {i b : Nat} (hi : i < n) : popN ((hm i &&& b) &&& (2 ^ i - 1)) = sumN (fun j => bt (hm i) j * bt b j) i := by
  rw [popN_sum]
  rw [sumN_cong (g := fun j => if j < i then bt (hm i) j * bt b j else 0) (fun j _ => by
    rw [bt_and, bt_and, bt_low]
    by_cases q : j < i <;> simp [q])]
  rw [sumN_cut (show i ≤ 5 by omega) (fun j h1 _ => if_neg (by omega))]
  exact sumN_cong (fun j hj => if_pos hj)
theorem pairsN_le {n : Nat} (hn : n ≤ 5) (hm : Nat → Nat) (b : Nat) : pairsN n hm b ≤ 25 := by
  unfold pairsN
  refine Nat.le_trans (sumN_le (c := 5) (fun i hi => ?_)) (by omega)
  have h1 : sumN (fun j => bt (hm i) j * bt b j) i ≤ i * 1 := sumN_le (fun j _ => by
    have := bt_le (hm i) j; have := bt_le b j
    calc bt (hm i) j * bt b j ≤ 1 * 1 := Nat.mul_le_mul (by assumption) (by assumption)
      _ = 1 := rfl)
  have h2 := bt_le b i
  calc bt b i * sumN (fun j => bt (hm i) j * bt b j) i ≤ 1 * (i * 1) := Nat.mul_le_mul h2 h1
    _ ≤ 5 := by omega
theorem bit01 {b i : Nat} (hb : b < 32) (hi : i < 5) : ((nI b >>> (nI i &&& 31)) &&& nI 1) = nI (bt b i) := bit_b (by omega) (by omega)
theorem shl_n {i : Nat} (h : i < 31) : nI 1 <<< (nI i &&& 31) = nI (2 ^ i) := shl_1 h
theorem pairs_spec {n : Nat} (hn : n ≤ 5) {pho : Nat → Int32} {hm : Nat → Nat} (h : HOS n pho hm) {b : Nat} (hb : b < 32) : fX4_hostilePairs (nI b) (nI n) pho = some (nI (pairsN n hm b)) := by
  have hS : ∀ i, i ≤ n → sumN (fun i => bt b i * popN (hm i &&& b)) i ≤ 25 := fun i hi => by
    refine Nat.le_trans (sumN_le (c := 5) (fun j _ => ?_)) (by omega)
    have h1 := bt_le b j
    have h2 := popN_le (hm j &&& b)
    calc bt b j * popN (hm j &&& b) ≤ 1 * 5 := Nat.mul_le_mul h1 h2
      _ = 5 := rfl
  have key := loop_seq (fun fu (s : Int32) x => fX4_hostilePairs_4 (nI b) (nI n) pho fu s x) (fun i => nI (sumN (fun i => bt b i * popN (hm i &&& b)) i)) n (some (nI (pairsN n hm b))) (fun fu => by
    simp (disch := omega) only [fX4_hostilePairs_4, gX4_hostilePairs_4, leS, Nat.le_refl, reduceIte]
    have e : sumN (fun i => bt b i * popN (hm i &&& b)) n = 2 * pairsN n hm b := by
      rw [← twice_eq h.2.1 h.2.2]
      exact sumN_cong (fun i hi => by rw [sum_inner hn h hi])
    have := pairsN_le hn hm b
    rw [e, i_2, pk_div (by omega) (by omega) (by omega), Nat.mul_div_cancel_left _ (by omega)]) (fun fu i hi => by
    have hb1 := bt_le b i
    have hp := (h.1 i hi).1
    have h32 := and32 (a := hm i) hb
    simp (disch := omega) only [fX4_hostilePairs_4, gX4_hostilePairs_4, fX4_hostilePairs_34, leS, bit01, i_0, eqS, cl_s, inb_t, hp, and_s, cnt_c, obind, reduceIte, show ¬ n ≤ i by omega, i_1, nI_add]
    rw [sumN_succ]
    by_cases q : bt b i = 0
    · rw [if_pos q, q, Nat.zero_mul]; simp only [Nat.add_zero]
    · rw [if_neg q, show bt b i = 1 by omega, Nat.one_mul]) n 0 FU (by omega) (by unfold FU; omega)
  exact key
theorem hasr_spec {b i : Nat} (hb : b < 32) (hi : i < 5) : fX10_has (nI b) (nI i) = some (decide (bt b i = 1)) := by
  unfold fX10_has
  have h1 := bt_le b i
  simp (disch := omega) only [bit01, i_1, eqS]
  by_cases q : bt b i = 1 <;> simp [q]
theorem fights_spec {n : Nat} (hn : n ≤ 5) {pho : Nat → Int32} {hm : Nat → Nat} (h : HOS n pho hm) {b : Nat} (hb : b < 32) : fX10_fights (nI b) (nI n) pho = some (nI (pairsN n hm b)) := by
  have key := loop_seq (fun fu (s : Int32) x => fX10_fights_4 (nI b) (nI n) pho fu s x) (fun i => nI (sumN (fun i => bt b i * sumN (fun j => bt (hm i) j * bt b j) i) i)) n (some (nI (pairsN n hm b))) (fun fu => by
    simp (disch := omega) only [fX10_fights_4, gX10_fights_4, leS, Nat.le_refl, reduceIte]
    rfl) (fun fu i hi => by
    have hb1 := bt_le b i
    have hp := (h.1 i hi).1
    have h1 : 1 ≤ 2 ^ i := Nat.one_le_two_pow
    have e32 : ((hm i &&& b) &&& (2 ^ i - 1)) < 32 := Nat.lt_of_le_of_lt Nat.and_le_left (and32 hb)
    simp (disch := omega) only [fX10_fights_4, gX10_fights_4, fX10_fights_42, leS, hasr_spec, obind, cl_s, inb_t, hp, and_s, shl_n, i_1, sub_s, reduceIte, show ¬ n ≤ i by omega, decide_eq_true_eq, i_0, nI_add]
    rw [cnt_r _ e32, obind, sumN_succ, sum_low hn h hi]
    by_cases q : bt b i = 1
    · rw [if_pos q, q, Nat.one_mul, nI_add]
    · rw [if_neg q, show bt b i = 0 by omega, Nat.zero_mul]) n 0 FU (by omega) (by unfold FU; omega)
  exact key
/-- all of these together -/
def orN (g : Nat → Int32) : Nat → Int32
  | 0 => 0
  | n + 1 => orN g n ||| g n
theorem orN_succ (g : Nat → Int32) (n : Nat) : orN g (n + 1) = orN g n ||| g n := rfl
theorem orN_cong {f g : Nat → Int32} : ∀ {n : Nat}, (∀ i, i < n → f i = g i) → orN f n = orN g n
  | 0, _ => rfl
  | n + 1, h => by rw [orN_succ, orN_succ, orN_cong (fun i hi => h i (by omega)), h n (by omega)]
def colS (n : Nat) (co : Nat → Int32) (b : Nat) : Int32 := orN (fun i => if bt b i = 1 then co i else 0) n
theorem colours_spec {n : Nat} (hn : n ≤ 5) (co : Nat → Int32) {b : Nat} (hb : b < 32) : fX8_coloursOf (nI b) co (nI n) = some (colS n co b) := by
  have key := loop_seq (fun fu (s : Int32) x => fX8_coloursOf_4 (nI b) co (nI n) fu s x) (fun i => orN (fun i => if bt b i = 1 then co i else 0) i) n (some (colS n co b)) (fun fu => by
    simp (disch := omega) only [fX8_coloursOf_4, gX8_coloursOf_4, leS, Nat.le_refl, reduceIte]
    rfl) (fun fu i hi => by
    have hb1 := bt_le b i
    simp (disch := omega) only [fX8_coloursOf_4, gX8_coloursOf_4, fX8_coloursOf_32, leS, bit01, i_0, eqS, cl_s, inb_t, reduceIte, show ¬ n ≤ i by omega, i_1, nI_add, orN_succ]
    by_cases q : bt b i = 1
    · rw [if_neg (by omega), if_pos q]
    · rw [if_pos (by omega), if_neg q, ← i_0, Int32.or_zero]) n 0 FU (by omega) (by unfold FU; omega)
  exact key
theorem coloursR_spec {n lev : Nat} (hn : n ≤ 5) (hl : lev ≤ 1) (m : Nat → Int32) {b : Nat} (hb : b < 32) : fX10_coloursOf (nI lev) (nI b) (nI n) m = some (colS n (fun i => m (17 * lev + i)) b) := by
  have key := loop_seq (fun fu (s : Int32) x => fX10_coloursOf_5 (nI lev) (nI b) (nI n) m fu s x) (fun i => orN (fun i => if bt b i = 1 then m (17 * lev + i) else 0) i) n (some (colS n (fun i => m (17 * lev + i)) b)) (fun fu => by
    simp (disch := omega) only [fX10_coloursOf_5, gX10_coloursOf_5, leS, Nat.le_refl, reduceIte]
    rfl) (fun fu i hi => by
    have hb1 := bt_le b i
    simp (disch := omega) only [fX10_coloursOf_5, gX10_coloursOf_5, fX10_coloursOf_40, leS, hasr_spec, obind, i_17, pk_mul, nI_add, cl_s, inb_t, reduceIte, show ¬ n ≤ i by omega, decide_eq_true_eq, i_1, orN_succ]
    by_cases q : bt b i = 1
    · rw [if_pos q, if_pos q]
    · rw [if_neg q, if_neg q]) n 0 FU (by omega) (by unfold FU; omega)
  exact key
