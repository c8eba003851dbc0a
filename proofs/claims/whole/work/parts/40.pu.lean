/-! ===== PURE LAYER: weeks, judged ===== -/
def canB (t : Int32) (n : Nat) (wh : Nat → Int32) (f : Nat) : Bool := decide (wh f = 0) && !decide (t - nI (popN (bitsN (fun i => decide (wh i = 1)) n)) ≤ 0)
theorem can_c {n f : Nat} (hn : n ≤ 5) (hf : f < n) (t : Int32) (wh : Nat → Int32) : fX8_canBeSent (nI f) wh t (nI n) = some (canB t n wh f) := by
  unfold fX8_canBeSent canB
  rw [has_spec hn, obind, hasB_nI hf hn, if_pos rfl, inb_t (by omega) (by omega), if_pos rfl, cl_s (by omega), freeTubs_spec hn, obind]
  by_cases q : wh f = 0
  · rw [if_pos q]
    by_cases q2 : t - nI (popN (bitsN (fun i => decide (wh i = 1)) n)) ≤ 0
    · rw [if_pos q2]; simp [q2]
    · rw [if_neg q2]; simp [q, q2]
  · rw [if_neg q]; simp [q]
theorem can_r {n lev f : Nat} (hn : n ≤ 5) (hl : lev ≤ 1) (hf : f < n) (t p : Int32) {m0 wh lf co m : Nat → Int32} {wi ho : Int32} (h : RVo n lev m0 wh lf co wi ho m) : fX10_canSend (nI lev) (nI f) (nI n) t p m = some (canB t n wh f) := by
  have e : bitsN (fun j => decide (m (17 * lev + 5 + j) = 1)) n = bitsN (fun j => decide (wh j = 1)) n := bitsN_cong (fun j hj => by rw [(h.1 j hj).2.1])
  have ef := freeT_spec (lev := lev) hn hl m t p
  rw [e] at ef
  unfold fX10_canSend canB
  rw [isFlag_spec hn, obind, hasB_nI hf hn, if_pos rfl, ef, obind]
  simp (disch := omega) only [i_17, i_5, pk_mul, nI_add, inb_t, cl_s, reduceIte, (h.1 f hf).2.1]
  by_cases q : wh f = 0
  · rw [if_pos q]
    by_cases q2 : t - nI (popN (bitsN (fun i => decide (wh i = 1)) n)) ≤ 0
    · rw [if_pos q2]; simp [q2]
    · rw [if_neg q2]; simp [q, q2]
  · rw [if_neg q]; simp [q]
theorem canN_c {n : Nat} (hn : n ≤ 5) {x : Int32} (hx : hasB n x = false) (t : Int32) (wh : Nat → Int32) : fX8_canBeSent x wh t (nI n) = some false := by
  unfold fX8_canBeSent
  rw [has_spec hn, obind, hx, if_neg (by decide)]
theorem canN_r {n : Nat} (hn : n ≤ 5) {x : Int32} (hx : hasB n x = false) (l t p : Int32) (m : Nat → Int32) : fX10_canSend l x (nI n) t p m = some false := by
  unfold fX10_canSend
  rw [isFlag_spec hn, obind, hx, if_neg (by decide)]
theorem pullOn_spec {n lev i : Nat} (hn : n ≤ 5) (hl : lev ≤ 1) (hi : i < n) {m0 wh lf co m : Nat → Int32} {wi ho : Int32} (h : RVo n lev m0 wh lf co wi ho m) : ∃ m', fX10_pullOn (nI lev) (nI i) m = some m' ∧ RVo n lev m0 (upd wh i 0) (upd lf i 0) co wi ho m' := by
  refine ⟨upd (upd m (17 * lev + 5 + i) 0) (17 * lev + 10 + i) 0, ?_, (h.w hn hi 0).l hn hi 0⟩
  unfold fX10_pullOn
  simp (disch := omega) only [i_17, i_10, i_5, pk_mul, nI_add, inb_t, cl_s, reduceIte]
/-- one is sent, if it can be -/
theorem send_sim {n : Nat} (hn : n ≤ 5) {m0 wh lf co m phr mws : Nat → Int32} {wi ho t p : Int32} (hws : ∀ i, i < n → mws i = phr i) (hR : RVo n 1 m0 wh lf co wi ho m) (x : Int32) :
    ∃ b wh' lf' m', fX8_sendIfItCan x wh lf t (nI n) phr = some (b, wh', lf') ∧ fX10_canSend (1 : Int32) x (nI n) t p m = some b ∧ (b = true → fX10_sendOn (1 : Int32) x mws m = some m') ∧ (b = false → m' = m) ∧ RVo n 1 m0 wh' lf' co wi ho m' := by
  unfold fX8_sendIfItCan
  rcases flag_cases n hn x with ⟨f, hf, rfl⟩ | h1
  · have c1 := can_c hn hf t wh
    have c2 := can_r hn (Nat.le_refl 1) hf t p hR
    rw [← i_1] at c2
    rw [c1, c2, obind]
    cases hb : canB t n wh f
    · exact ⟨false, wh, lf, m, rfl, rfl, fun z => absurd z (by decide), fun _ => rfl, hR⟩
    · obtain ⟨m', g1, g2⟩ := sendOn_spec hn (Nat.le_refl 1) hf mws hR
      rw [← i_1] at g1
      rw [hws f hf] at g2
      refine ⟨true, upd wh f 1, upd lf f (phr f), m', ?_, rfl, fun _ => g1, fun z => absurd z (by decide), g2⟩
      rw [if_pos rfl, put_spec hn (by omega), if_pos hf, obind]
  · rw [canN_c hn h1, canN_r hn h1, obind]
    exact ⟨false, wh, lf, m, rfl, rfl, fun z => absurd z (by decide), fun _ => rfl, hR⟩
/-- what a figure of chance does -/
theorem chance_sim {n : Nat} (hn : n ≤ 5) {m0 wh lf co m pcl mcl phr mws mho : Nat → Int32} {wi ho t p : Int32} (hc : CL n pcl) (hcl : ∀ i, i < n → mcl i = pcl i) (hws : ∀ i, i < n → mws i = phr i) (hR : RVo n 1 m0 wh lf co wi ho m) (v : Int32) :
    ∃ wh' lf' co' wi' ho' m', fX8_doByChance v wh lf co wi ho t p (nI n) pcl phr = some (wh', lf', co', wi', ho') ∧ (∀ rec23 x1 x2 x3 sd, fX10_weeks_58 rec23 x1 x2 x3 v (nI n) t p mcl mws mho m sd = fX10_weeks_101 rec23 x1 x2 x3 (nI n) t p mcl mws mho m' sd) ∧ RVo n 1 m0 wh' lf' co' wi' ho' m' := by
  have e1 : (5 ≤ v) = (5 ≤ v.toInt) := propext Int32.le_iff_toInt_le
  have e2 : (v ≤ 4) = (v.toInt ≤ 4) := propext Int32.le_iff_toInt_le
  unfold fX8_doByChance
  simp only [fX10_weeks_58, e1, e2]
  by_cases q : v.toInt ≤ 4
  · obtain ⟨b, wh', lf', m', g1, g2, g3, g4, g5⟩ := send_sim (t := t) (p := p) hn hws hR v
    refine ⟨wh', lf', co, wi, ho, m', ?_, ?_, g5⟩
    · rw [if_neg (by omega), g1, obind]
    · intro rec23 x1 x2 x3 sd
      rw [if_pos q, g2, obind]
      cases b
      · rw [if_neg (by decide), g4 rfl]
      · rw [if_pos rfl, g3 rfl, obind]
  · obtain ⟨cb, wh', lf', co', m', c1, c2, c3, c4, c5⟩ := pass_sim (t := t) (p := p) hn (Nat.le_refl 1) hc hcl (hR.wd hn (jrem v 3))
    rw [← i_1] at c3
    refine ⟨wh', lf', co', jrem v 3, ho + 1, m', ?_, ?_, c4⟩
    · rw [if_pos (by omega), c2, obind]
    · intro rec23 x1 x2 x3 sd
      rw [if_neg q, show (32 : Int32).toNatClampNeg = 17 * 1 + 15 by decide, c3, obind]
theorem weeks_sim {n M : Nat} (hn : n ≤ 5) (hM : M ≤ 30) {m0 pcl mcl phr mws pho mho : Nat → Int32} {hm : Nat → Nat} {t p : Int32} (hc : CL n pcl) (hcl : ∀ i, i < n → mcl i = pcl i) (hws : ∀ i, i < n → mws i = phr i) (hh : HOS n pho hm) (hho : ∀ i, i < n → mho i = pho i) : ∀ (k i fu fu' : Nat) (c : Int32) (wh lf co m : Nat → Int32) (wi ho : Int32) (sd : Int64), i + k = M → k < fu → k < fu' → RVo n 1 m0 wh lf co wi ho m →
    ∃ r w1 w2 w3 w4 w5 sd' m', fX9_weeks_29 (nI M) t p (nI n) pcl phr pho fu c (nI i) wh lf co wi ho sd = some (r, w1, w2, w3, w4, w5, sd') ∧ fX10_weeks_23 (nI M) (nI n) t p mcl mws mho fu' c (nI i) m sd = some (r, m', sd') ∧ ∀ k, (k < 17 ∨ 34 ≤ k) → m' k = m0 k
  | 0, i, 0, _, _, _, _, _, _, _, _, _, _, h, _, _ => absurd h (Nat.lt_irrefl 0)
  | 0, i, _ + 1, 0, _, _, _, _, _, _, _, _, _, _, h, _ => absurd h (Nat.lt_irrefl 0)
  | 0, i, fu + 1, fu' + 1, c, wh, lf, co, m, wi, ho, sd, hi, _, _, hR => by
    refine ⟨c, wh, lf, co, wi, ho, sd, m, ?_, ?_, fun k hk => hR.2.2.2 k (by omega)⟩
    · show gX9_weeks_29 _ _ _ _ _ _ _ _ _ _ _ _ _ _ _ _ = _
      unfold gX9_weeks_29
      rw [if_pos (by rw [leS (by omega) (by omega)]; omega)]
    · show gX10_weeks_23 _ _ _ _ _ _ _ _ _ _ _ _ = _
      unfold gX10_weeks_23
      rw [if_pos (by rw [leS (by omega) (by omega)]; omega)]
  | k + 1, i, 0, _, _, _, _, _, _, _, _, _, _, h, _, _ => absurd h (Nat.not_lt_zero _)
  | k + 1, i, _ + 1, 0, _, _, _, _, _, _, _, _, _, _, h, _ => absurd h (Nat.not_lt_zero _)
  | k + 1, i, fu + 1, fu' + 1, c, wh, lf, co, m, wi, ho, sd, hi, h1, h2, hR => by
    obtain ⟨wh', lf', co', wi', ho', m', g1, g2, g3⟩ := chance_sim (mho := mho) (t := t) (p := p) hn hc hcl hws hR (jremL (((sd * (6364136223846793005 : Int64)) + (1442695040888963407 : Int64)).toUInt64 >>> ((33 : Int32).toInt64.toUInt64 &&& Int64.toUInt64 63)).toInt64 (10 : Int64)).toInt32
    have e : bitsN (fun j => decide (m' (17 * 1 + 5 + j) = 0)) n = bitsN (fun j => decide (wh' j = 0)) n := bitsN_cong (fun j hj => by rw [(g3.1 j hj).2.1])
    have ea := areIn_spec hn (Nat.le_refl 1) (0 : Int32) m'
    rw [e, ← i_1] at ea
    have hb := bits32 (fun j => decide (wh' j = 0)) hn
    have ep : fX8_pairsThatMayFight wh' (nI n) pho = some (nI (pairsN n hm (bitsN (fun j => decide (wh' j = 0)) n))) := by
      unfold fX8_pairsThatMayFight
      rw [homeBits_spec hn, obind, pairs_spec hn hh hb, obind]
    have er := fights_spec hn (hh.to hho) hb
    have s1 : fX9_weeks_29 (nI M) t p (nI n) pcl phr pho (fu + 1) c (nI i) wh lf co wi ho sd = fX9_weeks_29 (nI M) t p (nI n) pcl phr pho fu (if nI (pairsN n hm (bitsN (fun j => decide (wh' j = 0)) n)) ≤ 0 then c else c + 1) (nI (i + 1)) wh' lf' co' wi' ho' ((sd * (6364136223846793005 : Int64)) + (1442695040888963407 : Int64)) := by
      show gX9_weeks_29 _ _ _ _ _ _ _ _ _ _ _ _ _ _ _ _ = _
      unfold gX9_weeks_29 fX9_weeks_82
      rw [if_neg (by rw [leS (by omega) (by omega)]; omega), g1, obind, ep, obind, nI_1]
      split <;> rfl
    have s2 : fX10_weeks_23 (nI M) (nI n) t p mcl mws mho (fu' + 1) c (nI i) m sd = fX10_weeks_23 (nI M) (nI n) t p mcl mws mho fu' (if nI (pairsN n hm (bitsN (fun j => decide (wh' j = 0)) n)) ≤ 0 then c else c + 1) (nI (i + 1)) m' ((sd * (6364136223846793005 : Int64)) + (1442695040888963407 : Int64)) := by
      show gX10_weeks_23 _ _ _ _ _ _ _ _ _ _ _ _ = _
      unfold gX10_weeks_23
      rw [if_neg (by rw [leS (by omega) (by omega)]; omega), g2]
      unfold fX10_weeks_101 fX10_weeks_120
      rw [ea, obind, er, obind, nI_1]
      split
      · show fX10_weeks_23 _ _ _ _ _ _ _ _ (c + 0) _ _ _ = _
        rw [Int32.add_zero]
      · rfl
    rw [s1, s2]
    exact weeks_sim (t := t) (p := p) hn hM hc hcl hws hh hho k (i + 1) fu fu' _ wh' lf' co' m' wi' ho' _ (by omega) (by omega) (by omega) g3
/-- WEEKS -/
theorem sim_weeks {n : Nat} {hm : Nat → Nat} {pcl phr pho mcl mws mho : Nat → Int32} (P : PL n hm pcl phr pho mcl mws mho) {m wh lf co twh tlf tco : Nat → Int32} {wi ho twi tho t p : Int32} {sd : Int64} (hR : RVo n 0 m wh lf co wi ho m) (x1 : Int32) :
    ∃ r a1 a2 a3 a4 a5 sd' m', fX9_weeks x1 t p (nI n) pcl phr pho wh lf co wi ho twh tlf tco twi tho sd = some (r, a1, a2, a3, a4, a5, sd') ∧ fX10_weeks x1 (nI n) t p mcl mws mho m sd = some (r, m', sd') ∧ ∀ k, (k < 17 ∨ 34 ≤ k) → m' k = m k := by
  obtain ⟨hn, hc, hcl, hws, hh, hho⟩ := P
  unfold fX9_weeks fX10_weeks
  simp only [obind, inS x1 1 30 1 30 rfl rfl]
  have e1 : (x1 < 1) = (x1.toInt < 1) := propext Int32.lt_iff_toInt_lt
  have e2 : (x1 ≤ 30) = (x1.toInt ≤ 30) := propext Int32.le_iff_toInt_le
  simp only [e1, e2]
  by_cases a1 : 1 ≤ x1.toInt ∧ x1.toInt ≤ 30
  · obtain ⟨k, hk, rfl⟩ := (rng_cases x1 30 (by omega)).resolve_right (fun z => z (by omega))
    have ek := nI_toInt (n := k) (by omega)
    have h1 := lay_rel hn hR
    have h2 : RVo n 1 m (va_cpy wh twh (0 : Int32).toNatClampNeg (0 : Int32).toNatClampNeg (5 : Int32).toNatClampNeg) (va_cpy lf tlf (0 : Int32).toNatClampNeg (0 : Int32).toNatClampNeg (5 : Int32).toNatClampNeg) (va_cpy co tco (0 : Int32).toNatClampNeg (0 : Int32).toNatClampNeg (5 : Int32).toNatClampNeg) wi ho (layS m 17) := h1.to (fun j hj => (cpy_at (by omega)).symm) (fun j hj => (cpy_at (by omega)).symm) (fun j hj => (cpy_at (by omega)).symm)
    obtain ⟨r, w1, w2, w3, w4, w5, sd', m', d1, d2, d3⟩ := weeks_sim (t := t) (p := p) hn hk hc hcl hws hh hho k 0 FU FU 0 _ _ _ _ wi ho sd (by omega) (by unfold FU; omega) (by unfold FU; omega) h2
    refine ⟨r, w1, w2, w3, w4, w5, sd', m', ?_, ?_, d3⟩
    · rw [if_neg (by omega), if_pos (by omega)]
      unfold fX8_copyFrom
      rw [obind]
      exact d1
    · rw [if_pos (decide_eq_true a1), lay_spec, obind]
      exact d2
  · refine ⟨-2, twh, tlf, tco, twi, tho, sd, m, ?_, if_neg (fun z => a1 (of_decide_eq_true z)), fun _ _ => rfl⟩
    by_cases z : x1.toInt < 1
    · rw [if_pos z]
    · rw [if_neg z, if_neg (by omega)]
theorem wl_spec {row k : Nat} (hr : row < 2147483648) (hk : k ≤ 6) : fX9_withoutLastFigures (nI row) (nI k) = some (nI (row / 10 ^ k)) := by
  have key := loop_seq (fun fu (s : Int32) x => fX9_withoutLastFigures_4 (nI k) fu s x) (fun i => nI (row / 10 ^ i)) k (some (nI (row / 10 ^ k))) (fun fu => by
    simp (disch := omega) only [fX9_withoutLastFigures_4, gX9_withoutLastFigures_4, leS, Nat.le_refl, reduceIte]) (fun fu i hi => by
    have h1 : row / 10 ^ i ≤ row := Nat.div_le_self _ _
    have e : row / 10 ^ (i + 1) = row / 10 ^ i / 10 := by rw [Nat.pow_succ, Nat.div_div_eq_div_mul]
    rw [e]
    simp (disch := omega) only [fX9_withoutLastFigures_4, gX9_withoutLastFigures_4, leS, show ¬ k ≤ i by omega, reduceIte, i_10, pk_div, i_1, nI_add]) k 0 FU (by omega) (by unfold FU; omega)
  simp only [Nat.pow_zero, Nat.div_one] at key
  exact key
theorem tt_spec : ∀ k, k < 7 → fX10_tenTo (nI k) = some (nI (10 ^ k)) := by decide +kernel
/-- a told doing is tried -/
theorem try_sim {n d : Nat} (hn : n ≤ 5) (hd : d < 10) {m0 wh lf co m pcl mcl phr mws : Nat → Int32} {wi ho t p : Int32} (hc : CL n pcl) (hcl : ∀ i, i < n → mcl i = pcl i) (hws : ∀ i, i < n → mws i = phr i) (hR : RVo n 1 m0 wh lf co wi ho m) :
    ∃ b wh' lf' co' ho' m', fX8_doFigure (nI d) wh lf co wi ho t p (nI n) pcl phr = some (b, wh', lf', co', ho') ∧ fX10_tryThing (nI d) (nI n) t p mcl mws m = some (b, m') ∧ RVo n 1 m0 wh' lf' co' wi ho' m' := by
  unfold fX8_doFigure fX10_tryThing
  by_cases q0 : d = 0
  · subst q0
    obtain ⟨cb, wh', lf', co', m', c1, c2, c3, c4, c5⟩ := pass_sim (t := t) (p := p) hn (Nat.le_refl 1) hc hcl hR
    rw [← i_1] at c3
    refine ⟨true, wh', lf', co', ho + 1, m', ?_, ?_, c4⟩
    · rw [if_pos nI_0, c2, obind]
    · rw [if_pos nI_0, c3, obind, if_neg (nI_pos (by omega))]
  · have n0 : ¬ nI d = 0 := nI_ne0 (by omega) (by omega)
    rw [if_neg n0, if_neg n0]
    by_cases q6 : 6 ≤ d
    · obtain ⟨g, rfl⟩ : ∃ g, d = g + 6 := ⟨d - 6, by omega⟩
      have es : nI (g + 6) - (6 : Int32) = nI g := by rw [i_6, sub_s (by omega)]; rfl
      have e22 : (22 : Int32) + nI (g + 6) - (6 : Int32) = nI (17 * 1 + 5 + g) := by
        rw [i_6, show (22 : Int32) = nI 22 from rfl, nI_add, sub_s (by omega)]; congr 1
      rw [if_pos (by rw [i_5, ltS (by omega) (by omega)]; omega), if_pos (by rw [i_6, leS (by omega) (by omega)]; omega), es, e22, isFlag_spec hn, obind]
      unfold fX8_canBePulled fX10_tryThing_77 fX10_tryThing_78
      rw [has_spec hn, obind, es]
      by_cases hg : g < n
      · have hb := hasB_nI hg hn
        rw [hb, if_pos rfl, if_pos rfl, inb_t (by omega) (by omega), if_pos rfl, inb_t (by omega) (by omega), if_pos rfl, cl_s (by omega), cl_s (by omega), (hR.1 g hg).2.1]
        by_cases q : wh g = 0
        · rw [if_pos q, if_pos q, obind]
          exact ⟨false, wh, lf, co, ho, m, rfl, rfl, hR⟩
        · obtain ⟨m', g1, g2⟩ := pullOn_spec hn (Nat.le_refl 1) hg hR
          rw [← i_1] at g1
          rw [if_neg q, if_neg q, obind, if_pos rfl, if_pos rfl, g1, obind, home_spec hn hg, obind]
          exact ⟨true, upd wh g 0, upd lf g 0, co, ho, m', rfl, rfl, g2⟩
      · have hb : hasB n (nI g) = false := by
          simp only [hasB, nI_toInt (show g < 2 ^ 31 by omega), decide_eq_false_iff_not]; omega
        rw [hb, if_neg (by decide), if_neg (by decide), obind]
        exact ⟨false, wh, lf, co, ho, m, rfl, rfl, hR⟩
    · rw [if_neg (by rw [i_5, ltS (by omega) (by omega)]; omega), if_neg (by rw [i_6, leS (by omega) (by omega)]; omega)]
      obtain ⟨b, wh', lf', m', g1, g2, g3, g4, g5⟩ := send_sim (t := t) (p := p) hn hws hR (nI d - 1)
      rw [g1, g2, obind, obind]
      refine ⟨b, wh', lf', co, ho, m', rfl, ?_, g5⟩
      cases b
      · rw [if_neg (by decide), g4 rfl]
      · rw [if_pos rfl, g3 rfl, obind]
theorem judge_sim {n N row : Nat} (hn : n ≤ 5) (hN : N ≤ 6) (hrow : row < 2147483648) {m0 pcl mcl phr mws : Nat → Int32} {wi t p : Int32} (hc : CL n pcl) (hcl : ∀ i, i < n → mcl i = pcl i) (hws : ∀ i, i < n → mws i = phr i) : ∀ (k i fu fu' : Nat) (wh lf co m : Nat → Int32) (ho : Int32), i + k = N → k < fu → k < fu' → RVo n 1 m0 wh lf co wi ho m →
    ∃ r w1 w2 w3 w5 m', fX9_judge_39 (nI N) (nI row) t p (nI n) pcl phr wi fu (nI i) wh lf co ho = some (r, w1, w2, w3, wi, w5) ∧ fX10_judge_37 (nI N) (nI row) (nI n) t p mcl mws fu' (nI i) m = some (r, m') ∧ ∀ k, (k < 17 ∨ 34 ≤ k) → m' k = m0 k
  | 0, i, 0, _, _, _, _, _, _, _, h, _, _ => absurd h (Nat.lt_irrefl 0)
  | 0, i, _ + 1, 0, _, _, _, _, _, _, _, h, _ => absurd h (Nat.lt_irrefl 0)
  | 0, i, fu + 1, fu' + 1, wh, lf, co, m, ho, hi, _, _, hR => by
    refine ⟨-9, wh, lf, co, ho, m, ?_, ?_, fun k hk => hR.2.2.2 k (by omega)⟩
    · show gX9_judge_39 _ _ _ _ _ _ _ _ _ _ _ _ _ _ = _
      unfold gX9_judge_39
      rw [if_pos (by rw [leS (by omega) (by omega)]; omega)]
    · show gX10_judge_37 _ _ _ _ _ _ _ _ _ _ = _
      unfold gX10_judge_37
      rw [if_pos (by rw [leS (by omega) (by omega)]; omega)]
  | k + 1, i, 0, _, _, _, _, _, _, _, h, _, _ => absurd h (Nat.not_lt_zero _)
  | k + 1, i, _ + 1, 0, _, _, _, _, _, _, _, h, _ => absurd h (Nat.not_lt_zero _)
  | k + 1, i, fu + 1, fu' + 1, wh, lf, co, m, ho, hi, h1, h2, hR => by
    have hq : row / 10 ^ (N - 1 - i) ≤ row := Nat.div_le_self _ _
    have p10 : 0 < 10 ^ (N - 1 - i) := Nat.pow_pos (by decide)
    have l10 : 10 ^ (N - 1 - i) ≤ 10 ^ 6 := Nat.pow_le_pow_right (by decide) (by omega)
    obtain ⟨b, wh', lf', co', ho', m', g1, g2, g3⟩ := try_sim (t := t) (p := p) hn (Nat.mod_lt (row / 10 ^ (N - 1 - i)) (show 0 < 10 by decide)) hc hcl hws hR
    have s1 : fX9_judge_39 (nI N) (nI row) t p (nI n) pcl phr wi (fu + 1) (nI i) wh lf co ho = (if b = true then fX9_judge_39 (nI N) (nI row) t p (nI n) pcl phr wi fu (nI (i + 1)) wh' lf' co' ho' else some (nI i, wh', lf', co', wi, ho')) := by
      show gX9_judge_39 _ _ _ _ _ _ _ _ _ _ _ _ _ _ = _
      unfold gX9_judge_39
      rw [if_neg (by rw [leS (by omega) (by omega)]; omega), i_1, sub_s (by omega), sub_s (by omega), wl_spec hrow (by omega), obind, i_10, jremS (by omega) (by omega) (by omega), g1, obind, nI_add]
    have s2 : fX10_judge_37 (nI N) (nI row) (nI n) t p mcl mws (fu' + 1) (nI i) m = (if b = true then fX10_judge_37 (nI N) (nI row) (nI n) t p mcl mws fu' (nI (i + 1)) m' else some (nI i, m')) := by
      show gX10_judge_37 _ _ _ _ _ _ _ _ _ _ = _
      unfold gX10_judge_37
      rw [if_neg (by rw [leS (by omega) (by omega)]; omega), i_1, sub_s (by omega), sub_s (by omega), tt_spec _ (by omega), obind, if_neg (nI_ne0 p10 (by omega)), pk_div hrow p10 (by omega), i_10, jremS (by omega) (by omega) (by omega), g2, obind, nI_add]
    rw [s1, s2]
    cases b
    · rw [if_neg (by decide), if_neg (by decide)]
      exact ⟨nI i, wh', lf', co', ho', m', rfl, rfl, fun k hk => g3.2.2.2 k (by omega)⟩
    · rw [if_pos rfl, if_pos rfl]
      exact judge_sim (t := t) (p := p) hn hN hrow hc hcl hws k (i + 1) fu fu' wh' lf' co' m' ho' (by omega) (by omega) (by omega) g3
/-- JUDGED -/
theorem sim_judge {n : Nat} {hm : Nat → Nat} {pcl phr pho mcl mws mho : Nat → Int32} (P : PL n hm pcl phr pho mcl mws mho) {m wh lf co twh tlf tco : Nat → Int32} {wi ho twi tho t p : Int32} (hR : RVo n 0 m wh lf co wi ho m) (x1 x2 : Int32) :
    ∃ r a1 a2 a3 a4 a5 m', fX9_judge x1 x2 t p (nI n) pcl phr wh lf co wi ho twh tlf tco twi tho = some (r, a1, a2, a3, a4, a5) ∧ fX10_judge x1 x2 (nI n) t p mcl mws m = some (r, m') ∧ ∀ k, (k < 17 ∨ 34 ≤ k) → m' k = m k := by
  obtain ⟨hn, hc, hcl, hws, hh, hho⟩ := P
  unfold fX9_judge fX10_judge
  have e1 : (x1 < 1) = (x1.toInt < 1) := propext Int32.lt_iff_toInt_lt
  have e2 : (6 < x1) = (6 < x1.toInt) := propext Int32.lt_iff_toInt_lt
  have e3 : (x2 < 0) = (x2.toInt < 0) := propext Int32.lt_iff_toInt_lt
  simp only [obind, inS x1 1 6 1 6 rfl rfl, e1, e2, e3]
  by_cases a1 : 1 ≤ x1.toInt ∧ x1.toInt ≤ 6
  · obtain ⟨N, hN, rfl⟩ := (rng_cases x1 6 (by omega)).resolve_right (fun z => z (by omega))
    have ek := nI_toInt (n := N) (by omega)
    have p10 : 0 < 10 ^ N := Nat.pow_pos (by decide)
    have l10 : 10 ^ N ≤ 10 ^ 6 := Nat.pow_le_pow_right (by decide) hN
    rw [if_neg (by omega), if_neg (by omega), if_pos (decide_eq_true a1), tt_spec N (by omega), obind, i_1, sub_s (by omega), inS x2 0 _ 0 ((10 ^ N - 1 : Nat) : Int) rfl (by rw [Int32.toInt_toInt64, nI_toInt (by omega)]), obind]
    by_cases z : x2.toInt < 0
    · rw [if_pos z, if_neg (fun y => by have := of_decide_eq_true y; omega)]
      exact ⟨-2, twh, tlf, tco, twi, tho, m, rfl, rfl, fun _ _ => rfl⟩
    · rw [if_neg z]
      obtain ⟨row, hrow, rfl⟩ : ∃ row, row < 2147483648 ∧ x2 = nI row := by
        obtain ⟨j, h1, h2⟩ := nI_of (x := x2) (by rw [e3]; exact z)
        exact ⟨j, h1, h2⟩
      have er := nI_toInt (n := row) (by omega)
      rw [wl_spec hrow hN, obind]
      have hle : row / 10 ^ N ≤ row := Nat.div_le_self _ _
      by_cases y : row < 10 ^ N
      · have h1 := lay_rel hn hR
        have h2 : RVo n 1 m (va_cpy wh twh (0 : Int32).toNatClampNeg (0 : Int32).toNatClampNeg (5 : Int32).toNatClampNeg) (va_cpy lf tlf (0 : Int32).toNatClampNeg (0 : Int32).toNatClampNeg (5 : Int32).toNatClampNeg) (va_cpy co tco (0 : Int32).toNatClampNeg (0 : Int32).toNatClampNeg (5 : Int32).toNatClampNeg) wi ho (layS m 17) := h1.to (fun j hj => (cpy_at (by omega)).symm) (fun j hj => (cpy_at (by omega)).symm) (fun j hj => (cpy_at (by omega)).symm)
        obtain ⟨r, w1, w2, w3, w5, m', d1, d2, d3⟩ := judge_sim (t := t) (p := p) hn hN hrow hc hcl hws N 0 FU FU _ _ _ _ ho (by omega) (by unfold FU; omega) (by unfold FU; omega) h2
        refine ⟨r, w1, w2, w3, wi, w5, m', ?_, ?_, d3⟩
        · rw [Nat.div_eq_of_lt y, if_pos nI_0]
          unfold fX8_copyFrom
          rw [obind]
          exact d1
        · rw [if_pos (decide_eq_true (by omega)), lay_spec, obind]
          exact d2
      · have h0 : 0 < row / 10 ^ N := Nat.div_pos (by omega) p10
        rw [if_neg (nI_ne0 h0 (by omega)), if_neg (fun w => by have := of_decide_eq_true w; omega)]
        exact ⟨-2, twh, tlf, tco, twi, tho, m, rfl, rfl, fun _ _ => rfl⟩
  · refine ⟨-2, twh, tlf, tco, twi, tho, m, ?_, if_neg (fun z => a1 (of_decide_eq_true z)), fun _ _ => rfl⟩
    by_cases z : x1.toInt < 1
    · rw [if_pos z]
    · rw [if_neg z, if_pos (by omega)]
