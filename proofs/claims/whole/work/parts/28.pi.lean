/-! ===== PURE LAYER: quiet, peace, which to send ===== -/
def PL (n : Nat) (hm : Nat → Nat) (pcl phr pho mcl mws mho : Nat → Int32) : Prop := n ≤ 5 ∧ CL n pcl ∧ (∀ i, i < n → mcl i = pcl i) ∧ (∀ i, i < n → mws i = phr i) ∧ HOS n pho hm ∧ ∀ i, i < n → mho i = pho i
/-- in how many hours, once some are sent: the class and the reference -/
theorem hours_set {n b : Nat} {hm : Nat → Nat} {pcl phr pho mcl mws mho : Nat → Int32} (P : PL n hm pcl phr pho mcl mws mho) (hb : b < 32) {m wh lf co twh tlf tco : Nat → Int32} {wi ho twi tho t p : Int32} (hR : RVo n 0 m wh lf co wi ho m) :
    ∃ r a1 a2 a3 a4 a5 m', fX2_hoursToFight (nI b) (31 : Int32) twh tlf tco twi tho wh lf co wi ho p (nI n) pcl phr pho = some (r, a1, a2, a3, a4, a5) ∧ fX10_quietBy (nI b) (nI n) t p mcl mws mho m = some (r, m') ∧ (∀ k, (k < 17 ∨ 34 ≤ k) → m' k = m k) ∧ (r = -9 ∨ ∃ q, q ≤ 40 ∧ r = nI q) := by
  obtain ⟨hn, hc, hcl, hws, hh, hho⟩ := P
  have h1 := lay_rel hn hR
  have h2 : RVo n 1 m (va_cpy wh twh (0 : Int32).toNatClampNeg (0 : Int32).toNatClampNeg (5 : Int32).toNatClampNeg) (va_cpy lf tlf (0 : Int32).toNatClampNeg (0 : Int32).toNatClampNeg (5 : Int32).toNatClampNeg) (va_cpy co tco (0 : Int32).toNatClampNeg (0 : Int32).toNatClampNeg (5 : Int32).toNatClampNeg) wi ho (layS m 17) := h1.to (fun j hj => (cpy_at (by omega)).symm) (fun j hj => (cpy_at (by omega)).symm) (fun j hj => (cpy_at (by omega)).symm)
  obtain ⟨m1, g1, g2⟩ := puts_r (b := b) (mcl := mcl) (mws := mws) (mho := mho) (t := t) (p := p) hn hb hws h2
  have g1' := g1.to (wh' := mapN 5 (sW n b (va_cpy wh twh (0 : Int32).toNatClampNeg (0 : Int32).toNatClampNeg (5 : Int32).toNatClampNeg)) (va_cpy wh twh (0 : Int32).toNatClampNeg (0 : Int32).toNatClampNeg (5 : Int32).toNatClampNeg)) (lf' := mapN 5 (sL n b phr (va_cpy lf tlf (0 : Int32).toNatClampNeg (0 : Int32).toNatClampNeg (5 : Int32).toNatClampNeg)) (va_cpy lf tlf (0 : Int32).toNatClampNeg (0 : Int32).toNatClampNeg (5 : Int32).toNatClampNeg)) (fun j hj => by rw [mapN_lt hj, mapN_lt (by omega)]) (fun j hj => by rw [mapN_lt hj, mapN_lt (by omega)]) (fun j _ => rfl)
  obtain ⟨r, w1, w2, w3, ho', m', d1, d2, d3, d4, d5⟩ := quiet_sim (t := t) (p := p) (fl := 31) hn (by decide) hc hcl hh hho 41 0 FU FU _ _ _ m1 ho (by omega) (by unfold FU; omega) (by unfold FU; omega) g1'
  have hq : fX10_quietBy (nI b) (nI n) t p mcl mws mho m = some (r, m') := by
    unfold fX10_quietBy
    rw [lay_spec, obind, i_0, g2]
    unfold fX10_quietOf
    rw [i_31, i_0, d2, obind]
  unfold fX2_hoursToFight
  rw [i_31, pairs_spec hn hh (by decide), obind]
  by_cases h0 : pairsN n hm 31 = 0
  · have hr := d5 h0
    subst hr
    refine ⟨-9, twh, tlf, tco, twi, tho, m', ?_, hq, d3, Or.inl rfl⟩
    rw [h0, if_pos nI_0]
  · have hle := pairsN_le hn hm 31
    refine ⟨r, w1, w2, w3, wi, ho', m', ?_, hq, d3, d4⟩
    rw [if_neg (nI_ne0 (by omega) (by omega))]
    unfold fX8_copyFrom
    rw [obind, i_0]
    show fX2_hoursToFight_25 (nI b) (nI 31) (va_cpy co tco (0 : Int32).toNatClampNeg (0 : Int32).toNatClampNeg (5 : Int32).toNatClampNeg) wi ho p (nI n) pcl phr pho FU (nI 0) (va_cpy wh twh (0 : Int32).toNatClampNeg (0 : Int32).toNatClampNeg (5 : Int32).toNatClampNeg) (va_cpy lf tlf (0 : Int32).toNatClampNeg (0 : Int32).toNatClampNeg (5 : Int32).toNatClampNeg) = _
    rw [puts_c hn hb]
    exact d1
theorem hours_fl {n fl : Nat} {hm : Nat → Nat} {pcl phr pho mcl mws mho : Nat → Int32} (P : PL n hm pcl phr pho mcl mws mho) (hf : fl < 32) {m wh lf co twh tlf tco : Nat → Int32} {wi ho twi tho t p : Int32} (hR : RVo n 0 m wh lf co wi ho m) :
    ∃ r a1 a2 a3 a4 a5 m', fX2_hoursToFight (0 : Int32) (nI fl) twh tlf tco twi tho wh lf co wi ho p (nI n) pcl phr pho = some (r, a1, a2, a3, a4, a5) ∧ fX10_quietOf (nI fl) (nI n) t p mcl mho (layS m 17) = some (r, m') ∧ (∀ k, (k < 17 ∨ 34 ≤ k) → m' k = m k) ∧ (pairsN n hm fl = 0 → r = -9) := by
  obtain ⟨hn, hc, hcl, hws, hh, hho⟩ := P
  have h1 := lay_rel hn hR
  have h2 : RVo n 1 m (mapN 5 (sW n 0 (va_cpy wh twh (0 : Int32).toNatClampNeg (0 : Int32).toNatClampNeg (5 : Int32).toNatClampNeg)) (va_cpy wh twh (0 : Int32).toNatClampNeg (0 : Int32).toNatClampNeg (5 : Int32).toNatClampNeg)) (mapN 5 (sL n 0 phr (va_cpy lf tlf (0 : Int32).toNatClampNeg (0 : Int32).toNatClampNeg (5 : Int32).toNatClampNeg)) (va_cpy lf tlf (0 : Int32).toNatClampNeg (0 : Int32).toNatClampNeg (5 : Int32).toNatClampNeg)) (va_cpy co tco (0 : Int32).toNatClampNeg (0 : Int32).toNatClampNeg (5 : Int32).toNatClampNeg) wi ho (layS m 17) := h1.to (fun j hj => by
      rw [mapN_lt (by omega)]; unfold sW; rw [if_neg (fun q => by have := q.2; simp [bt] at this)]; exact (cpy_at (by omega)).symm) (fun j hj => by
      rw [mapN_lt (by omega)]; unfold sL; rw [if_neg (fun q => by have := q.2; simp [bt] at this)]; exact (cpy_at (by omega)).symm) (fun j hj => (cpy_at (by omega)).symm)
  obtain ⟨r, w1, w2, w3, ho', m', d1, d2, d3, d4, d5⟩ := quiet_sim (t := t) (p := p) (fl := fl) hn hf hc hcl hh hho 41 0 FU FU _ _ _ (layS m 17) ho (by omega) (by unfold FU; omega) (by unfold FU; omega) h2
  have hq : fX10_quietOf (nI fl) (nI n) t p mcl mho (layS m 17) = some (r, m') := by
    unfold fX10_quietOf
    rw [i_0, d2]
  unfold fX2_hoursToFight
  rw [pairs_spec hn hh hf, obind]
  by_cases h0 : pairsN n hm fl = 0
  · have hr := d5 h0
    subst hr
    refine ⟨-9, twh, tlf, tco, twi, tho, m', ?_, hq, d3, fun _ => rfl⟩
    rw [h0, if_pos nI_0]
  · have hle := pairsN_le hn hm fl
    refine ⟨r, w1, w2, w3, wi, ho', m', ?_, hq, d3, d5⟩
    rw [if_neg (nI_ne0 (by omega) (by omega))]
    unfold fX8_copyFrom
    rw [obind, i_0]
    show fX2_hoursToFight_25 (nI 0) (nI fl) (va_cpy co tco (0 : Int32).toNatClampNeg (0 : Int32).toNatClampNeg (5 : Int32).toNatClampNeg) wi ho p (nI n) pcl phr pho FU (nI 0) (va_cpy wh twh (0 : Int32).toNatClampNeg (0 : Int32).toNatClampNeg (5 : Int32).toNatClampNeg) (va_cpy lf tlf (0 : Int32).toNatClampNeg (0 : Int32).toNatClampNeg (5 : Int32).toNatClampNeg) = _
    rw [puts_c hn (by decide)]
    exact d1
theorem sumN_one {f : Nat → Nat} {k n : Nat} (hk : k < n) (h : ∀ i, i < n → i ≠ k → f i = 0) : sumN f n = f k := by
  induction n with
  | zero => omega
  | succ n ih =>
    rw [sumN_succ]
    by_cases e : k = n
    · subst e
      rw [sumN_cong (g := fun _ => 0) (fun i hi => h i (by omega) (by omega)), sumN_zero, Nat.zero_add]
    · rw [ih (by omega) (fun i hi => h i (by omega)), h n (by omega) (by omega), Nat.add_zero]
theorem bt_two {a b i : Nat} : bt (2 ^ a ||| 2 ^ b) i = if i = a ∨ i = b then 1 else 0 := by
  rw [bt_tb, Nat.testBit_or, Nat.testBit_two_pow, Nat.testBit_two_pow]
  by_cases h1 : a = i <;> by_cases h2 : b = i <;> simp [h1, h2, eq_comm]
theorem pairs_two {n a b : Nat} {hm : Nat → Nat} (ha : a < n) (hb : b < a) : pairsN n hm (2 ^ a ||| 2 ^ b) = bt (hm a) b := by
  unfold pairsN
  rw [sumN_one ha (fun i hi hne => ?_)]
  · rw [bt_two, if_pos (Or.inl rfl), Nat.one_mul, sumN_one hb (fun j hj hne => ?_)]
    · rw [bt_two, if_pos (Or.inr rfl), Nat.mul_one]
    · rw [bt_two, if_neg (by omega), Nat.mul_zero]
  · rw [bt_two]
    by_cases q : i = b
    · rw [if_pos (Or.inr q), Nat.one_mul, sumN_cong (g := fun _ => 0) (fun j hj => by rw [bt_two, if_neg (by omega), Nat.mul_zero]), sumN_zero]
    · rw [if_neg (by omega), Nat.zero_mul]
theorem pairs_two' {n a b : Nat} {pho : Nat → Int32} {hm : Nat → Nat} (h : HOS n pho hm) (ha : a < n) (hb : b < n) (hab : a ≠ b) : pairsN n hm (2 ^ a ||| 2 ^ b) = bt (hm a) b := by
  rcases Nat.lt_or_gt_of_ne hab with q | q
  · rw [Nat.or_comm, pairs_two hb q, h.2.1 a b ha hb]
  · exact pairs_two ha q
/-- QUIET -/
theorem sim_quiet {n : Nat} {hm : Nat → Nat} {pcl phr pho mcl mws mho : Nat → Int32} (P : PL n hm pcl phr pho mcl mws mho) {m wh lf co twh tlf tco : Nat → Int32} {wi ho twi tho t p : Int32} (hR : RVo n 0 m wh lf co wi ho m) :
    ∃ r a1 a2 a3 a4 a5 m', fX9_quiet p (nI n) pcl phr pho wh lf co wi ho twh tlf tco twi tho = some (r, a1, a2, a3, a4, a5) ∧ fX10_quiet (nI n) t p mcl mho m = some (r, m') ∧ ∀ k, (k < 17 ∨ 34 ≤ k) → m' k = m k := by
  obtain ⟨r, a1, a2, a3, a4, a5, m', d1, d2, d3, d4⟩ := hours_fl (fl := 31) (t := t) (p := p) (twh := twh) (tlf := tlf) (tco := tco) (twi := twi) (tho := tho) P (by decide) hR
  refine ⟨r, a1, a2, a3, a4, a5, m', ?_, ?_, d3⟩
  · unfold fX9_quiet
    rw [i_31, d1, obind]
  · unfold fX10_quiet
    rw [lay_spec, obind, i_31, d2, obind]
/-- PEACE -/
theorem sim_peace {n : Nat} {hm : Nat → Nat} {pcl phr pho mcl mws mho : Nat → Int32} (P : PL n hm pcl phr pho mcl mws mho) {m wh lf co twh tlf tco : Nat → Int32} {wi ho twi tho t p : Int32} (hR : RVo n 0 m wh lf co wi ho m) (x1 x2 : Int32) :
    ∃ r a1 a2 a3 a4 a5 m', fX9_peace x1 x2 p (nI n) pcl phr pho wh lf co wi ho twh tlf tco twi tho = some (r, a1, a2, a3, a4, a5) ∧ fX10_peace x1 x2 (nI n) t p mcl mho m = some (r, m') ∧ ∀ k, (k < 17 ∨ 34 ≤ k) → m' k = m k := by
  have hn := P.1
  unfold fX9_peace fX10_peace
  simp only [has_spec hn, isFlag_spec hn, obind]
  rcases flag_cases n hn x1 with ⟨f, hf, rfl⟩ | h1
  · rcases flag_cases n hn x2 with ⟨g, hg, rfl⟩ | h2
    · simp only [hasB_nI hf hn, hasB_nI hg hn, reduceIte]
      by_cases e : f = g
      · subst e
        exact ⟨_, _, _, _, _, _, m, by simp only [reduceIte]; rfl, by simp only [reduceIte], fun _ _ => rfl⟩
      · have hne : ¬ nI f = nI g := fun q => e ((nI_eq (by omega) (by omega)).mp q)
        have h32 : 2 ^ f ||| 2 ^ g < 32 := Nat.or_lt_two_pow (n := 5) (Nat.pow_lt_pow_right (by decide) (by omega)) (Nat.pow_lt_pow_right (by decide) (by omega))
        obtain ⟨r, a1, a2, a3, a4, a5, m', d1, d2, d3, d4⟩ := hours_fl (t := t) (p := p) (twh := twh) (tlf := tlf) (tco := tco) (twi := twi) (tho := tho) P h32 hR
        have hh := P.2.2.2.2.1
        have hho := P.2.2.2.2.2
        have hp2 := pairs_two' hh hf hg e
        have hmf : mho f = nI (hm f) := (hho f hf).trans (hh.1 f hf).1
        have hm5 := hm32 hn hh hf
        simp (disch := omega) only [hne, reduceIte, shl_1, or_s, d1, obind, lay_spec, inb_t, cl_s, hmf, hasr_spec, d2, decide_eq_true_eq]
        by_cases hb : bt (hm f) g = 1
        · refine ⟨r, a1, a2, a3, a4, a5, m', rfl, ?_, d3⟩
          rw [if_pos hb]
        · have hb0 : bt (hm f) g = 0 := by have := bt_le (hm f) g; omega
          have hr := d4 (hp2.trans hb0)
          refine ⟨r, a1, a2, a3, a4, a5, layS m 17, rfl, ?_, fun k hk => if_neg (by omega)⟩
          rw [if_neg hb, hr]
    · simp only [hasB_nI hf hn, h2, Bool.false_eq_true, reduceIte]
      exact ⟨_, _, _, _, _, _, m, rfl, rfl, fun _ _ => rfl⟩
  · simp only [h1, Bool.false_eq_true, reduceIte]
    exact ⟨_, _, _, _, _, _, m, rfl, rfl, fun _ _ => rfl⟩
