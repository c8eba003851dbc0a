/-! ===== PURE LAYER: how long it is quiet ===== -/
theorem RVo.base {n lev : Nat} {m0 wh lf co m : Nat → Int32} {wi ho : Int32} (h : RVo n lev m0 wh lf co wi ho m) : RVo n lev m wh lf co wi ho m := ⟨h.1, h.2.1, h.2.2.1, fun _ _ => rfl⟩
theorem RVo.rebase {n lev : Nat} {m0 m1 wh lf co m : Nat → Int32} {wi ho : Int32} (h : RVo n lev m1 wh lf co wi ho m) (h2 : ∀ k, (k < 17 * lev ∨ 17 * lev + 17 ≤ k) → m1 k = m0 k) : RVo n lev m0 wh lf co wi ho m := ⟨h.1, h.2.1, h.2.2.1, fun k hk => (h.2.2.2 k hk).trans (h2 k hk)⟩
def layS (m : Nat → Int32) (i : Nat) : Nat → Int32 := fun k => if 17 ≤ k ∧ k < 17 + i then m (k - 17) else m k
theorem lay_spec (m : Nat → Int32) : fX10_layTrial m = some (layS m 17) := by
  have key := loop_seq (fun fu (s : Nat → Int32) x => fX10_layTrial_2 fu x s) (layS m) 17 (some (layS m 17)) (fun fu => by
    simp (disch := omega) only [fX10_layTrial_2, gX10_layTrial_2, i_17, leS, Nat.le_refl, reduceIte]) (fun fu i hi => by
    have e0 : layS m i i = m i := if_neg (by omega)
    have e : upd (layS m i) (17 + i) (m i) = layS m (i + 1) := by
      funext k
      rw [updI]
      unfold layS
      by_cases q : k = 17 + i
      · rw [if_pos q, if_pos (by omega), q, Nat.add_sub_cancel_left]
      · rw [if_neg q]
        by_cases q2 : 17 ≤ k ∧ k < 17 + i
        · rw [if_pos q2, if_pos (by omega)]
        · rw [if_neg q2, if_neg (by omega)]
    simp (disch := omega) only [fX10_layTrial_2, gX10_layTrial_2, i_17, leS, nI_add, inb_t, cl_s, reduceIte, show ¬ 17 ≤ i by omega, e0, e, nI_1]) 17 0 FU (by omega) (by unfold FU; omega)
  have e0 : layS m 0 = m := by funext k; exact if_neg (by omega)
  rw [e0] at key
  exact key
theorem cpy_at {f g : Nat → Int32} {j : Nat} (h : j < 5) : va_cpy f g (0 : Int32).toNatClampNeg (0 : Int32).toNatClampNeg (5 : Int32).toNatClampNeg j = f j := by
  show va_cpy f g 0 0 5 j = f j
  rw [pk_cpy_in (Nat.zero_le j) (by omega)]
  congr 1
  omega
/-- the trial is laid -/
theorem lay_rel {n : Nat} (hn : n ≤ 5) {m wh lf co : Nat → Int32} {wi ho : Int32} (h : RVo n 0 m wh lf co wi ho m) : RVo n 1 m wh lf co wi ho (layS m 17) := by
  obtain ⟨h1, h2, h3, -⟩ := h
  have g : ∀ k, k < 17 → layS m 17 (17 + k) = m k := fun k hk => by unfold layS; rw [if_pos (by omega), Nat.add_sub_cancel_left]
  refine ⟨fun j hj => ?_, ?_, ?_, fun k hk => ?_⟩
  · obtain ⟨a, b, c⟩ := h1 j hj
    simp only [Nat.mul_zero, Nat.zero_add, Nat.mul_one] at a b c ⊢
    exact ⟨(g j (by omega)).trans a, by rw [show 17 + 5 + j = 17 + (5 + j) by omega]; exact (g (5 + j) (by omega)).trans b, by rw [show 17 + 10 + j = 17 + (10 + j) by omega]; exact (g (10 + j) (by omega)).trans c⟩
  · exact (g 15 (by omega)).trans h2
  · exact (g 16 (by omega)).trans h3
  · unfold layS; rw [if_neg (by omega)]
/-- what those that are sent are -/
def sW (n b : Nat) (wh : Nat → Int32) (j : Nat) : Int32 := if j < n ∧ bt b j = 1 then 1 else wh j
def sL (n b : Nat) (phr lf : Nat → Int32) (j : Nat) : Int32 := if j < n ∧ bt b j = 1 then phr j else lf j
theorem put_spec {n i : Nat} (hn : n ≤ 5) (hi : i < 5) (wh lf phr : Nat → Int32) : fX8_putInTub (nI i) wh lf (nI n) phr = some (if i < n then (upd wh i 1, upd lf i (phr i)) else (wh, lf)) := by
  unfold fX8_putInTub
  rw [has_spec hn, obind]
  by_cases h : i < n
  · rw [hasB_nI h hn, if_pos h]
    simp (disch := omega) only [inb_t, cl_s, reduceIte]
  · have : hasB n (nI i) = false := by
      simp only [hasB, nI_toInt (show i < 2 ^ 31 by omega), decide_eq_false_iff_not]; omega
    rw [this, if_neg h]
    simp only [Bool.false_eq_true, reduceIte]
theorem puts_c {n b : Nat} (hn : n ≤ 5) (hb : b < 32) (fl : Int32) (wh lf co pcl phr pho : Nat → Int32) (wi ho p : Int32) : fX2_hoursToFight_25 (nI b) fl co wi ho p (nI n) pcl phr pho FU (nI 0) wh lf = fX2_hoursToFight_58 fl wi p (nI n) pcl pho FU (nI 0) (mapN 5 (sW n b wh) wh) (mapN 5 (sL n b phr lf) lf) co ho := by
  have key := loop_seq (fun fu (s : (Nat → Int32) × (Nat → Int32)) x => fX2_hoursToFight_25 (nI b) fl co wi ho p (nI n) pcl phr pho fu x s.1 s.2) (fun i => (mapN i (sW n b wh) wh, mapN i (sL n b phr lf) lf)) 5 (fX2_hoursToFight_58 fl wi p (nI n) pcl pho FU (nI 0) (mapN 5 (sW n b wh) wh) (mapN 5 (sL n b phr lf) lf) co ho) (fun fu => by
    simp (disch := omega) only [fX2_hoursToFight_25, gX2_hoursToFight_25, i_5, leS, Nat.le_refl, reduceIte, i_0]) (fun fu i hi => by
    have hb1 := bt_le b i
    by_cases h1 : bt b i = 1
    · by_cases h2 : i < n
      · have e1 : upd (mapN i (sW n b wh) wh) i 1 = mapN (i + 1) (sW n b wh) wh := mapN_upd (by simp only [sW, h1, h2, and_self, reduceIte])
        have e2 : upd (mapN i (sL n b phr lf) lf) i (phr i) = mapN (i + 1) (sL n b phr lf) lf := mapN_upd (by simp only [sL, h1, h2, and_self, reduceIte])
        simp (disch := omega) only [fX2_hoursToFight_25, gX2_hoursToFight_25, fX2_hoursToFight_49, i_5, leS, i_1, bit01, i_0, eqS, h1, reduceIte, show ¬ 5 ≤ i by omega, show ¬ 1 = 0 by omega, put_spec hn, obind, h2, nI_add]
        rw [← i_1, e1, e2]
      · have e1 : mapN (i + 1) (sW n b wh) wh = mapN i (sW n b wh) wh := (mapN_same (by simp only [sW, h2, false_and, reduceIte])).symm
        have e2 : mapN (i + 1) (sL n b phr lf) lf = mapN i (sL n b phr lf) lf := (mapN_same (by simp only [sL, h2, false_and, reduceIte])).symm
        simp (disch := omega) only [fX2_hoursToFight_25, gX2_hoursToFight_25, fX2_hoursToFight_49, i_5, leS, i_1, bit01, i_0, eqS, h1, reduceIte, show ¬ 5 ≤ i by omega, show ¬ 1 = 0 by omega, put_spec hn, obind, h2, nI_add, e1, e2]
    · have h0 : bt b i = 0 := by omega
      have e1 : mapN (i + 1) (sW n b wh) wh = mapN i (sW n b wh) wh := (mapN_same (by simp only [sW, h1, and_false, reduceIte])).symm
      have e2 : mapN (i + 1) (sL n b phr lf) lf = mapN i (sL n b phr lf) lf := (mapN_same (by simp only [sL, h1, and_false, reduceIte])).symm
      simp (disch := omega) only [fX2_hoursToFight_25, gX2_hoursToFight_25, fX2_hoursToFight_49, i_5, leS, i_1, bit01, i_0, eqS, h0, reduceIte, show ¬ 5 ≤ i by omega, nI_add, e1, e2]) 5 0 FU (by omega) (by unfold FU; omega)
  simp only [mapN_0] at key
  exact key
theorem sendOn_spec {n lev i : Nat} (hn : n ≤ 5) (hl : lev ≤ 1) (hi : i < n) (mws : Nat → Int32) {m0 wh lf co m : Nat → Int32} {wi ho : Int32} (h : RVo n lev m0 wh lf co wi ho m) : ∃ m', fX10_sendOn (nI lev) (nI i) mws m = some m' ∧ RVo n lev m0 (upd wh i 1) (upd lf i (mws i)) co wi ho m' := by
  refine ⟨upd (upd m (17 * lev + 5 + i) 1) (17 * lev + 10 + i) (mws i), ?_, (h.w hn hi 1).l hn hi (mws i)⟩
  unfold fX10_sendOn
  simp (disch := omega) only [i_17, i_10, i_5, pk_mul, nI_add, inb_t, cl_s, reduceIte]
theorem puts_r {n b : Nat} (hn : n ≤ 5) (hb : b < 32) {m0 wh lf co m mcl mws mho phr : Nat → Int32} {wi ho t p : Int32} (hws : ∀ i, i < n → mws i = phr i) (h : RVo n 1 m0 wh lf co wi ho m) : ∃ m', RVo n 1 m0 (mapN n (sW n b wh) wh) (mapN n (sL n b phr lf) lf) co wi ho m' ∧ fX10_quietBy_6 (nI b) (nI n) t p mcl mws mho FU (nI 0) m = (fX10_quietOf (31 : Int32) (nI n) t p mcl mho m').bind (fun u3 => some (u3.1, u3.2)) := by
  refine loop_ex (fun i m => RVo n 1 m0 (mapN i (sW n b wh) wh) (mapN i (sL n b phr lf) lf) co wi ho m) (fun fu (s : Nat → Int32) x => fX10_quietBy_6 (nI b) (nI n) t p mcl mws mho fu x s) n (fun r => ∃ m', RVo n 1 m0 (mapN n (sW n b wh) wh) (mapN n (sL n b phr lf) lf) co wi ho m' ∧ r = (fX10_quietOf (31 : Int32) (nI n) t p mcl mho m').bind (fun u3 => some (u3.1, u3.2))) ?_ ?_ n 0 m FU (by omega) (by unfold FU; omega) (by rw [mapN_0, mapN_0]; exact h)
  · intro fu s hI
    refine ⟨s, hI, ?_⟩
    simp (disch := omega) only [fX10_quietBy_6, gX10_quietBy_6, leS, Nat.le_refl, reduceIte]
  · intro fu s i hi hI
    have hb1 := bt_le b i
    by_cases h1 : bt b i = 1
    · obtain ⟨m', g1, g2⟩ := sendOn_spec hn (Nat.le_refl 1) hi mws hI
      refine ⟨m', ?_, ?_⟩
      · simp (disch := omega) only [fX10_quietBy_6, gX10_quietBy_6, fX10_quietBy_28, leS, hasr_spec, obind, h1, decide_true, reduceIte, show ¬ n ≤ i by omega, i_1, g1, nI_add]
      · rw [hws i hi, mapN_upd (g := sW n b wh) (by simp only [sW, h1, hi, and_self, reduceIte]), mapN_upd (g := sL n b phr lf) (by simp only [sL, h1, hi, and_self, reduceIte])] at g2
        exact g2
    · refine ⟨s, ?_, ?_⟩
      · simp (disch := omega) only [fX10_quietBy_6, gX10_quietBy_6, fX10_quietBy_28, leS, hasr_spec, obind, h1, decide_false, Bool.false_eq_true, reduceIte, show ¬ n ≤ i by omega, i_1, nI_add]
      · rw [← mapN_same (g := sW n b wh) (by simp only [sW, h1, and_false, reduceIte]), ← mapN_same (g := sL n b phr lf) (by simp only [sL, h1, and_false, reduceIte])]
        exact hI
theorem HOS.to {n : Nat} {pho mho : Nat → Int32} {hm : Nat → Nat} (h : HOS n pho hm) (h2 : ∀ i, i < n → mho i = pho i) : HOS n mho hm := ⟨fun i hi => ⟨(h2 i hi).trans (h.1 i hi).1, (h.1 i hi).2⟩, h.2⟩
theorem sumN_mono {f g : Nat → Nat} : ∀ {n : Nat}, (∀ i, i < n → f i ≤ g i) → sumN f n ≤ sumN g n
  | 0, _ => Nat.le_refl _
  | n + 1, h => Nat.add_le_add (sumN_mono (fun i hi => h i (by omega))) (h n (by omega))
theorem bt_and_le (a b i : Nat) : bt (a &&& b) i ≤ bt b i := by
  rw [bt_and]
  have := bt_le a i
  calc bt a i * bt b i ≤ 1 * bt b i := Nat.mul_le_mul_right _ this
    _ = bt b i := Nat.one_mul _
theorem pairsN_mono {n : Nat} {hm : Nat → Nat} {b c : Nat} (h : ∀ i, bt b i ≤ bt c i) : pairsN n hm b ≤ pairsN n hm c := sumN_mono (fun i _ => Nat.mul_le_mul (h i) (sumN_mono (fun j _ => Nat.mul_le_mul (Nat.le_refl _) (h j))))
/-- THE QUIET: both loops of hours end alike -/
theorem quiet_sim {n fl : Nat} (hn : n ≤ 5) (hf : fl < 32) {pcl mcl pho mho m0 : Nat → Int32} {hm : Nat → Nat} {wi t p : Int32} (hc : CL n pcl) (hcl : ∀ i, i < n → mcl i = pcl i) (hh : HOS n pho hm) (hho : ∀ i, i < n → mho i = pho i) : ∀ (k i fu fu' : Nat) (wh lf co m : Nat → Int32) (ho : Int32), i + k = 41 → k < fu → k < fu' → RVo n 1 m0 wh lf co wi ho m →
    ∃ r w1 w2 w3 ho' m', fX2_hoursToFight_58 (nI fl) wi p (nI n) pcl pho fu (nI i) wh lf co ho = some (r, w1, w2, w3, wi, ho') ∧ fX10_quietOf_2 (nI fl) (nI n) t p mcl mho fu' (nI i) m = some (r, m') ∧ (∀ k, (k < 17 ∨ 34 ≤ k) → m' k = m0 k) ∧ (r = -9 ∨ ∃ q, q ≤ 40 ∧ r = nI q) ∧ (pairsN n hm fl = 0 → r = -9)
  | 0, i, 0, _, _, _, _, _, _, _, h, _, _ => absurd h (Nat.lt_irrefl 0)
  | 0, i, _ + 1, 0, _, _, _, _, _, _, _, h, _ => absurd h (Nat.lt_irrefl 0)
  | 0, i, fu + 1, fu' + 1, wh, lf, co, m, ho, hi, _, _, hR => by
    refine ⟨-9, wh, lf, co, ho, m, ?_, ?_, ?_, Or.inl rfl, fun _ => rfl⟩
    · simp (disch := omega) only [fX2_hoursToFight_58, gX2_hoursToFight_58, i_40, ltS, show 40 < i by omega, reduceIte]
    · simp (disch := omega) only [fX10_quietOf_2, gX10_quietOf_2, i_40, ltS, show 40 < i by omega, reduceIte]
    · intro k hk; exact hR.2.2.2 k (by omega)
  | k + 1, i, 0, _, _, _, _, _, _, _, h, _, _ => absurd h (Nat.not_lt_zero _)
  | k + 1, i, _ + 1, 0, _, _, _, _, _, _, _, h, _ => absurd h (Nat.not_lt_zero _)
  | k + 1, i, fu + 1, fu' + 1, wh, lf, co, m, ho, hi, h1, h2, hR => by
    have e : bitsN (fun j => decide (m (17 * 1 + 5 + j) = 0)) n = bitsN (fun j => decide (wh j = 0)) n := bitsN_cong (fun j hj => by rw [(hR.1 j hj).2.1])
    have hb : bitsN (fun j => decide (wh j = 0)) n &&& fl < 32 := and32 hf
    have hple := pairsN_le hn hm (bitsN (fun j => decide (wh j = 0)) n &&& fl)
    have ea := areIn_spec hn (Nat.le_refl 1) (0 : Int32) m
    rw [e, ← i_1] at ea
    obtain ⟨cb, wh', lf', co', m', c1, c2, c3, c4, c5⟩ := pass_sim (t := t) (p := p) hn (Nat.le_refl 1) hc hcl hR
    rw [← i_1] at c3
    by_cases hp : pairsN n hm (bitsN (fun j => decide (wh j = 0)) n &&& fl) = 0
    · have hp' : nI (pairsN n hm (bitsN (fun j => decide (wh j = 0)) n &&& fl)) ≤ 0 := by rw [hp]; decide
      obtain ⟨r, w1, w2, w3, ho2, m2, d1, d2, d3⟩ := quiet_sim (t := t) (p := p) hn hf hc hcl hh hho k (i + 1) fu fu' wh' lf' co' m' (ho + 1) (by omega) (by omega) (by omega) c4
      refine ⟨r, w1, w2, w3, ho2, m2, ?_, ?_, d3⟩
      · rw [← d1]
        simp (disch := omega) only [fX2_hoursToFight_58, gX2_hoursToFight_58, i_40, ltS, show ¬ 40 < i by omega, reduceIte, homeBits_spec hn, obind, and_s, pairs_spec hn hh hb, hp', c2, nI_1]
      · rw [← d2]
        simp (disch := omega) only [fX10_quietOf_2, gX10_quietOf_2, i_40, ltS, show ¬ 40 < i by omega, reduceIte, ea, obind, and_s, fights_spec hn (hh.to hho) hb, hp', c3, nI_1]
    · have hp' : ¬ nI (pairsN n hm (bitsN (fun j => decide (wh j = 0)) n &&& fl)) ≤ 0 := nI_nle (by omega) (by omega)
      refine ⟨nI i, wh, lf, co, ho, m, ?_, ?_, ?_, Or.inr ⟨i, by omega, rfl⟩, fun hz => ?_⟩
      · simp (disch := omega) only [fX2_hoursToFight_58, gX2_hoursToFight_58, i_40, ltS, show ¬ 40 < i by omega, reduceIte, homeBits_spec hn, obind, and_s, pairs_spec hn hh hb, hp']
      · simp (disch := omega) only [fX10_quietOf_2, gX10_quietOf_2, i_40, ltS, show ¬ 40 < i by omega, reduceIte, ea, obind, and_s, fights_spec hn (hh.to hho) hb, hp']
      · intro k hk; exact hR.2.2.2 k (by omega)
      · exfalso
        have := pairsN_mono (n := n) (hm := hm) (bt_and_le (bitsN (fun j => decide (wh j = 0)) n) fl)
        omega
