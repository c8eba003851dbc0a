/-! ===== PURE LAYER: which to send, both sides ===== -/
theorem rk_inj : ∀ a b, a ≤ 41 → b ≤ 41 → (rkI a = rkI b) = (a = b) := by
  intro a b ha hb
  have : ∀ a, a < 42 → ∀ b, b < 42 → decide (rkI a = rkI b) = decide (a = b) := by decide +kernel
  simpa using this a (by omega) b (by omega)
theorem rk_le {a b : Nat} (ha : a ≤ 40) (hb : b ≤ 40) : (rkI a ≤ rkI b) = (a ≤ b) := by
  unfold rkI
  rw [if_neg (by omega), if_neg (by omega)]
  exact leS (by omega) (by omega)
theorem best_r {n : Nat} (hn : n ≤ 5) {mcl mws mho m0 wh lf co : Nat → Int32} {wi ho t p : Int32} {H fr : Nat} (hH : H < 32) (hfr : fr ≤ 5) (hR : RVo n 0 m0 wh lf co wi ho m0) (hfree : t - nI (popN (bitsN (fun i => decide (wh i = 1)) n)) = nI fr) {rk : Nat → Nat} (hrk : ∀ b, b < 32 → rk b ≤ 41 ∧ ∀ m, (∀ k, (k < 17 ∨ 34 ≤ k) → m k = m0 k) → ∃ m', fX10_quietBy (nI b) (nI n) t p mcl mws mho m = some (rkI (rk b), m') ∧ ∀ k, (k < 17 ∨ 34 ≤ k) → m' k = m0 k) (x1 : Bool) (m1 : Nat → Int32) (hm1 : ∀ k, (k < 17 ∨ 34 ≤ k) → m1 k = m0 k) :
    ∃ m', fX10_sending_19 x1 (nI H) (nI n) t p mcl mws mho FU (nI 0) (rkI (rk 0)) (nI 1) m1 = some (if x1 then rkI (rk (bs rk H fr 32)) else nI (bs rk H fr 32), m') ∧ ∀ k, (k < 17 ∨ 34 ≤ k) → m' k = m0 k := by
  refine loop_ex (fun i (s : Int32 × Int32 × (Nat → Int32)) => 0 < i ∧ s.1 = nI (bs rk H fr i) ∧ s.2.1 = rkI (rk (bs rk H fr i)) ∧ ∀ k, (k < 17 ∨ 34 ≤ k) → s.2.2 k = m0 k) (fun fu s x => fX10_sending_19 x1 (nI H) (nI n) t p mcl mws mho fu s.1 s.2.1 x s.2.2) 32 (fun r => ∃ m', r = some (if x1 then rkI (rk (bs rk H fr 32)) else nI (bs rk H fr 32), m') ∧ ∀ k, (k < 17 ∨ 34 ≤ k) → m' k = m0 k) ?_ ?_ 31 1 (nI 0, rkI (rk 0), m1) FU (by omega) (by unfold FU; omega) ⟨by omega, rfl, rfl, hm1⟩
  · intro fu s ⟨_, h1, h2, h3⟩
    refine ⟨s.2.2, ?_, h3⟩
    cases x1 <;> simp (disch := omega) only [fX10_sending_19, gX10_sending_19, i_32, leS, Nat.le_refl, reduceIte, h1, h2, Bool.false_eq_true]
  · intro fu s i hi ⟨hi0, h1, h2, h3⟩
    have hpi := popN_le i
    have hb := bs_le rk H fr i
    obtain ⟨hri, hrc⟩ := hrk i hi
    obtain ⟨m', g1, g2⟩ := hrc s.2.2 h3
    have hrb := (hrk (bs rk H fr i) (by omega)).1
    have hfr' : fX10_free (0 : Int32) (1 : Int32) (nI n) t p s.2.2 = some (nI fr) := by
      have := freeT_spec (lev := 0) hn (by omega) s.2.2 t p
      rw [nI_0] at this
      rw [this, ← hfree]
      have e : bitsN (fun j => decide (s.2.2 (17 * 0 + 5 + j) = 1)) n = bitsN (fun j => decide (wh j = 1)) n := bitsN_cong (fun j hj => by rw [h3 _ (by omega), (hR.1 j hj).2.1])
      rw [e]
    have hw := within_r' hi hH
    by_cases q1 : i &&& H = i
    · by_cases q2 : popN i ≤ fr
      · refine ⟨(nI (bs rk H fr (i + 1)), rkI (rk (bs rk H fr (i + 1))), m'), ?_, by omega, rfl, rfl, g2⟩
        have eok : okS H fr i = true := by simp [okS, q1, q2]
        have key : ∀ y : Bool, fX10_sending_83 (fX10_sending_19 x1 (nI H) (nI n) t p mcl mws mho fu) x1 (nI H) (nI (bs rk H fr i)) (rkI (rk (bs rk H fr i))) (nI i) (rkI (rk i)) y (nI n) t p mcl mws mho m' = fX10_sending_19 x1 (nI H) (nI n) t p mcl mws mho fu (nI (if y || decide (rk i = rk (bs rk H fr i) ∧ popN i < popN (bs rk H fr i)) then i else bs rk H fr i)) (rkI (rk (if y || decide (rk i = rk (bs rk H fr i) ∧ popN i < popN (bs rk H fr i)) then i else bs rk H fr i))) (nI (i + 1)) m' := by
          intro y
          have hpb := popN_le (bs rk H fr i)
          have hb32 : bs rk H fr i < 32 := by omega
          generalize bs rk H fr i = b at *
          cases y
          · by_cases q6 : rk i = rk b
            · by_cases q7 : popN i < popN b
              · simp (disch := omega) only [fX10_sending_83, fX10_sending_109, fX10_sending_114, fX10_sending_127, fX10_sending_140, fX10_sending_142, Bool.false_eq_true, reduceIte, q6, cnt_r, obind, leS, show ¬ popN b ≤ popN i by omega, q7, and_self, decide_true, Bool.or_true, nI_1]
              · simp (disch := omega) only [fX10_sending_83, fX10_sending_113, fX10_sending_114, fX10_sending_127, fX10_sending_140, fX10_sending_142, Bool.false_eq_true, reduceIte, q6, cnt_r, obind, leS, show popN b ≤ popN i by omega, q7, and_false, decide_false, Bool.or_self, nI_1]
            · simp (disch := omega) only [fX10_sending_83, fX10_sending_113, fX10_sending_114, fX10_sending_127, fX10_sending_140, fX10_sending_142, Bool.false_eq_true, reduceIte, rk_inj _ _ hri hrb, q6, false_and, decide_false, Bool.or_self, nI_1]
          · simp (disch := omega) only [fX10_sending_83, fX10_sending_109, fX10_sending_114, fX10_sending_127, fX10_sending_140, fX10_sending_142, reduceIte, Bool.true_or, nI_1]
        have ebs : bs rk H fr (i + 1) = if (decide (rk (bs rk H fr i) < rk i)) || decide (rk i = rk (bs rk H fr i) ∧ popN i < popN (bs rk H fr i)) then i else bs rk H fr i := by
          rw [bs_succ, eok, show decide (i ≠ 0) = true by simp; omega, Bool.true_and, Bool.true_and]
          unfold bet
          simp only [Bool.decide_or]
        rw [ebs, ← key]
        show fX10_sending_19 x1 (nI H) (nI n) t p mcl mws mho (fu + 1) s.1 s.2.1 (nI i) s.2.2 = _
        rw [h1, h2]
        generalize bs rk H fr i = b at *
        by_cases q3 : rk b = 41
        · have e9 : rkI (rk b) = -9 := by rw [q3]; rfl
          simp (disch := omega) only [fX10_sending_19, gX10_sending_19, fX10_sending_82, i_32, leS, show ¬ 32 ≤ i by omega, reduceIte, hw, q1, cnt_r, obind, hfr', ltS, show ¬ fr < popN i by omega, g1, e9, show ¬ rk b < rk i by omega, decide_false]
        · have e9 : ¬ rkI (rk b) = -9 := by rw [rk9 _ hrb]; exact q3
          by_cases q5 : rk i = 41
          · have e8 : rkI (rk i) = -9 := by rw [q5]; rfl
            simp (disch := omega) only [fX10_sending_19, gX10_sending_19, fX10_sending_78, i_32, leS, show ¬ 32 ≤ i by omega, reduceIte, hw, q1, cnt_r, obind, hfr', ltS, show ¬ fr < popN i by omega, g1, e9, e8, show rk b < rk i by omega, decide_true]
          · have e8 : ¬ rkI (rk i) = -9 := by rw [rk9 _ hri]; exact q5
            by_cases q6 : rk i ≤ rk b
            · simp (disch := omega) only [fX10_sending_19, gX10_sending_19, fX10_sending_82, i_32, leS, show ¬ 32 ≤ i by omega, reduceIte, hw, q1, cnt_r, obind, hfr', ltS, show ¬ fr < popN i by omega, g1, e9, e8, rk_le (show rk i ≤ 40 by omega) (show rk b ≤ 40 by omega), q6, show ¬ rk b < rk i by omega, decide_false]
            · simp (disch := omega) only [fX10_sending_19, gX10_sending_19, fX10_sending_78, i_32, leS, show ¬ 32 ≤ i by omega, reduceIte, hw, q1, cnt_r, obind, hfr', ltS, show ¬ fr < popN i by omega, g1, e9, e8, rk_le (show rk i ≤ 40 by omega) (show rk b ≤ 40 by omega), q6, show rk b < rk i by omega, decide_true]
      · refine ⟨s, ?_, by omega, ?_, ?_, h3⟩
        · simp (disch := omega) only [fX10_sending_19, gX10_sending_19, fX10_sending_142, i_32, leS, show ¬ 32 ≤ i by omega, reduceIte, hw, q1, cnt_r, obind, hfr', ltS, show fr < popN i by omega, nI_1]
        · rw [bs_succ, show okS H fr i = false by simp [okS, q2], Bool.false_and, Bool.and_false, if_neg (by decide)]; exact h1
        · rw [bs_succ, show okS H fr i = false by simp [okS, q2], Bool.false_and, Bool.and_false, if_neg (by decide)]; exact h2
    · refine ⟨s, ?_, by omega, ?_, ?_, h3⟩
      · simp (disch := omega) only [fX10_sending_19, gX10_sending_19, fX10_sending_142, i_32, leS, show ¬ 32 ≤ i by omega, reduceIte, hw, q1, nI_1]
      · rw [bs_succ, show okS H fr i = false by simp [okS, q1], Bool.false_and, Bool.and_false, if_neg (by decide)]; exact h1
      · rw [bs_succ, show okS H fr i = false by simp [okS, q1], Bool.false_and, Bool.and_false, if_neg (by decide)]; exact h2
/-- as many tubs as there are, at most, are taken -/
def TUB (n tb : Nat) (wh : Nat → Int32) : Prop := popN (bitsN (fun i => decide (wh i = 1)) n) ≤ tb
/-- SENDING -/
theorem sim_sending {n tb : Nat} {hm : Nat → Nat} {pcl phr pho mcl mws mho : Nat → Int32} (P : PL n hm pcl phr pho mcl mws mho) (htb : tb ≤ 3) {m wh lf co twh tlf tco : Nat → Int32} {wi ho twi tho p : Int32} (hR : RVo n 0 m wh lf co wi ho m) (hT : TUB n tb wh) (x1 : Bool) :
    ∃ r a1 a2 a3 a4 a5 m', fX9_sending x1 (nI tb) p (nI n) pcl phr pho wh lf co wi ho twh tlf tco twi tho = some (r, a1, a2, a3, a4, a5) ∧ fX10_sending x1 (nI n) (nI tb) p mcl mws mho m = some (r, m') ∧ ∀ k, (k < 17 ∨ 34 ≤ k) → m' k = m k := by
  have hn := P.1
  obtain ⟨rk, hrk⟩ := rank_ex (t := nI tb) (p := p) P hR
  have e : bitsN (fun j => decide (m (17 * 0 + 5 + j) = 0)) n = bitsN (fun j => decide (wh j = 0)) n := bitsN_cong (fun j hj => by rw [(hR.1 j hj).2.1])
  have hH := bits32 (fun j => decide (wh j = 0)) hn
  unfold TUB at hT
  have hfr : nI tb - nI (popN (bitsN (fun i => decide (wh i = 1)) n)) = nI (tb - popN (bitsN (fun i => decide (wh i = 1)) n)) := sub_s hT
  obtain ⟨a1, a2, a3, a4, a5, c1⟩ := best_c (n := n) (pcl := pcl) (phr := phr) (pho := pho) (wh := wh) (lf := lf) (co := co) (wi := wi) (ho := ho) (p := p) (fr := tb - popN (bitsN (fun i => decide (wh i = 1)) n)) hH (by omega) (fun b hb => ⟨(hrk b hb).1, (hrk b hb).2.1⟩) twh tlf tco twi tho
  obtain ⟨m1, g1, g2⟩ := (hrk 0 (by decide)).2.2 m (fun _ _ => rfl)
  obtain ⟨m2, r1, r2⟩ := best_r (mcl := mcl) (mws := mws) (mho := mho) (p := p) hn hH (show tb - popN (bitsN (fun i => decide (wh i = 1)) n) ≤ 5 by omega) hR hfr (fun b hb => ⟨(hrk b hb).1, (hrk b hb).2.2⟩) x1 m1 g2
  have hb32 := bs_le rk (bitsN (fun j => decide (wh j = 0)) n) (tb - popN (bitsN (fun i => decide (wh i = 1)) n)) 31
  have hb32' : bs rk (bitsN (fun j => decide (wh j = 0)) n) (tb - popN (bitsN (fun i => decide (wh i = 1)) n)) 32 < 32 := by
    rw [bs_succ]; split <;> omega
  have rr : fX10_sending x1 (nI n) (nI tb) p mcl mws mho m = some (if x1 then rkI (rk (bs rk (bitsN (fun j => decide (wh j = 0)) n) (tb - popN (bitsN (fun i => decide (wh i = 1)) n)) 32)) else nI (bs rk (bitsN (fun j => decide (wh j = 0)) n) (tb - popN (bitsN (fun i => decide (wh i = 1)) n)) 32), m2) := by
    have ea := areIn_spec (lev := 0) hn (by omega) (0 : Int32) m
    rw [nI_0, e] at ea
    unfold fX10_sending
    rw [ea, obind, show fX10_quietBy (0 : Int32) (nI n) (nI tb) p mcl mws mho m = some (rkI (rk 0), m1) from g1, obind]
    exact r1
  have cc : fX2_bestToSend twh tlf tco twi tho wh lf co wi ho (nI tb) p (nI n) pcl phr pho = some (nI (bs rk (bitsN (fun j => decide (wh j = 0)) n) (tb - popN (bitsN (fun i => decide (wh i = 1)) n)) 32), a1, a2, a3, a4, a5) := by
    unfold fX2_bestToSend
    rw [homeBits_spec hn, obind, freeTubs_spec hn, obind, hfr]
    exact c1
  cases x1
  · refine ⟨_, a1, a2, a3, a4, a5, m2, ?_, rr, r2⟩
    unfold fX9_sending
    rw [cc, obind]
    rfl
  · obtain ⟨b1, b2, b3, b4, b5, d1⟩ := (hrk _ hb32').2.1 a1 a2 a3 a4 a5
    refine ⟨_, b1, b2, b3, b4, b5, m2, ?_, rr, r2⟩
    unfold fX9_sending
    rw [cc, obind]
    simp only [reduceIte]
    rw [d1, obind]
