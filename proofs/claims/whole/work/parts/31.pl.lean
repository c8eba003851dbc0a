/-! ===== PURE LAYER: which to send ===== -/
theorem lay_same {m m0 : Nat → Int32} (h : ∀ k, (k < 17 ∨ 34 ≤ k) → m k = m0 k) : layS m 17 = layS m0 17 := by
  funext k
  unfold layS
  by_cases q : 17 ≤ k ∧ k < 17 + 17
  · rw [if_pos q, if_pos q]; exact h _ (by omega)
  · rw [if_neg q, if_neg q]; exact h _ (by omega)
def rkI (q : Nat) : Int32 := if q = 41 then -9 else nI q
/-- the hours by what is sent, by a number: 41 for never -/
theorem rank_ex {n : Nat} {hm : Nat → Nat} {pcl phr pho mcl mws mho : Nat → Int32} (P : PL n hm pcl phr pho mcl mws mho) {m0 wh lf co : Nat → Int32} {wi ho t p : Int32} (hR : RVo n 0 m0 wh lf co wi ho m0) :
    ∃ rk : Nat → Nat, ∀ b, b < 32 → rk b ≤ 41 ∧ (∀ twh tlf tco twi tho, ∃ a1 a2 a3 a4 a5, fX2_hoursToFight (nI b) (31 : Int32) twh tlf tco twi tho wh lf co wi ho p (nI n) pcl phr pho = some (rkI (rk b), a1, a2, a3, a4, a5)) ∧ ∀ m, (∀ k, (k < 17 ∨ 34 ≤ k) → m k = m0 k) → ∃ m', fX10_quietBy (nI b) (nI n) t p mcl mws mho m = some (rkI (rk b), m') ∧ ∀ k, (k < 17 ∨ 34 ≤ k) → m' k = m0 k := by
  have key : ∀ b, b < 32 → ∃ q, q ≤ 41 ∧ (∀ twh tlf tco twi tho, ∃ a1 a2 a3 a4 a5, fX2_hoursToFight (nI b) (31 : Int32) twh tlf tco twi tho wh lf co wi ho p (nI n) pcl phr pho = some (rkI q, a1, a2, a3, a4, a5)) ∧ ∀ m, (∀ k, (k < 17 ∨ 34 ≤ k) → m k = m0 k) → ∃ m', fX10_quietBy (nI b) (nI n) t p mcl mws mho m = some (rkI q, m') ∧ ∀ k, (k < 17 ∨ 34 ≤ k) → m' k = m0 k := by
    intro b hb
    obtain ⟨r, _, _, _, _, _, m', _, d2, d3, d4⟩ := hours_set (t := t) (p := p) (twh := wh) (tlf := wh) (tco := wh) (twi := 0) (tho := 0) P hb hR
    have hrk : ∃ q, q ≤ 41 ∧ r = rkI q := by
      rcases d4 with rfl | ⟨q, hq, rfl⟩
      · exact ⟨41, by omega, rfl⟩
      · exact ⟨q, by omega, by unfold rkI; rw [if_neg (by omega)]⟩
    obtain ⟨q, hq, rfl⟩ := hrk
    refine ⟨q, hq, fun twh tlf tco twi tho => ?_, fun m hm0 => ⟨m', ?_, d3⟩⟩
    · obtain ⟨r2, a1, a2, a3, a4, a5, m2, e1, e2, _, _⟩ := hours_set (t := t) (p := p) (twh := twh) (tlf := tlf) (tco := tco) (twi := twi) (tho := tho) P hb hR
      have : r2 = rkI q := by
        have := e2.symm.trans d2
        cases this; rfl
      subst this
      exact ⟨a1, a2, a3, a4, a5, e1⟩
    · rw [← d2]
      unfold fX10_quietBy
      rw [lay_spec, lay_spec, lay_same hm0]
  refine ⟨fun b => if h : b < 32 then Classical.choose (key b h) else 0, fun b hb => ?_⟩
  have := Classical.choose_spec (key b hb)
  simp only [hb, dif_pos]
  exact this
def okS (H fr s : Nat) : Bool := decide (s &&& H = s) && decide (popN s ≤ fr)
def bet (rk : Nat → Nat) (s b : Nat) : Bool := decide (rk b < rk s ∨ (rk s = rk b ∧ popN s < popN b))
def bs (rk : Nat → Nat) (H fr : Nat) : Nat → Nat
  | 0 => 0
  | k + 1 => if decide (k ≠ 0) && (okS H fr k && bet rk k (bs rk H fr k)) then k else bs rk H fr k
theorem bs_succ (rk : Nat → Nat) (H fr k : Nat) : bs rk H fr (k + 1) = if decide (k ≠ 0) && (okS H fr k && bet rk k (bs rk H fr k)) then k else bs rk H fr k := rfl
theorem bs_le (rk : Nat → Nat) (H fr : Nat) : ∀ k, bs rk H fr k ≤ k
  | 0 => Nat.le_refl _
  | k + 1 => by
    have := bs_le rk H fr k
    rw [bs_succ]
    split <;> omega
theorem rk9 : ∀ q, q ≤ 41 → (rkI q = -9) = (q = 41) := by
  intro q hq
  have : ∀ q, q < 42 → decide (rkI q = -9) = decide (q = 41) := by decide +kernel
  simpa using this q (by omega)
/-- the class's choice -/
theorem best_c {n : Nat} {pcl phr pho wh lf co : Nat → Int32} {wi ho p : Int32} {H fr : Nat} (hH : H < 32) (hfr : fr ≤ 5) {rk : Nat → Nat} (hrk : ∀ b, b < 32 → rk b ≤ 41 ∧ ∀ twh tlf tco twi tho, ∃ a1 a2 a3 a4 a5, fX2_hoursToFight (nI b) (31 : Int32) twh tlf tco twi tho wh lf co wi ho p (nI n) pcl phr pho = some (rkI (rk b), a1, a2, a3, a4, a5)) (twh tlf tco : Nat → Int32) (twi tho : Int32) :
    ∃ a1 a2 a3 a4 a5, fX2_bestToSend_20 (nI H) (nI fr) wh lf co wi ho p (nI n) pcl phr pho FU (-9) (nI 0) (nI 0) twh tlf tco twi tho = some (nI (bs rk H fr 32), a1, a2, a3, a4, a5) := by
  refine loop_ex (fun i (s : Int32 × Int32 × (Nat → Int32) × (Nat → Int32) × (Nat → Int32) × Int32 × Int32) => (i = 0 → s.1 = -9 ∧ s.2.1 = nI 0) ∧ (0 < i → s.1 = nI (bs rk H fr i) ∧ s.2.1 = nI (rk (bs rk H fr i)))) (fun fu s x => fX2_bestToSend_20 (nI H) (nI fr) wh lf co wi ho p (nI n) pcl phr pho fu s.1 s.2.1 x s.2.2.1 s.2.2.2.1 s.2.2.2.2.1 s.2.2.2.2.2.1 s.2.2.2.2.2.2) 32 (fun r => ∃ a1 a2 a3 a4 a5, r = some (nI (bs rk H fr 32), a1, a2, a3, a4, a5)) ?_ ?_ 32 0 (-9, nI 0, twh, tlf, tco, twi, tho) FU (by omega) (by unfold FU; omega) ⟨fun _ => ⟨rfl, rfl⟩, fun h => absurd h (Nat.lt_irrefl 0)⟩
  · intro fu s hI
    have := (hI.2 (by omega)).1
    refine ⟨s.2.2.1, s.2.2.2.1, s.2.2.2.2.1, s.2.2.2.2.2.1, s.2.2.2.2.2.2, ?_⟩
    simp (disch := omega) only [fX2_bestToSend_20, gX2_bestToSend_20, lt31, show 31 < 32 by omega, reduceIte, this]
  · intro fu s i hi hI
    have hpi := popN_le i
    obtain ⟨hri, hrc⟩ := hrk i hi
    obtain ⟨a1, a2, a3, a4, a5, ha⟩ := hrc s.2.2.1 s.2.2.2.1 s.2.2.2.2.1 s.2.2.2.2.2.1 s.2.2.2.2.2.2
    by_cases q1 : i &&& H = i
    · by_cases q2 : popN i ≤ fr
      · -- it is tried: the rank on the stack
        have step : ∀ b l, fX2_bestToSend_20 (nI H) (nI fr) wh lf co wi ho p (nI n) pcl phr pho (fu + 1) b l (nI i) s.2.2.1 s.2.2.2.1 s.2.2.2.2.1 s.2.2.2.2.2.1 s.2.2.2.2.2.2 = fX2_bestToSend_73 (fX2_bestToSend_20 (nI H) (nI fr) wh lf co wi ho p (nI n) pcl phr pho fu) (nI H) (nI fr) b l (nI i) (nI (rk i)) a1 a2 a3 a4 a5 wh lf co wi ho p (nI n) pcl phr pho := by
          intro b l
          by_cases q3 : rk i = 41
          · have e9 : rkI (rk i) = -9 := by rw [q3]; rfl
            simp (disch := omega) only [fX2_bestToSend_20, gX2_bestToSend_20, lt31, show ¬ 31 < i by omega, reduceIte, within_c i hi H hH, obind, q1, decide_true, cnt_c, leS, q2, ha, e9, q3]
            rfl
          · have e9 : ¬ rkI (rk i) = -9 := by rw [rk9 _ hri]; exact q3
            have e10 : rkI (rk i) = nI (rk i) := if_neg q3
            simp (disch := omega) only [fX2_bestToSend_20, gX2_bestToSend_20, lt31, show ¬ 31 < i by omega, reduceIte, within_c i hi H hH, obind, q1, decide_true, cnt_c, leS, q2, ha, e9]
            rw [e10]
        by_cases q4 : i = 0
        · subst q4
          obtain ⟨h1, h2⟩ := hI.1 rfl
          refine ⟨(nI 0, nI (rk 0), a1, a2, a3, a4, a5), ?_, fun h => absurd h (by omega), fun _ => ⟨rfl, rfl⟩⟩
          show fX2_bestToSend_20 (nI H) (nI fr) wh lf co wi ho p (nI n) pcl phr pho (fu + 1) s.1 s.2.1 (nI 0) s.2.2.1 s.2.2.2.1 s.2.2.2.2.1 s.2.2.2.2.2.1 s.2.2.2.2.2.2 = _
          rw [step, h1, h2]
          simp only [fX2_bestToSend_73, fX2_bestToSend_106, fX2_bestToSend_114, reduceIte, nI_1]
        · obtain ⟨h1, h2⟩ := hI.2 (by omega)
          have hb := bs_le rk H fr i
          have hrb := (hrk (bs rk H fr i) (by omega)).1
          have hfe := fewer_spec hi (o := some (bs rk H fr i)) (fun b hb2 => by cases hb2; omega)
          refine ⟨(nI (bs rk H fr (i + 1)), nI (rk (bs rk H fr (i + 1))), a1, a2, a3, a4, a5), ?_, fun h => absurd h (by omega), fun _ => ⟨rfl, rfl⟩⟩
          show fX2_bestToSend_20 (nI H) (nI fr) wh lf co wi ho p (nI n) pcl phr pho (fu + 1) s.1 s.2.1 (nI i) s.2.2.1 s.2.2.2.1 s.2.2.2.2.1 s.2.2.2.2.2.1 s.2.2.2.2.2.2 = _
          rw [step, h1, h2, bs_succ]
          have eok : okS H fr i = true := by simp [okS, q1, q2]
          rw [eok, show decide (i ≠ 0) = true by simp [q4], Bool.true_and, Bool.true_and]
          unfold bet
          have hfe' : fX9_isFewer (nI i) (nI (bs rk H fr i)) = some (decide (popN i < popN (bs rk H fr i))) := hfe
          generalize bs rk H fr i = b at *
          by_cases q5 : rk b < rk i
          · simp (disch := omega) only [fX2_bestToSend_73, fX2_bestToSend_106, fX2_bestToSend_114, nI_m9 (show b < 32 by omega), ltS, q5, true_or, decide_true, reduceIte, nI_1]
          · by_cases q6 : rk i = rk b
            · by_cases q7 : popN i < popN b
              · simp (disch := omega) only [fX2_bestToSend_73, fX2_bestToSend_106, fX2_bestToSend_114, nI_m9 (show b < 32 by omega), ltS, eqS, q5, q6, hfe', obind, q7, and_self, or_true, decide_true, reduceIte, nI_1, Nat.lt_irrefl]
              · simp (disch := omega) only [fX2_bestToSend_73, fX2_bestToSend_106, fX2_bestToSend_114, nI_m9 (show b < 32 by omega), ltS, eqS, q5, q6, hfe', obind, q7, and_false, or_self, decide_false, reduceIte, nI_1, Nat.lt_irrefl, Bool.false_eq_true]
            · simp (disch := omega) only [fX2_bestToSend_73, fX2_bestToSend_114, nI_m9 (show b < 32 by omega), ltS, eqS, q5, q6, false_and, or_self, decide_false, reduceIte, nI_1, Bool.false_eq_true]
      · -- too many
        have q4 : ¬ i = 0 := fun e => q2 (by rw [e]; exact Nat.zero_le _)
        refine ⟨s, ?_, fun h => absurd h (by omega), fun _ => ?_⟩
        · simp (disch := omega) only [fX2_bestToSend_20, gX2_bestToSend_20, fX2_bestToSend_114, lt31, show ¬ 31 < i by omega, reduceIte, within_c i hi H hH, obind, q1, decide_true, cnt_c, leS, q2, nI_1]
        · rw [bs_succ, show okS H fr i = false by simp [okS, q2], Bool.false_and, Bool.and_false, if_neg (by decide)]
          exact hI.2 (by omega)
    · have q4 : ¬ i = 0 := fun e => q1 (by rw [e]; exact Nat.zero_and _)
      refine ⟨s, ?_, fun h => absurd h (by omega), fun _ => ?_⟩
      · simp (disch := omega) only [fX2_bestToSend_20, gX2_bestToSend_20, fX2_bestToSend_114, lt31, show ¬ 31 < i by omega, reduceIte, within_c i hi H hH, obind, q1, decide_false, Bool.false_eq_true, nI_1]
      · rw [bs_succ, show okS H fr i = false by simp [okS, q1], Bool.false_and, Bool.and_false, if_neg (by decide)]
        exact hI.2 (by omega)
