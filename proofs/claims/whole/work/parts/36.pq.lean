/-! ===== PURE LAYER: rests ===== -/
def gnI (w : Int32) (h : Bool) (a b : Int32) : Int32 := if a = 0 then -w else if b = 0 then 2 else if h then -5 else 0
theorem gain_c {n f g : Nat} (hn : n ≤ 5) (hf : f < n) (hg : g < n) {phr pho : Nat → Int32} {hm : Nat → Nat} (hh : HOS n pho hm) (a b : Int32) : fX3_gain (nI f) (nI g) a b (nI n) phr pho = some (gnI (phr f) (decide (bt (hm f) g = 1)) a b) := by
  obtain ⟨h1, h2⟩ := hh.1 f hf
  have h3 := two5 hn
  unfold fX3_gain fX4_areHostile gnI
  simp (disch := omega) only [has_spec hn, obind, hasB_nI hf hn, reduceIte, inb_t, cl_s, h1, i_1, bit01 (show hm f < 32 by omega) (show g < 5 by omega)]
  by_cases q1 : a = 0
  · simp only [q1, reduceIte]
  · by_cases q2 : b = 0
    · simp only [q1, q2, reduceIte]
    · have := bt_le (hm f) g
      by_cases q3 : bt (hm f) g = 1
      · simp only [q1, q2, q3, reduceIte, show ¬ nI 1 = 0 by decide, obind, decide_true]
      · simp only [q1, q2, show bt (hm f) g = 0 by omega, show ¬ (0 = 1) by omega, reduceIte, show nI 0 = 0 by decide, obind, decide_false, Bool.false_eq_true]
theorem gain_r {n f g : Nat} (hn : n ≤ 5) (hf : f < n) (hg : g < n) {mws mho : Nat → Int32} {hm : Nat → Nat} (hh : HOS n mho hm) (a b : Int32) : fX10_gain (nI f) (nI g) a b mws mho = some (gnI (mws f) (decide (bt (hm f) g = 1)) a b) := by
  obtain ⟨h1, h2⟩ := hh.1 f hf
  have h3 := two5 hn
  unfold fX10_gain gnI
  simp (disch := omega) only [obind, reduceIte, inb_t, cl_s, h1, hasr_spec (show hm f < 32 by omega) (show g < 5 by omega)]
  by_cases q1 : a = 0
  · simp only [q1, reduceIte]
  · by_cases q2 : b = 0
    · simp only [q1, q2, reduceIte]
    · by_cases q3 : bt (hm f) g = 1
      · simp [q1, q2, q3]
      · simp [q1, q2, q3]
def rsB (w v : Int32) (h k : Bool) (a b : Int32) : Bool := !(decide (gnI w h a b < gnI w h (1 - a) b)) && !(decide (gnI v k b a < gnI v k (1 - b) a))
theorem rest_c {n f g : Nat} (hn : n ≤ 5) (hf : f < n) (hg : g < n) {phr pho : Nat → Int32} {hm : Nat → Nat} (hh : HOS n pho hm) (a b : Int32) : fX3_isRest (nI f) (nI g) a b (nI n) phr pho = some (rsB (phr f) (phr g) (decide (bt (hm f) g = 1)) (decide (bt (hm g) f = 1)) a b) := by
  unfold fX3_isRest rsB
  simp only [gain_c hn hf hg hh, gain_c hn hg hf hh, obind]
  split
  · rename_i q; simp [q]
  · rename_i q
    split
    · rename_i q2; simp [q2]
    · rename_i q2; simp [q, q2]
theorem rest_r {n f g : Nat} (hn : n ≤ 5) (hf : f < n) (hg : g < n) {mws mho : Nat → Int32} {hm : Nat → Nat} (hh : HOS n mho hm) (a b : Int32) : fX10_isRest (nI f) (nI g) a b mws mho = some (rsB (mws f) (mws g) (decide (bt (hm f) g = 1)) (decide (bt (hm g) f = 1)) a b) := by
  unfold fX10_isRest rsB
  simp only [gain_r hn hf hg hh, gain_r hn hg hf hh, obind]
  split
  · rename_i q; simp [q]
  · rename_i q
    split
    · rename_i q2; simp [q2]
    · rename_i q2; simp [q, q2]
def c01 (b : Bool) : Int32 := if b then 1 else 0
theorem hm14_s {x1 x2 fl : Int32} {phr pho : Nat → Int32} {r : Int32 → Int32 → Bool} (C : ∀ a b, fX3_isRest x1 x2 a b fl phr pho = some (r a b)) (rec5 : Int32 → Int32 → Option Int32) (fu : Nat) (x3 x4 x5 : Int32) (h : ¬ 1 < x5) : fX3_howManyRests_14 rec5 x1 x2 x4 fl phr pho (fu + 1) x3 x5 = fX3_howManyRests_14 rec5 x1 x2 x4 fl phr pho fu (x3 + c01 (r x4 x5)) (x5 + 1) := by
  show gX3_howManyRests_14 _ _ _ _ _ _ _ _ _ _ = _
  unfold gX3_howManyRests_14 fX3_howManyRests_36
  rw [if_neg h, C, obind]
  cases r x4 x5
  · rw [if_neg (by decide), show c01 false = 0 from rfl, Int32.add_zero]
  · rw [if_pos rfl]; rfl
theorem hm_all {x1 x2 fl : Int32} {phr pho : Nat → Int32} {r : Int32 → Int32 → Bool} (C : ∀ a b, fX3_isRest x1 x2 a b fl phr pho = some (r a b)) : fX3_howManyRests x1 x2 fl phr pho = some (0 + c01 (r 0 0) + c01 (r 0 1) + c01 (r 1 0) + c01 (r 1 1)) := by
  have s14 : ∀ (rec5 : Int32 → Int32 → Option Int32) x3 x4, fX3_howManyRests_14 rec5 x1 x2 x4 fl phr pho FU x3 0 = rec5 (x3 + c01 (r x4 0) + c01 (r x4 1)) (x4 + 1) := by
    intro rec5 x3 x4
    show fX3_howManyRests_14 rec5 x1 x2 x4 fl phr pho (97 + 1 + 1 + 1) x3 0 = _
    rw [hm14_s C _ _ _ _ _ (by decide), hm14_s C _ _ _ _ _ (by decide)]
    show gX3_howManyRests_14 _ _ _ _ _ _ _ _ _ _ = _
    unfold gX3_howManyRests_14
    rw [if_pos (by decide)]
    rfl
  unfold fX3_howManyRests
  show gX3_howManyRests_5 _ _ _ _ _ _ _ _ = _
  unfold gX3_howManyRests_5
  rw [if_neg (by decide), s14]
  show gX3_howManyRests_5 _ _ _ _ _ _ _ _ = _
  unfold gX3_howManyRests_5
  rw [if_neg (by decide), s14]
  show gX3_howManyRests_5 _ _ _ _ _ _ _ _ = _
  unfold gX3_howManyRests_5
  rw [if_pos (by decide)]
  rfl
theorem fr_all {x1 x2 fl : Int32} {phr pho : Nat → Int32} {r : Int32 → Int32 → Bool} (C : ∀ a b, fX3_isRest x1 x2 a b fl phr pho = some (r a b)) : fX3_firstRest x1 x2 fl phr pho = some (if r 0 0 then 0 else if r 0 1 then 1 else if r 1 0 then 10 else if r 1 1 then 11 else -9) := by
  have s10 : ∀ (rec2 : Int32 → Option Int32) x3, fX3_firstRest_10 rec2 x1 x2 x3 fl phr pho FU 0 = if r x3 0 then some (10 * x3 + 0) else if r x3 1 then some (10 * x3 + 1) else rec2 (x3 + 1) := by
    intro rec2 x3
    show gX3_firstRest_10 _ _ _ _ _ _ _ _ _ = _
    unfold gX3_firstRest_10
    rw [if_neg (by decide), C, obind]
    congr 1
    show gX3_firstRest_10 _ _ _ _ _ _ _ _ _ = _
    unfold gX3_firstRest_10
    rw [if_neg (by decide), C, obind]
    congr 1
  unfold fX3_firstRest
  show gX3_firstRest_2 _ _ _ _ _ _ _ = _
  unfold gX3_firstRest_2
  rw [if_neg (by decide), s10]
  show (if r 0 0 = true then _ else if r 0 1 = true then _ else gX3_firstRest_2 _ _ _ _ _ _ _) = _
  unfold gX3_firstRest_2
  rw [if_neg (show ¬ (1 : Int32) < 0 + 1 by decide), s10]
  show (if r 0 0 = true then _ else if r 0 1 = true then _ else if r 1 0 = true then _ else if r 1 1 = true then _ else gX3_firstRest_2 _ _ _ _ _ _ _) = _
  unfold gX3_firstRest_2
  rw [if_pos (show (1 : Int32) < 0 + 1 + 1 by decide)]
  cases r 0 0 <;> cases r 0 1 <;> cases r 1 0 <;> cases r 1 1 <;> rfl
theorem rr_all {x1 x2 x3 : Int32} {mws mho : Nat → Int32} {r : Int32 → Int32 → Bool} (C : ∀ a b, fX10_isRest x1 x2 a b mws mho = some (r a b)) : fX10_rests_46 x1 x2 x3 mws mho FU 0 (-9) 0 = some (if x3 = 0 then (0 + c01 (r 0 0) + c01 (r 0 1) + c01 (r 1 0) + c01 (r 1 1)) else if r 0 0 then 0 else if r 0 1 then 1 else if r 1 0 then 10 else if r 1 1 then 11 else -9) := by
  have st : ∀ fu x4 x5 x6, ¬ 4 ≤ x6 → fX10_rests_46 x1 x2 x3 mws mho (fu + 1) x4 x5 x6 = fX10_rests_46 x1 x2 x3 mws mho fu (x4 + c01 (r (x6 / 2) (jrem x6 2))) (if r (x6 / 2) (jrem x6 2) then (if x4 = 0 then 10 * (x6 / 2) + jrem x6 2 else x5) else x5) (x6 + 1) := by
    intro fu x4 x5 x6 h
    show gX10_rests_46 _ _ _ _ _ _ _ _ _ = _
    unfold gX10_rests_46 fX10_rests_91 fX10_rests_96
    rw [if_neg h, C, obind]
    cases r (x6 / 2) (jrem x6 2)
    · rw [if_neg (by decide), if_neg (by decide), show c01 false = 0 from rfl, Int32.add_zero]
    · rw [if_pos rfl, if_pos rfl]
      split <;> rfl
  show fX10_rests_46 x1 x2 x3 mws mho (95 + 1 + 1 + 1 + 1 + 1) 0 (-9) 0 = _
  rw [st _ _ _ _ (by decide), st _ _ _ _ (by decide), st _ _ _ _ (by decide), st _ _ _ _ (by decide)]
  show gX10_rests_46 _ _ _ _ _ _ _ _ _ = _
  unfold gX10_rests_46
  rw [if_pos (by decide)]
  rw [show (0 : Int32) / 2 = 0 by decide, show jrem (0 : Int32) 2 = 0 by decide, show ((0 : Int32) + 1) / 2 = 0 by decide, show jrem ((0 : Int32) + 1) 2 = 1 by decide, show ((0 : Int32) + 1 + 1) / 2 = 1 by decide, show jrem ((0 : Int32) + 1 + 1) 2 = 0 by decide, show ((0 : Int32) + 1 + 1 + 1) / 2 = 1 by decide, show jrem ((0 : Int32) + 1 + 1 + 1) 2 = 1 by decide]
  by_cases q : x3 = 0
  · rw [if_pos q, if_pos q]
  · rw [if_neg q, if_neg q]
    cases r 0 0 <;> cases r 0 1 <;> cases r 1 0 <;> cases r 1 1 <;> rfl
/-- RESTS -/
theorem sim_rests {n : Nat} {hm : Nat → Nat} {pcl phr pho mcl mws mho : Nat → Int32} (P : PL n hm pcl phr pho mcl mws mho) (x1 x2 x3 : Int32) : ∃ r, fX9_rests x1 x2 x3 (nI n) phr pho = some r ∧ fX10_rests x1 x2 x3 (nI n) mws mho = some r := by
  obtain ⟨hn, hc, hcl, hws, hh, hho⟩ := P
  unfold fX9_rests fX10_rests
  simp only [has_spec hn, isFlag_spec hn, obind, inS x3 0 1 0 1 rfl rfl]
  rcases flag_cases n hn x1 with ⟨f, hf, rfl⟩ | h1
  · rcases flag_cases n hn x2 with ⟨g, hg, rfl⟩ | h2
    · simp only [hasB_nI hf hn, hasB_nI hg hn, reduceIte]
      by_cases e : nI f = nI g
      · simp only [e, reduceIte]; exact ⟨_, rfl, rfl⟩
      · simp only [e, reduceIte]
        have C := rest_c (phr := phr) hn hf hg hh
        have R := rest_r (mws := mws) hn hf hg (hh.to hho)
        rw [hws f hf, hws g hg] at R
        generalize rsB (phr f) (phr g) (decide (bt (hm f) g = 1)) (decide (bt (hm g) f = 1)) = r at C R
        simp only [hm_all C, fr_all C, rr_all R, obind]
        rcases rng_cases x3 1 (by omega) with ⟨k, hk, rfl⟩ | h3
        · have e5 := nI_toInt (n := k) (by omega)
          have e6 : decide (0 ≤ (nI k).toInt ∧ (nI k).toInt ≤ 1) = true := decide_eq_true (by omega)
          simp only [e6, reduceIte]
          rcases (show k = 0 ∨ k = 1 by omega) with rfl | rfl
          · exact ⟨_, if_pos (show nI 0 = 0 by decide), congrArg some (if_pos (show nI 0 = 0 by decide))⟩
          · exact ⟨_, (if_neg (show ¬ nI 1 = 0 by decide)).trans (if_pos (show nI 1 = 1 by decide)), congrArg some (if_neg (show ¬ nI 1 = 0 by decide))⟩
        · have e6 : decide (0 ≤ x3.toInt ∧ x3.toInt ≤ 1) = false := decide_eq_false h3
          have n0 : ¬ x3 = 0 := fun q => h3 (by rw [q]; decide)
          have n1 : ¬ x3 = 1 := fun q => h3 (by rw [q]; decide)
          simp only [e6, n0, n1, Bool.false_eq_true, reduceIte]
          exact ⟨_, rfl, rfl⟩
    · simp only [hasB_nI hf hn, h2, Bool.false_eq_true, reduceIte]; exact ⟨_, rfl, rfl⟩
  · simp only [h1, Bool.false_eq_true, reduceIte]; exact ⟨_, rfl, rfl⟩
