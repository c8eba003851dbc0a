/-! ===== PURE LAYER: an hour, both sides alike (2) ===== -/
theorem passB {n lev : Nat} (hn : n ≤ 5) (hl : lev ≤ 1) {m0 wh lf co m pcl mcl : Nat → Int32} {wi ho t p came : Int32} (hcl : ∀ i, i < n → mcl i = pcl i) (h : RVo n lev m0 wh lf co wi ho m) :
    fX10_passOn_140 (nI lev) (nI (17 * lev)) came (nI (bitsN (fun j => decide (wh j = 1)) n)) (nI n) t p mcl m FU (nI 0) (nI 0) = fX10_passOn_201 (nI lev) (nI (17 * lev)) came (nI (bitsN (fun j => decide (wh j = 1)) n)) (dye n wh pcl co) (nI n) t p mcl FU (nI 0) m := by
  have h32 := bits32 (fun j => decide (wh j = 1)) hn
  refine loop_seq (fun fu (s : Int32) x => fX10_passOn_140 (nI lev) (nI (17 * lev)) came (nI (bitsN (fun j => decide (wh j = 1)) n)) (nI n) t p mcl m fu s x) (fun i => nI (bitsN (fun j => decide (wh j = 1 ∧ mcl j = 3)) i)) n _ ?_ ?_ n 0 FU (by omega) (by unfold FU; omega)
  · intro fu
    have e : colS n (fun i => m (17 * lev + i)) (bitsN (fun j => decide (wh j = 1 ∧ mcl j = 3)) n) = dye n wh pcl co := by
      refine orN_cong (fun i hi => ?_)
      simp only [bt_bits _ hi, decide_eq_true_eq, (h.1 i hi).1, hcl i hi]
    simp (disch := omega) only [fX10_passOn_140, gX10_passOn_140, leS, Nat.le_refl, reduceIte, coloursR_spec hn hl m (bits32 _ hn), obind, e]
    rfl
  · intro fu i hi
    have hb : (bt (bitsN (fun j => decide (wh j = 1)) n) i = 1) = (decide (wh i = 1) = true) := bt_bits _ hi
    have e1 := bitsN_succ (fun j => decide (wh j = 1 ∧ mcl j = 3)) i
    by_cases h1 : wh i = 1
    · have hb1 : bt (bitsN (fun j => decide (wh j = 1)) n) i = 1 := by rw [hb]; simp [h1]
      by_cases h3 : mcl i = 3
      · rw [show (decide (wh i = 1 ∧ mcl i = 3)) = true by simp [h1, h3], if_pos rfl] at e1
        simp (disch := omega) only [fX10_passOn_140, gX10_passOn_140, fX10_passOn_180, leS, hasr_spec, obind, hb1, decide_true, inb_t, cl_s, h3, reduceIte, show ¬ n ≤ i by omega, shl_1, or_bits, e1, nI_1]
      · rw [show (decide (wh i = 1 ∧ mcl i = 3)) = false by simp [h3], if_neg (by decide)] at e1; simp only [Nat.add_zero] at e1
        simp (disch := omega) only [fX10_passOn_140, gX10_passOn_140, fX10_passOn_179, fX10_passOn_180, leS, hasr_spec, obind, hb1, decide_true, inb_t, cl_s, h3, reduceIte, show ¬ n ≤ i by omega, Int32.or_zero, e1, nI_1]
    · have hb1 : ¬ bt (bitsN (fun j => decide (wh j = 1)) n) i = 1 := by rw [hb]; simp [h1]
      rw [show (decide (wh i = 1 ∧ mcl i = 3)) = false by simp [h1], if_neg (by decide)] at e1; simp only [Nat.add_zero] at e1
      simp (disch := omega) only [fX10_passOn_140, gX10_passOn_140, fX10_passOn_179, fX10_passOn_180, leS, hasr_spec, obind, hb1, decide_false, Bool.false_eq_true, reduceIte, show ¬ n ≤ i by omega, Int32.or_zero, e1, nI_1]
theorem passA {n lev : Nat} (hn : n ≤ 5) (hl : lev ≤ 1) {m0 wh lf co m pcl mcl : Nat → Int32} {wi ho t p : Int32} (hcl : ∀ i, i < n → mcl i = pcl i) (h : RVo n lev m0 wh lf co wi ho m) (P : Option (Int32 × (Nat → Int32)) → Prop)
    (hP : ∀ m', RVo n lev m0 (mapN n (dW wi wh lf) wh) (mapN n (dL wi wh lf) lf) co wi ho m' → P (fX10_passOn_140 (nI lev) (nI (17 * lev)) (nI (bitsN (dP wi wh lf) n)) (nI (bitsN (fun j => decide (mapN n (dW wi wh lf) wh j = 1)) n)) (nI n) t p mcl m' FU (nI 0) (nI 0))) :
    P (fX10_passOn (nI lev) (nI n) t p mcl m) := by
  have e17 : (17 : Int32) * nI lev = nI (17 * lev) := pk_mul 17 lev
  unfold fX10_passOn
  rw [e17]
  refine loop_ex (fun i (s : Int32 × (Nat → Int32)) => s.1 = nI (bitsN (dP wi wh lf) i) ∧ RVo n lev m0 (mapN i (dW wi wh lf) wh) (mapN i (dL wi wh lf) lf) co wi ho s.2) (fun fu s x => fX10_passOn_10 (nI lev) (nI (17 * lev)) (nI n) t p mcl fu s.1 x s.2) n P ?_ ?_ n 0 (nI 0, m) FU (by omega) (by unfold FU; omega) ⟨rfl, by rw [mapN_0, mapN_0]; exact h⟩
  · intro fu s hI
    have e : bitsN (fun j => decide (s.2 (17 * lev + 5 + j) = 1)) n = bitsN (fun j => decide (mapN n (dW wi wh lf) wh j = 1)) n := bitsN_cong (fun j hj => by rw [(hI.2.1 j hj).2.1])
    have := hP s.2 hI.2
    rw [← hI.1] at this
    simp (disch := omega) only [fX10_passOn_10, gX10_passOn_10, leS, Nat.le_refl, reduceIte, areIn_spec hn hl, obind, e]
    exact this
  · intro fu s i hi hI
    obtain ⟨hc, hR⟩ := hI
    obtain ⟨a1, a2, a3⟩ := hR.1 i hi
    have b2 : s.2 (17 * lev + 5 + i) = wh i := a2.trans mapN_at
    have b3 : s.2 (17 * lev + 10 + i) = lf i := a3.trans mapN_at
    have b4 := hR.2.1
    by_cases h2 : wh i = 2
    · have el : s.2 (17 * lev + 10 + i) - 1 - s.2 (17 * lev + 15) = lf i - (1 + wi) := by rw [b3, b4, sub_sub32]
      rcases le_or32 (lf i - (1 + wi)) with ⟨p1, p2, p3⟩ | ⟨p1, p2, p3⟩
      · refine ⟨(s.1, upd (upd s.2 (17 * lev + 10 + i) (lf i - (1 + wi))) (17 * lev + 5 + i) 2), ?_, ?_, ?_⟩
        · simp (disch := omega) only [fX10_passOn_10, gX10_passOn_10, fX10_passOn_60, fX10_passOn_82, fX10_passOn_103, fX10_passOn_118, fX10_passOn_120, leS, reduceIte, show ¬ n ≤ i by omega, i_5, i_10, i_15, nI_add, inb_t, cl_s, b2, h2, el, p2, p3, Int32.or_zero, nI_1]
        · rw [bitsN_succ, show dP wi wh lf i = false by simp [dP, p1], if_neg (by decide), Nat.add_zero]; exact hc
        · have R := (hR.l hn hi (lf i - (1 + wi))).w hn hi 2
          rw [mapN_upd (g := dW wi wh lf) (by simp only [dW, h2, p1, reduceIte]), mapN_upd (g := dL wi wh lf) (by simp only [dL, h2, p1, reduceIte])] at R
          exact R
      · have e0 : (if 0 ≤ lf i - (1 + wi) then lf i - (1 + wi) else 0) = (0 : Int32) := by
          by_cases q : 0 ≤ lf i - (1 + wi)
          · rw [if_pos q]; exact p3 q
          · rw [if_neg q]
        refine ⟨(s.1 ||| nI (2 ^ i), upd (upd s.2 (17 * lev + 10 + i) 0) (17 * lev + 5 + i) 0), ?_, ?_, ?_⟩
        · by_cases q : 0 ≤ lf i - (1 + wi)
          · have q0 := p3 q
            rw [q0] at el p2
            simp (disch := omega) only [fX10_passOn_10, gX10_passOn_10, fX10_passOn_60, fX10_passOn_82, fX10_passOn_103, fX10_passOn_118, fX10_passOn_120, leS, reduceIte, show ¬ n ≤ i by omega, i_5, i_10, i_15, nI_add, inb_t, cl_s, b2, h2, el, p2, shl_1, nI_1]
          · simp (disch := omega) only [fX10_passOn_10, gX10_passOn_10, fX10_passOn_60, fX10_passOn_82, fX10_passOn_103, fX10_passOn_118, fX10_passOn_120, leS, reduceIte, show ¬ n ≤ i by omega, i_5, i_10, i_15, nI_add, inb_t, cl_s, b2, h2, el, p2, q, shl_1, nI_1]
        · show s.1 ||| nI (2 ^ i) = _
          rw [hc, bitsN_succ, show dP wi wh lf i = true by simp [dP, p1, h2], if_pos rfl, or_bits]
        · have R := (hR.l hn hi 0).w hn hi 0
          rw [mapN_upd (g := dW wi wh lf) (by simp only [dW, h2, p1, reduceIte]), mapN_upd (g := dL wi wh lf) (by simp only [dL, h2, p1, reduceIte])] at R
          exact R
    · refine ⟨s, ?_, ?_, ?_⟩
      · simp (disch := omega) only [fX10_passOn_10, gX10_passOn_10, fX10_passOn_120, leS, reduceIte, show ¬ n ≤ i by omega, i_5, nI_add, inb_t, cl_s, b2, h2, nI_1]
      · rw [bitsN_succ, show dP wi wh lf i = false by simp [dP, h2], if_neg (by decide), Nat.add_zero]; exact hc
      · rw [← mapN_same (g := dW wi wh lf) (by simp only [dW, h2, reduceIte]), ← mapN_same (g := dL wi wh lf) (by simp only [dL, h2, reduceIte])]
        exact hR
/-- the plan's cloths are cloths -/
def CL (n : Nat) (pcl : Nat → Int32) : Prop := ∀ i, i < n → ∃ c, c < 4 ∧ pcl i = nI c
/-- AN HOUR: both answer alike, and both show the same behind it -/
theorem pass_sim {n lev : Nat} (hn : n ≤ 5) (hl : lev ≤ 1) {m0 wh lf co m pcl mcl : Nat → Int32} {wi ho t p : Int32} (hc : CL n pcl) (hcl : ∀ i, i < n → mcl i = pcl i) (h : RVo n lev m0 wh lf co wi ho m) :
    ∃ cb wh' lf' co' m', cb < 32 ∧ fX8_passHour wh lf co wi ho p (nI n) pcl = some (nI cb, wh', lf', co', ho + 1) ∧ fX10_passOn (nI lev) (nI n) t p mcl m = some (nI cb, m') ∧ RVo n lev m0 wh' lf' co' wi (ho + 1) m' ∧ ∀ j, j < n → wh' j = 1 → wh j = 1 := by
  have hcl' : ∀ i, i < n → mcl i = pcl i := hcl
  refine ⟨bitsN (dP wi wh lf) n, (hSeq n p pcl (mapN n (dW wi wh lf) wh, mapN n (wL (mapN n (dW wi wh lf) wh) (mapN n (dL wi wh lf) lf)) (mapN n (dL wi wh lf) lf)) n).1, (hSeq n p pcl (mapN n (dW wi wh lf) wh, mapN n (wL (mapN n (dW wi wh lf) wh) (mapN n (dL wi wh lf) lf)) (mapN n (dL wi wh lf) lf)) n).2, mapN n (rC (dye n (mapN n (dW wi wh lf) wh) pcl co) (mapN n (dW wi wh lf) wh) co) co, ?_⟩
  have k2 : ∃ m', fX10_passOn (nI lev) (nI n) t p mcl m = some (nI (bitsN (dP wi wh lf) n), m') ∧ RVo n lev m0 (hSeq n p pcl (mapN n (dW wi wh lf) wh, mapN n (wL (mapN n (dW wi wh lf) wh) (mapN n (dL wi wh lf) lf)) (mapN n (dL wi wh lf) lf)) n).1 (hSeq n p pcl (mapN n (dW wi wh lf) wh, mapN n (wL (mapN n (dW wi wh lf) wh) (mapN n (dL wi wh lf) lf)) (mapN n (dL wi wh lf) lf)) n).2 (mapN n (rC (dye n (mapN n (dW wi wh lf) wh) pcl co) (mapN n (dW wi wh lf) wh) co) co) wi (ho + 1) m' := by
    refine passA hn hl hcl' h (fun r => ∃ m', r = some (nI (bitsN (dP wi wh lf) n), m') ∧ RVo n lev m0 (hSeq n p pcl (mapN n (dW wi wh lf) wh, mapN n (wL (mapN n (dW wi wh lf) wh) (mapN n (dL wi wh lf) lf)) (mapN n (dL wi wh lf) lf)) n).1 (hSeq n p pcl (mapN n (dW wi wh lf) wh, mapN n (wL (mapN n (dW wi wh lf) wh) (mapN n (dL wi wh lf) lf)) (mapN n (dL wi wh lf) lf)) n).2 (mapN n (rC (dye n (mapN n (dW wi wh lf) wh) pcl co) (mapN n (dW wi wh lf) wh) co) co) wi (ho + 1) m') (fun m1 hm1 => ?_)
    rw [passB hn hl hcl' hm1]
    exact passC hn hl hcl' hm1
  obtain ⟨m', g1, g2⟩ := k2
  refine ⟨m', bits32 _ hn, ?_, g1, g2, ?_⟩
  · unfold fX8_passHour
    simp only [dry_spec hn, obind, run_spec hn, wash_spec hn, hang_spec hn _ _ _ _ hc]
  · intro j hj h1
    have key : ∀ i, (hSeq n p pcl (mapN n (dW wi wh lf) wh, mapN n (wL (mapN n (dW wi wh lf) wh) (mapN n (dL wi wh lf) lf)) (mapN n (dL wi wh lf) lf)) i).1 j = 1 → mapN n (dW wi wh lf) wh j = 1 := by
      intro i
      induction i with
      | zero => exact fun q => q
      | succ i ih =>
        intro q
        apply ih
        have q' : (hStep n p pcl i (hSeq n p pcl (mapN n (dW wi wh lf) wh, mapN n (wL (mapN n (dW wi wh lf) wh) (mapN n (dL wi wh lf) lf)) (mapN n (dL wi wh lf) lf)) i)).1 j = 1 := q
        unfold hStep at q'
        split at q'
        · by_cases e : j = i
          · subst e
            have : (2 : Int32) = 1 := (pk_us (f := _)).symm.trans q'
            exact absurd this (by decide)
          · exact (pk_un e).symm.trans q'
        · exact q'
    have h2 := (mapN_lt hj).symm.trans (key n h1)
    unfold dW at h2
    by_cases e : wh j = 2
    · rw [if_pos e] at h2
      split at h2
      · exact absurd h2 (by decide)
      · exact absurd h2 (by decide)
    · rw [if_neg e] at h2; exact h2
