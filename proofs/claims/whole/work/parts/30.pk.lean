/-! ===== PURE LAYER: ran ===== -/
theorem areCol_spec (x : Int32) : fX9_areColours x = some (decide (0 ≤ x.toInt ∧ x.toInt ≤ 15)) := by
  unfold fX9_areColours
  have e0 : (x < 0) = (x.toInt < 0) := propext (by rw [Int32.lt_iff_toInt_lt, Int32.toInt_zero])
  have e1 : (15 < x) = (15 < x.toInt) := propext (by rw [Int32.lt_iff_toInt_lt]; rfl)
  simp only [e0, e1]
  by_cases h1 : x.toInt < 0
  · rw [if_pos h1]; congr 1; symm; simp; omega
  · rw [if_neg h1]
    by_cases h2 : 15 < x.toInt
    · rw [if_pos h2]; congr 1; symm; simp; omega
    · rw [if_neg h2]; congr 1; symm; simp; omega
theorem allBits_spec : ∀ n, n ≤ 5 → fX4_allBits (nI n) = some (nI (2 ^ n - 1)) := by
  intro n hn
  have : ∀ n, n < 6 → fX4_allBits (nI n) = some (nI (2 ^ n - 1)) := by decide +kernel
  exact this n (by omega)
theorem others_spec : ∀ n, n < 6 → ∀ f, f < n → ∀ s, s < 32 → ((s &&& ((2 ^ n - 1) &&& (31 ^^^ 2 ^ f)) = s) ↔ (s < 2 ^ n ∧ bt s f = 0)) := by decide +kernel
theorem orN_add {co : Nat → Int32} {A : Nat → Prop} {iA : ∀ i, Decidable (A i)} {f : Nat} : ∀ {n : Nat}, f < n → orN (fun i => if A i ∨ i = f then co i else 0) n = orN (fun i => if A i then co i else 0) n ||| co f
  | 0, h => by omega
  | n + 1, h => by
    rw [orN_succ, orN_succ]
    by_cases e : f = n
    · subst e
      rw [if_pos (Or.inr rfl), orN_cong (g := fun i => if A i then co i else 0) (fun i hi => by
        have hne : ¬ i = f := by omega
        by_cases a : A i
        · rw [if_pos (Or.inl a), if_pos a]
        · rw [if_neg (fun q => q.elim a hne), if_neg a])]
      by_cases a : A f
      · rw [if_pos a, Int32.or_assoc, Int32.or_self]
      · rw [if_neg a, Int32.or_zero]
    · rw [orN_add (n := n) (by omega)]
      have hne : ¬ n = f := fun q => e q.symm
      by_cases a : A n
      · rw [if_pos (Or.inl a), if_pos a, Int32.or_assoc, Int32.or_comm (co f), ← Int32.or_assoc]
      · rw [if_neg (fun q => q.elim a hne), if_neg a, Int32.or_zero, Int32.or_zero]
theorem colS_add {n f s : Nat} (hf : f < n) (co : Nat → Int32) : colS n co (s ||| 2 ^ f) = colS n co s ||| co f := by
  unfold colS
  rw [← orN_add (co := co) (A := fun i => bt s i = 1) hf]
  refine orN_cong (fun i _ => ?_)
  have e : (bt (s ||| 2 ^ f) i = 1) = (bt s i = 1 ∨ i = f) := by
    rw [bt_tb, bt_tb, Nat.testBit_or, Nat.testBit_two_pow]
    by_cases h1 : s.testBit i = true <;> by_cases h2 : f = i <;> simp [h1, h2, eq_comm]
  simp only [e]
theorem two_lt {f n : Nat} (hf : f < n) (hn : n ≤ 5) : 2 ^ f < 32 := Nat.lt_of_lt_of_le (Nat.pow_lt_pow_right (by decide) hf) (two5 hn)
theorem lt31 {i : Nat} (h : i < 2147483648) : ((31 : Int32) < nI i) = (31 < i) := ltS (a := 31) (by decide) h
/-- RAN -/
theorem sim_ran {n : Nat} (hn : n ≤ 5) {m wh lf co : Nat → Int32} {wi ho : Int32} (hR : RVo n 0 m wh lf co wi ho m) (x1 x2 : Int32) : ∃ r, fX9_ran x1 x2 (nI n) co = some r ∧ fX10_ran x1 x2 (nI n) m = some r := by
  unfold fX9_ran fX10_ran
  simp only [has_spec hn, isFlag_spec hn, obind, areCol_spec, inS x2 0 15 0 15 rfl rfl]
  rcases flag_cases n hn x1 with ⟨f, hf, rfl⟩ | h1
  · simp only [hasB_nI hf hn, reduceIte]
    by_cases h2 : 0 ≤ x2.toInt ∧ x2.toInt ≤ 15
    · simp only [h2, and_self, decide_true, reduceIte]
      have hf2 := two_lt hf hn
      have h2n := two5 hn
      have hO : (2 ^ n - 1) &&& (31 ^^^ 2 ^ f) < 32 := Nat.lt_of_le_of_lt Nat.and_le_left (by omega)
      have hco : m f = co f := by have := (hR.1 f hf).1; simpa using this
      refine ⟨bI (bestN (fun s => decide (s < 2 ^ n ∧ bt s f = 0) && decide ((colS n co s ||| co f) = x2)) (2 ^ n)), ?_, ?_⟩
      · rw [allBits_spec n hn, obind, shl_1 (by omega), without (2 ^ n - 1) (by omega) (2 ^ f) hf2]
        rw [← bestN_cut (m := 32) h2n (fun i h3 _ => by
          have : ¬ (i < 2 ^ n ∧ bt i f = 0) := fun q => by omega
          simp [this])]
        unfold fX9_ran_37
        refine loop_seq (fun fu (s : Int32) x => fX9_ran_44 (nI f) x2 (nI ((2 ^ n - 1) &&& (31 ^^^ 2 ^ f))) (nI n) co fu s x) (fun i => bI (bestN (fun s => decide (s < 2 ^ n ∧ bt s f = 0) && decide ((colS n co s ||| co f) = x2)) i)) 32 _ (fun fu => ?_) (fun fu i hi => ?_) 32 0 FU (by omega) (by unfold FU; omega)
        · simp (disch := omega) only [fX9_ran_44, gX9_ran_44, lt31, show 31 < 32 by omega, reduceIte]
        · have hs : i ||| 2 ^ f < 32 := Nat.or_lt_two_pow (n := 5) hi hf2
          have hfe := fewer_spec hi (o := bestN (fun s => decide (s < 2 ^ n ∧ bt s f = 0) && decide ((colS n co s ||| co f) = x2)) i) (fun b hb => by have := bestN_lt _ _ _ hb; omega)
          have hw : decide (i &&& ((2 ^ n - 1) &&& (31 ^^^ 2 ^ f)) = i) = decide (i < 2 ^ n ∧ bt i f = 0) := by
            have := others_spec n (by omega) f hf i hi
            simp only [this]
          rw [bestN_succ]
          generalize bestN (fun s => decide (s < 2 ^ n ∧ bt s f = 0) && decide ((colS n co s ||| co f) = x2)) i = o at hfe ⊢
          by_cases q1 : i < 2 ^ n ∧ bt i f = 0
          · by_cases q2 : (colS n co i ||| co f) = x2
            · cases hfo : fewer i o <;> simp (disch := omega) only [fX9_ran_44, gX9_ran_44, fX9_ran_82, fX9_ran_103, lt31, show ¬ 31 < i by omega, reduceIte, within_c i hi _ hO, obind, hw, q1, and_self, decide_true, shl_1, or_s, colours_spec hn co hs, colS_add hf, q2, hfe, hfo, nI_1, Bool.and_self, Bool.and_false, Bool.false_eq_true, Bool.true_and] <;> rfl
            · simp (disch := omega) only [fX9_ran_44, gX9_ran_44, fX9_ran_81, fX9_ran_82, fX9_ran_103, lt31, show ¬ 31 < i by omega, reduceIte, within_c i hi _ hO, obind, hw, q1, and_self, decide_true, shl_1, or_s, colours_spec hn co hs, colS_add hf, q2, nI_1, decide_false, Bool.and_false, Bool.false_and, Bool.false_eq_true]
          · simp (disch := omega) only [fX9_ran_44, gX9_ran_44, fX9_ran_81, fX9_ran_82, fX9_ran_103, lt31, show ¬ 31 < i by omega, reduceIte, within_c i hi _ hO, obind, hw, q1, nI_1, decide_false, Bool.false_and, Bool.false_eq_true]
      · refine loop_seq (fun fu (s : Int32) x => fX10_ran_31 (nI f) x2 (nI n) m fu s x) (fun i => bI (bestN (fun s => decide (s < 2 ^ n ∧ bt s f = 0) && decide ((colS n co s ||| co f) = x2)) i)) (2 ^ n) _ (fun fu => ?_) (fun fu i hi => ?_) (2 ^ n) 0 FU (by omega) (by unfold FU; omega)
        · simp (disch := omega) only [fX10_ran_31, gX10_ran_31, shl_1, leS, Nat.le_refl, reduceIte]
        · have hi32 : i < 32 := by omega
          have hb1 := bt_le i f
          have hlt : ∀ b, bestN (fun s => decide (s < 2 ^ n ∧ bt s f = 0) && decide ((colS n co s ||| co f) = x2)) i = some b → b < 32 := fun b hb => by have := bestN_lt _ _ _ hb; omega
          rw [bestN_succ]
          generalize bestN (fun s => decide (s < 2 ^ n ∧ bt s f = 0) && decide ((colS n co s ||| co f) = x2)) i = o at hlt ⊢
          have hcs : colS n (fun j => m (17 * 0 + j)) i = colS n co i := orN_cong (fun j hj => by simp only [(hR.1 j hj).1])
          have hcr := coloursR_spec hn (lev := 0) (by omega) m hi32
          rw [hcs, nI_0] at hcr
          have key : ∀ (y : Bool), fX10_ran_74 (fX10_ran_31 (nI f) x2 (nI n) m fu) (nI f) x2 (bI o) (nI i) y (nI n) m = fX10_ran_31 (nI f) x2 (nI n) m fu (bI (if decide ((colS n co i ||| co f) = x2) && y then some i else o)) (nI (i + 1)) := by
            intro y
            cases y
            · simp only [fX10_ran_74, fX10_ran_104, fX10_ran_105, Bool.and_false, Bool.false_eq_true, reduceIte, nI_1]
            · by_cases q2 : (colS n co i ||| co f) = x2
              · simp (disch := omega) only [fX10_ran_74, fX10_ran_105, reduceIte, hcr, obind, inb_t, cl_s, hco, q2, decide_true, Bool.and_self, nI_1]; rfl
              · simp (disch := omega) only [fX10_ran_74, fX10_ran_104, fX10_ran_105, reduceIte, hcr, obind, inb_t, cl_s, hco, q2, decide_false, Bool.false_and, Bool.false_eq_true, nI_1]
          by_cases q0 : bt i f = 1
          · have k1 := key false
            simp (disch := omega) only [fX10_ran_31, gX10_ran_31, fX10_ran_73, shl_1, leS, show ¬ 2 ^ n ≤ i by omega, reduceIte, hasr_spec, obind, q0, decide_true, show ¬ (i < 2 ^ n ∧ 1 = 0) by omega, decide_false, Bool.false_and, Bool.and_false, Bool.false_eq_true] at k1 ⊢
            exact k1
          · have q00 : bt i f = 0 := by omega
            cases o with
            | none =>
              have k1 := key true
              simp (disch := omega) only [fX10_ran_31, gX10_ran_31, fX10_ran_69, shl_1, leS, show ¬ 2 ^ n ≤ i by omega, reduceIte, hasr_spec, obind, q00, show ¬ 0 = 1 by omega, decide_false, Bool.false_eq_true, bI, fewer, hi, and_self, decide_true, Bool.true_and, Bool.and_true] at k1 ⊢
              exact k1
            | some b =>
              have hb := hlt b rfl
              have h1 := popN_le i; have h2' := popN_le b
              by_cases q : popN b ≤ popN i
              · have k1 := key false
                simp (disch := omega) only [fX10_ran_31, gX10_ran_31, fX10_ran_73, shl_1, leS, show ¬ 2 ^ n ≤ i by omega, reduceIte, hasr_spec, obind, q00, show ¬ 0 = 1 by omega, decide_false, Bool.false_eq_true, bI, fewer, nI_m9 hb, cnt_r, q, show ¬ popN i < popN b by omega, Bool.and_false] at k1 ⊢
                exact k1
              · have k1 := key true
                simp (disch := omega) only [fX10_ran_31, gX10_ran_31, fX10_ran_69, shl_1, leS, show ¬ 2 ^ n ≤ i by omega, reduceIte, hasr_spec, obind, q00, show ¬ 0 = 1 by omega, decide_false, Bool.false_eq_true, bI, fewer, nI_m9 hb, cnt_r, q, show popN i < popN b by omega, hi, and_self, decide_true, Bool.true_and, Bool.and_true] at k1 ⊢
                exact k1
    · simp only [h2, decide_false, Bool.false_eq_true, reduceIte]
      exact ⟨_, rfl, rfl⟩
  · simp only [h1, Bool.false_eq_true, reduceIte]
    exact ⟨_, rfl, rfl⟩
