/-! ===== PURE LAYER: had ===== -/
def allF (P : Nat → Bool) : Nat → Nat → Bool
  | _, 0 => true
  | i, k + 1 => P i && allF P (i + 1) k
/-- a sighting fits a set of colours -/
def fitB (n f q : Nat) (co : Nat → Int32) (sfl sco swt : Nat → Int32) (k : Nat) : Bool := !(decide (sfl k = nI f) && decide ((swt k).toNatClampNeg < 2 ^ n)) || decide (colS n co (swt k).toNatClampNeg ||| nI q = sco k)
theorem inall : ∀ n, n < 6 → ∀ w, w < 32 → ((w &&& (2 ^ n - 1) = w) ↔ w < 2 ^ n) := by decide +kernel
theorem fits_c {n f q c : Nat} (hn : n ≤ 5) (hc : c ≤ 6) {co sfl sco swt : Nat → Int32} (hw : ∀ k, k < c → ∃ w, w < 32 ∧ swt k = nI w) : ∀ (k i fu : Nat), i + k = c → k < fu → fX7_fitsAll_3 (nI f) (nI q) sfl sco swt (nI c) co (nI n) fu (nI i) = some (allF (fitB n f q co sfl sco swt) i k)
  | 0, i, 0, _, h => absurd h (Nat.lt_irrefl 0)
  | 0, i, fu + 1, hi, _ => by
    show gX7_fitsAll_3 _ _ _ _ _ _ _ _ _ _ = _
    unfold gX7_fitsAll_3
    rw [if_pos (by rw [leS (by omega) (by omega)]; omega)]; rfl
  | k + 1, i, 0, _, h => absurd h (Nat.not_lt_zero _)
  | k + 1, i, fu + 1, hi, h => by
    have ih := fits_c (f := f) (q := q) (co := co) (sfl := sfl) (sco := sco) hn hc hw k (i + 1) fu (by omega) (by omega)
    obtain ⟨w, hw1, hw2⟩ := hw i (by omega)
    have h3 := two5 hn
    show gX7_fitsAll_3 _ _ _ _ _ _ _ _ _ _ = some (fitB n f q co sfl sco swt i && allF (fitB n f q co sfl sco swt) (i + 1) k)
    generalize allF (fitB n f q co sfl sco swt) (i + 1) k = A at ih ⊢
    unfold gX7_fitsAll_3 fX7_fitsAll_54 fX7_fitsAll_55 fX7_fitsAll_87 fitB
    rw [hw2, cl_s (show w < 2147483648 by omega)]
    simp (disch := omega) only [leS, show ¬ c ≤ i by omega, i_6, show ¬ 6 ≤ i by omega, inb_t, cl_s, reduceIte, hw2, allBits_spec n hn, obind, within_c w hw1 (2 ^ n - 1) (by omega), inall n (by omega) w hw1, colours_spec hn co hw1, i_1, nI_add, ih, Bool.false_eq_true]
    by_cases q1 : sfl i = nI f
    · by_cases q2 : w < 2 ^ n
      · simp only [q1, q2, decide_true, reduceIte, Bool.and_self, Bool.not_true, Bool.false_or, Int32.or_comm (nI q)]
        by_cases q3 : colS n co w ||| nI q = sco i
        · simp only [q3, reduceIte, decide_true, Bool.true_and]
        · simp only [q3, reduceIte, decide_false, Bool.false_and]
      · simp only [q1, q2, decide_true, decide_false, reduceIte, Bool.and_false, Bool.not_false, Bool.true_or, Bool.true_and, Bool.false_eq_true]
    · simp only [q1, decide_false, reduceIte, Bool.false_and, Bool.not_false, Bool.true_or, Bool.true_and]
theorem colS_cong {n b : Nat} {f g : Nat → Int32} (h : ∀ j, j < n → f j = g j) : colS n f b = colS n g b := by
  unfold colS
  exact orN_cong (fun i hi => by rw [h i hi])
theorem fits_r {n f q c : Nat} (hn : n ≤ 5) (hc : c ≤ 6) {co sfl sco swt m mso msc msw : Nat → Int32} (hco : ∀ j, j < n → m j = co j) (hs : ∀ k, k < c → mso k = sfl k ∧ msc k = sco k ∧ msw k = swt k) (hw : ∀ k, k < c → ∃ w, w < 32 ∧ swt k = nI w) : ∀ (k i fu : Nat) (b : Bool), i + k = c → k < fu → fX10_mayHave_5 (nI f) (nI q) (nI n) m (nI c) mso msc msw fu b (nI i) = some (b && allF (fitB n f q co sfl sco swt) i k)
  | 0, i, 0, _, _, h => absurd h (Nat.lt_irrefl 0)
  | 0, i, fu + 1, b, hi, _ => by
    show gX10_mayHave_5 _ _ _ _ _ _ _ _ _ _ _ = _
    unfold gX10_mayHave_5
    rw [if_pos (by rw [leS (by omega) (by omega)]; omega)]
    show some b = some (b && true)
    rw [Bool.and_true]
  | k + 1, i, 0, _, _, h => absurd h (Nat.not_lt_zero _)
  | k + 1, i, fu + 1, b, hi, h => by
    have ih := fun b => fits_r (f := f) (q := q) (co := co) (sfl := sfl) (sco := sco) (m := m) hn hc hco hs hw k (i + 1) fu b (by omega) (by omega)
    obtain ⟨w, hw1, hw2⟩ := hw i (by omega)
    obtain ⟨g1, g2, g3⟩ := hs i (by omega)
    have h3 := two5 hn
    have ec : fX10_coloursOf (0 : Int32) (nI w) (nI n) m = some (colS n co w) := by
      have := coloursR_spec (lev := 0) hn (by omega) m hw1
      rw [nI_0] at this
      rw [this]
      congr 1
      exact colS_cong (fun j hj => by rw [Nat.mul_zero, Nat.zero_add]; exact hco j hj)
    show gX10_mayHave_5 _ _ _ _ _ _ _ _ _ _ _ = some (b && (fitB n f q co sfl sco swt i && allF (fitB n f q co sfl sco swt) (i + 1) k))
    generalize allF (fitB n f q co sfl sco swt) (i + 1) k = A at ih ⊢
    unfold gX10_mayHave_5 fX10_mayHave_45 fX10_mayHave_46 fX10_mayHave_85 fX10_mayHave_81 fX10_mayHave_86 fitB
    rw [hw2, cl_s (show w < 2147483648 by omega)]
    simp (disch := omega) only [leS, show ¬ c ≤ i by omega, inb_t, cl_s, reduceIte, g1, g2, g3, hw2, obind, ec, i_1, shl_n, nI_add, ih, Bool.false_eq_true]
    by_cases q1 : sfl i = nI f
    · by_cases q2 : w < 2 ^ n
      · simp only [q1, q2, show ¬ 2 ^ n ≤ w by omega, decide_true, reduceIte, Bool.and_self, Bool.not_true, Bool.false_or]
        by_cases q3 : colS n co w ||| nI q = sco i
        · cases b <;> simp [q3]
        · cases b <;> simp [q3]
      · simp only [q1, q2, show 2 ^ n ≤ w by omega, decide_true, decide_false, reduceIte, Bool.and_false, Bool.not_false, Bool.true_or, Bool.true_and, Bool.false_eq_true]
        cases b <;> simp
    · simp only [q1, decide_false, reduceIte, Bool.false_and, Bool.not_false, Bool.true_or, Bool.true_and]
      cases b <;> simp
def hC (G : Nat → Bool) (i : Nat) (s : Int32) : Int32 := if G i then s + 1 else s
def hA (G : Nat → Bool) (i : Nat) (s : Int32) : Int32 := if G i then (if s = -9 then nI i else s &&& nI i) else s
def hO (G : Nat → Bool) (i : Nat) (s : Int32) : Int32 := if G i then ((if s = -9 then 15 else s) &&& (nI i ^^^ (-1 : Int32))) else s
def hR (G : Nat → Bool) (i : Nat) (s : Int32 × Int32 × Int32) : Int32 × Int32 × Int32 := if G i then (s.1 + 1, s.2.1 &&& nI i, s.2.2 ||| nI i) else s
def hE (x2 : Int32) (s : Int32 × Int32 × Int32) : Int32 := if x2 = 0 then s.1 else if s.1 = 0 then -9 else if x2 = 1 then s.2.1 else (15 : Int32) &&& (s.2.2 ^^^ (-1 : Int32))
theorem lt15 {i : Nat} (h : i < 2147483648) : ((15 : Int32) < nI i) = (15 < i) := ltS (a := 15) (by decide) h
theorem had_0 (G : Nat → Bool) : foldN (hC G) 0 16 0 = hE 0 (foldN (hR G) 0 16 (0, 15, 0)) := by
  have := foldN_rel (f := hC G) (g := hR G) (fun _ s t => s = t.1) 16 0 0 (0, 15, 0) rfl (fun j s t _ _ h => by
    unfold hC hR
    cases G j
    · exact h
    · show s + 1 = t.1 + 1; rw [h])
  exact this
theorem had_1 (G : Nat → Bool) : foldN (hA G) 0 16 (-9) = hE 1 (foldN (hR G) 0 16 (0, 15, 0)) := by
  have := foldN_rel (f := hA G) (g := hR G) (fun j s t => (t.1 = nI 0 ∧ s = -9 ∧ t.2.1 = nI 15) ∨ ∃ c a, 1 ≤ c ∧ c ≤ j ∧ a < 16 ∧ t.1 = nI c ∧ s = nI a ∧ t.2.1 = nI a) 16 0 (-9) (0, 15, 0) (Or.inl ⟨rfl, rfl, rfl⟩) (fun j s t _ hj h => by
    unfold hA hR
    cases G j
    · rcases h with h | ⟨c, a, h1, h2, h3⟩
      · exact Or.inl h
      · exact Or.inr ⟨c, a, h1, by omega, h3⟩
    · have hj' : 15 &&& j = j := by
        have : ∀ j, j < 16 → 15 &&& j = j := by decide
        exact this j (by omega)
      rcases h with ⟨h1, h2, h3⟩ | ⟨c, a, h1, h2, h3, h4, h5, h6⟩
      · refine Or.inr ⟨1, j, by omega, by omega, by omega, ?_, ?_, ?_⟩
        · show t.1 + 1 = nI 1; rw [h1]; rfl
        · rw [if_pos rfl, if_pos h2]
        · show t.2.1 &&& nI j = nI j; rw [h3, and_s, hj']
      · refine Or.inr ⟨c + 1, a &&& j, by omega, by omega, Nat.lt_of_le_of_lt Nat.and_le_left h3, ?_, ?_, ?_⟩
        · show t.1 + 1 = nI (c + 1); rw [h4, i_1, nI_add]
        · rw [if_pos rfl, if_neg (by rw [h5]; exact nI_m9 (by omega)), h5, and_s]
        · show t.2.1 &&& nI j = nI (a &&& j); rw [h6, and_s])
  unfold hE
  rw [if_neg (by decide)]
  rcases this with ⟨h1, h2, h3⟩ | ⟨c, a, h1, h2, h3, h4, h5, h6⟩
  · rw [h2, if_pos (by rw [h1]; rfl)]
  · rw [h5, if_neg (by rw [h4, show (0 : Int32) = nI 0 from rfl, eqS (by omega) (by omega)]; omega), if_pos rfl, h6]
theorem had_2 (G : Nat → Bool) : foldN (hO G) 0 16 (-9) = hE 2 (foldN (hR G) 0 16 (0, 15, 0)) := by
  have := foldN_rel (f := hO G) (g := hR G) (fun j s t => (t.1 = nI 0 ∧ s = -9 ∧ t.2.2 = nI 0) ∨ ∃ c a, 1 ≤ c ∧ c ≤ j ∧ a < 16 ∧ t.1 = nI c ∧ s = nI (15 &&& (31 ^^^ a)) ∧ t.2.2 = nI a) 16 0 (-9) (0, 15, 0) (Or.inl ⟨rfl, rfl, rfl⟩) (fun j s t _ hj h => by
    unfold hO hR
    cases G j
    · rcases h with h | ⟨c, a, h1, h2, h3⟩
      · exact Or.inl h
      · exact Or.inr ⟨c, a, h1, by omega, h3⟩
    · rcases h with ⟨h1, h2, h3⟩ | ⟨c, a, h1, h2, h3, h4, h5, h6⟩
      · refine Or.inr ⟨1, j, by omega, by omega, by omega, ?_, ?_, ?_⟩
        · show t.1 + 1 = nI 1; rw [h1]; rfl
        · rw [if_pos rfl, if_pos h2]; exact without 15 (by omega) j (by omega)
        · show t.2.2 ||| nI j = nI j; rw [h3, or_s, Nat.zero_or]
      · have k1 : ∀ a, a < 16 → ∀ j, j < 16 → (15 &&& (31 ^^^ a)) &&& (31 ^^^ j) = 15 &&& (31 ^^^ (a ||| j)) ∧ a ||| j < 16 ∧ (15 &&& (31 ^^^ a)) < 32 := by decide +kernel
        obtain ⟨k2, k3, k4⟩ := k1 a h3 j (by omega)
        refine Or.inr ⟨c + 1, a ||| j, by omega, by omega, k3, ?_, ?_, ?_⟩
        · show t.1 + 1 = nI (c + 1); rw [h4, i_1, nI_add]
        · rw [if_pos rfl, if_neg (by rw [h5]; exact nI_m9 k4), h5, without _ k4 j (by omega), k2]
        · show t.2.2 ||| nI j = nI (a ||| j); rw [h6, or_s])
  unfold hE
  rw [if_neg (by decide)]
  rcases this with ⟨h1, h2, h3⟩ | ⟨c, a, h1, h2, h3, h4, h5, h6⟩
  · rw [h2, if_pos (by rw [h1]; rfl)]
  · rw [h5, if_neg (by rw [h4, show (0 : Int32) = nI 0 from rfl, eqS (by omega) (by omega)]; omega), if_neg (by decide), h6]
    exact (without 15 (by omega) a (by omega)).symm
/-- HAD -/
theorem sim_had {n : Nat} (hn : n ≤ 5) {m wh lf co : Nat → Int32} {wi ho : Int32} (hRV : RVo n 0 m wh lf co wi ho m) {ssz msn : Int32} {sfl sco swt mso msc msw : Nat → Int32} (h : SEEN ssz msn sfl sco swt mso msc msw) (x1 x2 : Int32) : ∃ r, fX9_had x1 x2 (nI n) co sfl sco swt ssz = some r ∧ fX10_had x1 x2 (nI n) m msn mso msc msw = some r := by
  obtain ⟨c, hc, rfl, rfl, hk⟩ := h
  have hw : ∀ k, k < c → ∃ w, w < 32 ∧ swt k = nI w := fun k h => by
    obtain ⟨-, -, -, f, q, w, h1, h2, h3, h4, h5, h6, h7⟩ := hk k h
    exact ⟨w, h3, h7⟩
  have hs : ∀ k, k < c → mso k = sfl k ∧ msc k = sco k ∧ msw k = swt k := fun k h => ⟨(hk k h).1, (hk k h).2.1, (hk k h).2.2.1⟩
  have hco : ∀ j, j < n → m j = co j := fun j hj => by have := (hRV.1 j hj).1; simpa using this
  unfold fX9_had fX10_had
  simp only [has_spec hn, isFlag_spec hn, obind, inS x2 0 2 0 2 rfl rfl]
  rcases flag_cases n hn x1 with ⟨f, hf, rfl⟩ | h1
  · simp only [hasB_nI hf hn, reduceIte]
    have C : ∀ q, fX7_fitsAll (nI f) (nI q) sfl sco swt (nI c) co (nI n) = some (allF (fitB n f q co sfl sco swt) 0 c) := fun q => fits_c hn hc hw c 0 FU (by omega) (by unfold FU; omega)
    have R : ∀ q, fX10_mayHave (nI f) (nI q) (nI n) m (nI c) mso msc msw = some (allF (fitB n f q co sfl sco swt) 0 c) := fun q => (fits_r hn hc hco hs hw c 0 FU true (by omega) (by unfold FU; omega)).trans (by rw [Bool.true_and])
    generalize hG : (fun q => allF (fitB n f q co sfl sco swt) 0 c) = G at *
    have C' : ∀ q, fX7_fitsAll (nI f) (nI q) sfl sco swt (nI c) co (nI n) = some (G q) := fun q => by rw [C q, ← hG]
    have R' : ∀ q, fX10_mayHave (nI f) (nI q) (nI n) m (nI c) mso msc msw = some (G q) := fun q => by rw [R q, ← hG]
    have l0 : fX7_howManySets (nI f) sfl sco swt (nI c) co (nI n) = some (foldN (hC G) 0 16 0) := loop_fold (fun fu s x => fX7_howManySets_5 (nI f) sfl sco swt (nI c) co (nI n) fu s x) (hC G) some 16 (fun fu s => by
      simp (disch := omega) only [fX7_howManySets_5, gX7_howManySets_5, lt15, show 15 < 16 by omega, reduceIte]) (fun fu s i hi => by
      simp (disch := omega) only [fX7_howManySets_5, gX7_howManySets_5, fX7_howManySets_26, lt15, show ¬ 15 < i by omega, reduceIte, C', obind, hC]
      cases G i <;> simp only [reduceIte, Bool.false_eq_true, i_1, nI_add]) 16 0 0 FU (by omega) (by unfold FU; omega)
    have l1 : fX7_coloursInAll (nI f) sfl sco swt (nI c) co (nI n) = some (foldN (hA G) 0 16 (-9)) := loop_fold (fun fu s x => fX7_coloursInAll_6 (nI f) sfl sco swt (nI c) co (nI n) fu s x) (hA G) some 16 (fun fu s => by
      simp (disch := omega) only [fX7_coloursInAll_6, gX7_coloursInAll_6, lt15, show 15 < 16 by omega, reduceIte]) (fun fu s i hi => by
      simp (disch := omega) only [fX7_coloursInAll_6, gX7_coloursInAll_6, fX7_coloursInAll_39, fX7_coloursInAll_40, lt15, show ¬ 15 < i by omega, reduceIte, C', obind, hA]
      cases G i
      · simp only [reduceIte, Bool.false_eq_true, i_1, nI_add]
      · simp only [reduceIte, i_1, nI_add]
        by_cases q : s = -9 <;> simp only [q, reduceIte]) 16 0 (-9) FU (by omega) (by unfold FU; omega)
    have l2 : fX7_coloursInNone (nI f) sfl sco swt (nI c) co (nI n) = some (foldN (hO G) 0 16 (-9)) := loop_fold (fun fu s x => fX7_coloursInNone_6 (nI f) sfl sco swt (nI c) co (nI n) fu s x) (hO G) some 16 (fun fu s => by
      simp (disch := omega) only [fX7_coloursInNone_6, gX7_coloursInNone_6, lt15, show 15 < 16 by omega, reduceIte]) (fun fu s i hi => by
      simp (disch := omega) only [fX7_coloursInNone_6, gX7_coloursInNone_6, fX7_coloursInNone_36, fX7_coloursInNone_42, lt15, show ¬ 15 < i by omega, reduceIte, C', obind, hO]
      cases G i
      · simp only [reduceIte, Bool.false_eq_true, i_1, nI_add]
      · simp only [reduceIte, i_1, nI_add]
        by_cases q : s = -9 <;> simp only [q, reduceIte]) 16 0 (-9) FU (by omega) (by unfold FU; omega)
    have lr : fX10_had_37 (nI f) x2 (nI n) m (nI c) mso msc msw FU 0 15 0 0 = some (hE x2 (foldN (hR G) 0 16 (0, 15, 0))) := loop_fold (fun fu (s : Int32 × Int32 × Int32) x => fX10_had_37 (nI f) x2 (nI n) m (nI c) mso msc msw fu s.1 s.2.1 s.2.2 x) (hR G) (fun s => some (hE x2 s)) 16 (fun fu s => by
      simp (disch := omega) only [fX10_had_37, gX10_had_37, i_16, leS, show 16 ≤ 16 by omega, reduceIte, hE]
      by_cases q0 : x2 = 0
      · simp only [q0, reduceIte]
      · by_cases q1 : s.1 = 0
        · simp only [q0, q1, reduceIte]
        · by_cases q2 : x2 = 1
          · simp only [q1, q2, reduceIte, show ¬ (1 : Int32) = 0 by decide]
          · simp only [q0, q1, q2, reduceIte]) (fun fu s i hi => by
      simp (disch := omega) only [fX10_had_37, gX10_had_37, fX10_had_71, i_16, leS, show ¬ 16 ≤ i by omega, reduceIte, R', obind, hR]
      cases G i <;> simp only [reduceIte, Bool.false_eq_true, i_1, nI_add]) 16 0 (0, 15, 0) FU (by omega) (by unfold FU; omega)
    simp only [l0, l1, l2, lr, obind, had_0, had_1, had_2]
    rcases rng_cases x2 2 (by omega) with ⟨k, hk, rfl⟩ | h3
    · have e5 := nI_toInt (n := k) (by omega)
      have e6 : decide (0 ≤ (nI k).toInt ∧ (nI k).toInt ≤ 2) = true := decide_eq_true (by omega)
      simp only [e6, reduceIte]
      rcases (show k = 0 ∨ k = 1 ∨ k = 2 by omega) with rfl | rfl | rfl
      · exact ⟨_, if_pos (show nI 0 = 0 by decide), rfl⟩
      · exact ⟨_, (if_neg (show ¬ nI 1 = 0 by decide)).trans (if_pos (show nI 1 = 1 by decide)), rfl⟩
      · exact ⟨_, (if_neg (show ¬ nI 2 = 0 by decide)).trans ((if_neg (show ¬ nI 2 = 1 by decide)).trans (if_pos (show nI 2 = 2 by decide))), rfl⟩
    · have e6 : decide (0 ≤ x2.toInt ∧ x2.toInt ≤ 2) = false := decide_eq_false h3
      have n0 : ¬ x2 = 0 := fun q => h3 (by rw [q]; decide)
      have n1 : ¬ x2 = 1 := fun q => h3 (by rw [q]; decide)
      have n2 : ¬ x2 = 2 := fun q => h3 (by rw [q]; decide)
      simp only [e6, n0, n1, n2, Bool.false_eq_true, reduceIte]
      exact ⟨_, rfl, rfl⟩
  · simp only [h1, Bool.false_eq_true, reduceIte]; exact ⟨_, rfl, rfl⟩
