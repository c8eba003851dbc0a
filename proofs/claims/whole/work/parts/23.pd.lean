/-! ===== PURE LAYER: an hour, the class's side ===== -/
def mapN (i : Nat) (g f : Nat → Int32) : Nat → Int32 := fun j => if j < i then g j else f j
theorem mapN_at {i : Nat} {g f : Nat → Int32} : mapN i g f i = f i := if_neg (Nat.lt_irrefl i)
theorem mapN_lt {i j : Nat} {g f : Nat → Int32} (h : j < i) : mapN i g f j = g j := if_pos h
theorem mapN_0 {g f : Nat → Int32} : mapN 0 g f = f := by
  funext j; exact if_neg (Nat.not_lt_zero j)
theorem mapN_upd {i : Nat} {g f : Nat → Int32} {v : Int32} (h : g i = v) : upd (mapN i g f) i v = mapN (i + 1) g f := by
  funext j
  by_cases hj : j = i
  · subst hj
    rw [pk_us, mapN_lt (Nat.lt_succ_self j), h]
  · rw [pk_un hj]
    unfold mapN
    by_cases h2 : j < i
    · rw [if_pos h2, if_pos (by omega)]
    · rw [if_neg h2, if_neg (by omega)]
theorem mapN_same {i : Nat} {g f : Nat → Int32} (h : g i = f i) : mapN i g f = mapN (i + 1) g f := by
  funext j
  unfold mapN
  by_cases hj : j = i
  · subst hj
    rw [if_neg (Nat.lt_irrefl _), if_pos (Nat.lt_succ_self _), h]
  · by_cases h2 : j < i
    · rw [if_pos h2, if_pos (by omega)]
    · rw [if_neg h2, if_neg (by omega)]
theorem upd_upd {f : Nat → Int32} {i : Nat} {a b : Int32} : upd (upd f i a) i b = upd f i b := by
  funext j
  by_cases hj : j = i
  · subst hj; rw [pk_us, pk_us]
  · rw [pk_un hj, pk_un hj, pk_un hj]
/-- behind the drying: where, how wet; who came -/
def dW (wi : Int32) (wh lf : Nat → Int32) (j : Nat) : Int32 := if wh j = 2 then (if 0 < lf j - (1 + wi) then 2 else 0) else wh j
def dL (wi : Int32) (wh lf : Nat → Int32) (j : Nat) : Int32 := if wh j = 2 then (if 0 < lf j - (1 + wi) then lf j - (1 + wi) else 0) else lf j
def dP (wi : Int32) (wh lf : Nat → Int32) (j : Nat) : Bool := decide (wh j = 2 ∧ ¬ 0 < lf j - (1 + wi))
theorem home_spec {n i : Nat} (hn : n ≤ 5) (hi : i < n) (wh lf : Nat → Int32) : fX8_bringHome (nI i) wh lf (nI n) = some (upd wh i 0, upd lf i 0) := by
  unfold fX8_bringHome
  rw [has_spec hn, obind, hasB_nI hi hn]
  simp (disch := omega) only [inb_t, cl_s, reduceIte]
theorem or_bits (f : Nat → Bool) (i : Nat) : nI (bitsN f i) ||| nI (2 ^ i) = nI (bitsN f i + 2 ^ i) := by rw [or_s, or_pow (bitsN_lt f i)]
theorem dry_spec {n : Nat} (hn : n ≤ 5) (wh lf : Nat → Int32) (wi : Int32) : fX8_dryOnLine wh lf wi (nI n) = some (nI (bitsN (dP wi wh lf) n), mapN n (dW wi wh lf) wh, mapN n (dL wi wh lf) lf) := by
  have key := loop_seq (fun fu (s : Int32 × (Nat → Int32) × (Nat → Int32)) x => fX8_dryOnLine_4 wi (nI n) fu s.1 x s.2.1 s.2.2) (fun i => (nI (bitsN (dP wi wh lf) i), mapN i (dW wi wh lf) wh, mapN i (dL wi wh lf) lf)) n (some (nI (bitsN (dP wi wh lf) n), mapN n (dW wi wh lf) wh, mapN n (dL wi wh lf) lf)) (fun fu => by
    simp (disch := omega) only [fX8_dryOnLine_4, gX8_dryOnLine_4, leS, Nat.le_refl, reduceIte]) (fun fu i hi => by
    by_cases h2 : wh i = 2
    · by_cases h0 : 0 < lf i - (1 + wi)
      · have e1 : bitsN (dP wi wh lf) (i + 1) = bitsN (dP wi wh lf) i := by rw [bitsN_succ]; simp [dP, h0]
        have e2 : mapN (i + 1) (dW wi wh lf) wh = mapN i (dW wi wh lf) wh := (mapN_same (by simp only [dW, h2, h0, reduceIte])).symm
        have e3 : upd (mapN i (dL wi wh lf) lf) i (lf i - (1 + wi)) = mapN (i + 1) (dL wi wh lf) lf := mapN_upd (by simp only [dL, h2, h0, reduceIte])
        simp (disch := omega) only [fX8_dryOnLine_4, gX8_dryOnLine_4, fX8_dryOnLine_60, leS, cl_s, inb_t, mapN_at, h2, pk_us, h0, reduceIte, show ¬ n ≤ i by omega, e1, e2, e3, nI_1]
      · have e1 : bitsN (dP wi wh lf) (i + 1) = bitsN (dP wi wh lf) i + 2 ^ i := by rw [bitsN_succ]; simp [dP, h0, h2]
        have e2 : upd (mapN i (dW wi wh lf) wh) i 0 = mapN (i + 1) (dW wi wh lf) wh := mapN_upd (by simp only [dW, h2, h0, reduceIte])
        have e3 : upd (mapN i (dL wi wh lf) lf) i 0 = mapN (i + 1) (dL wi wh lf) lf := mapN_upd (by simp only [dL, h2, h0, reduceIte])
        simp (disch := omega) only [fX8_dryOnLine_4, gX8_dryOnLine_4, fX8_dryOnLine_60, leS, cl_s, inb_t, mapN_at, h2, pk_us, h0, reduceIte, show ¬ n ≤ i by omega, home_spec hn hi, obind, upd_upd, e1, e2, e3, nI_1, shl_1, or_bits]
    · have e1 : bitsN (dP wi wh lf) (i + 1) = bitsN (dP wi wh lf) i := by rw [bitsN_succ]; simp [dP, h2]
      have e2 : mapN (i + 1) (dW wi wh lf) wh = mapN i (dW wi wh lf) wh := (mapN_same (by simp only [dW, h2, reduceIte])).symm
      have e3 : mapN (i + 1) (dL wi wh lf) lf = mapN i (dL wi wh lf) lf := (mapN_same (by simp only [dL, h2, reduceIte])).symm
      simp (disch := omega) only [fX8_dryOnLine_4, gX8_dryOnLine_4, fX8_dryOnLine_60, leS, cl_s, inb_t, mapN_at, h2, reduceIte, show ¬ n ≤ i by omega, e1, e2, e3, nI_1]) n 0 FU (by omega) (by unfold FU; omega)
  simp only [mapN_0] at key
  exact key
/-- behind the running of dyes -/
def dye (n : Nat) (wh pcl co : Nat → Int32) : Int32 := orN (fun i => if wh i = 1 ∧ pcl i = 3 then co i else 0) n
def rC (d : Int32) (wh co : Nat → Int32) (j : Nat) : Int32 := if wh j = 1 then co j ||| d else co j
theorem run_spec {n : Nat} (hn : n ≤ 5) (wh co pcl : Nat → Int32) : fX8_runInTubs wh co (nI n) pcl = some (mapN n (rC (dye n wh pcl co) wh co) co) := by
  have k2 : fX8_runInTubs_55 (dye n wh pcl co) wh (nI n) FU (nI 0) co = some (mapN n (rC (dye n wh pcl co) wh co) co) := by
    have key := loop_seq (fun fu (s : Nat → Int32) x => fX8_runInTubs_55 (dye n wh pcl co) wh (nI n) fu x s) (fun i => mapN i (rC (dye n wh pcl co) wh co) co) n (some (mapN n (rC (dye n wh pcl co) wh co) co)) (fun fu => by
      simp (disch := omega) only [fX8_runInTubs_55, gX8_runInTubs_55, leS, Nat.le_refl, reduceIte]) (fun fu i hi => by
      by_cases h1 : wh i = 1
      · have e3 : upd (mapN i (rC (dye n wh pcl co) wh co) co) i (co i ||| dye n wh pcl co) = mapN (i + 1) (rC (dye n wh pcl co) wh co) co := mapN_upd (by simp only [rC, h1, reduceIte])
        simp (disch := omega) only [fX8_runInTubs_55, gX8_runInTubs_55, fX8_runInTubs_86, leS, cl_s, inb_t, mapN_at, h1, reduceIte, show ¬ n ≤ i by omega, e3, nI_1]
      · have e3 : mapN (i + 1) (rC (dye n wh pcl co) wh co) co = mapN i (rC (dye n wh pcl co) wh co) co := (mapN_same (by simp only [rC, h1, reduceIte])).symm
        simp (disch := omega) only [fX8_runInTubs_55, gX8_runInTubs_55, fX8_runInTubs_86, leS, cl_s, inb_t, h1, reduceIte, show ¬ n ≤ i by omega, e3, nI_1]) n 0 FU (by omega) (by unfold FU; omega)
    simp only [mapN_0] at key
    exact key
  have key := loop_seq (fun fu (s : Int32) x => fX8_runInTubs_4 wh co (nI n) pcl fu s x) (fun i => orN (fun i => if wh i = 1 ∧ pcl i = 3 then co i else 0) i) n (some (mapN n (rC (dye n wh pcl co) wh co) co)) (fun fu => by
    simp (disch := omega) only [fX8_runInTubs_4, gX8_runInTubs_4, leS, Nat.le_refl, reduceIte]
    exact k2) (fun fu i hi => by
    by_cases h1 : wh i = 1
    · by_cases h3 : pcl i = 3
      · simp (disch := omega) only [fX8_runInTubs_4, gX8_runInTubs_4, fX8_runInTubs_47, leS, cl_s, inb_t, h1, h3, reduceIte, show ¬ n ≤ i by omega, orN_succ, nI_1, and_self]
      · simp (disch := omega) only [fX8_runInTubs_4, gX8_runInTubs_4, fX8_runInTubs_47, leS, cl_s, inb_t, h1, h3, reduceIte, show ¬ n ≤ i by omega, orN_succ, nI_1, and_false, Int32.or_zero]
    · simp (disch := omega) only [fX8_runInTubs_4, gX8_runInTubs_4, fX8_runInTubs_47, leS, cl_s, inb_t, h1, reduceIte, show ¬ n ≤ i by omega, orN_succ, nI_1, false_and, Int32.or_zero]) n 0 FU (by omega) (by unfold FU; omega)
  exact key
/-- behind the washing -/
def wL (wh lf : Nat → Int32) (j : Nat) : Int32 := if wh j = 1 then (if lf j ≤ 0 then lf j else lf j - 1) else lf j
theorem wash_spec {n : Nat} (hn : n ≤ 5) (wh lf : Nat → Int32) : fX8_washInTubs wh lf (nI n) = some (mapN n (wL wh lf) lf) := by
  have key := loop_seq (fun fu (s : Nat → Int32) x => fX8_washInTubs_2 wh (nI n) fu x s) (fun i => mapN i (wL wh lf) lf) n (some (mapN n (wL wh lf) lf)) (fun fu => by
    simp (disch := omega) only [fX8_washInTubs_2, gX8_washInTubs_2, leS, Nat.le_refl, reduceIte]) (fun fu i hi => by
    by_cases h1 : wh i = 1
    · by_cases h0 : lf i ≤ 0
      · have e3 : mapN (i + 1) (wL wh lf) lf = mapN i (wL wh lf) lf := (mapN_same (by simp only [wL, h1, h0, reduceIte])).symm
        simp (disch := omega) only [fX8_washInTubs_2, gX8_washInTubs_2, fX8_washInTubs_42, leS, cl_s, inb_t, mapN_at, h1, h0, reduceIte, show ¬ n ≤ i by omega, e3, nI_1]
      · have e3 : upd (mapN i (wL wh lf) lf) i (lf i - 1) = mapN (i + 1) (wL wh lf) lf := mapN_upd (by simp only [wL, h1, h0, reduceIte])
        simp (disch := omega) only [fX8_washInTubs_2, gX8_washInTubs_2, fX8_washInTubs_42, leS, cl_s, inb_t, mapN_at, h1, h0, reduceIte, show ¬ n ≤ i by omega, e3, nI_1]
    · have e3 : mapN (i + 1) (wL wh lf) lf = mapN i (wL wh lf) lf := (mapN_same (by simp only [wL, h1, reduceIte])).symm
      simp (disch := omega) only [fX8_washInTubs_2, gX8_washInTubs_2, fX8_washInTubs_42, leS, cl_s, inb_t, h1, reduceIte, show ¬ n ≤ i by omega, e3, nI_1]) n 0 FU (by omega) (by unfold FU; omega)
  simp only [mapN_0] at key
  exact key
/-- hanging up, flag by flag -/
def wetC (c : Int32) : Int32 := if c = 1 then 6 else if c = 2 then 2 else 4
def hStep (n : Nat) (pegs : Int32) (pcl : Nat → Int32) (i : Nat) (s : (Nat → Int32) × (Nat → Int32)) : (Nat → Int32) × (Nat → Int32) := if s.1 i = 1 ∧ s.2 i = 0 ∧ ¬ pegs - nI (popN (bitsN (fun j => decide (s.1 j = 2)) n)) ≤ 0 then (upd s.1 i 2, upd s.2 i (wetC (pcl i))) else s
def hSeq (n : Nat) (pegs : Int32) (pcl : Nat → Int32) (s : (Nat → Int32) × (Nat → Int32)) : Nat → (Nat → Int32) × (Nat → Int32)
  | 0 => s
  | i + 1 => hStep n pegs pcl i (hSeq n pegs pcl s i)
theorem wet_spec {c : Nat} (h : c < 4) : fX8_wetOf (nI c) = some (wetC (nI c)) := by
  have : ∀ c, c < 4 → fX8_wetOf (nI c) = some (wetC (nI c)) := by decide +kernel
  exact this c h
theorem hang_spec {n : Nat} (hn : n ≤ 5) (wh lf pcl : Nat → Int32) (pegs : Int32) (hc : ∀ i, i < n → ∃ c, c < 4 ∧ pcl i = nI c) : fX8_hangUp wh lf pegs (nI n) pcl = some (hSeq n pegs pcl (wh, lf) n) := by
  have key := loop_seq (fun fu (s : (Nat → Int32) × (Nat → Int32)) x => fX8_hangUp_2 pegs (nI n) pcl fu x s.1 s.2) (fun i => hSeq n pegs pcl (wh, lf) i) n (some (hSeq n pegs pcl (wh, lf) n)) (fun fu => by
    simp (disch := omega) only [fX8_hangUp_2, gX8_hangUp_2, leS, Nat.le_refl, reduceIte]) (fun fu i hi => by
    obtain ⟨c, hc1, hc2⟩ := hc i hi
    have hw : fX8_wetOf (pcl i) = some (wetC (pcl i)) := by rw [hc2]; exact wet_spec hc1
    show fX8_hangUp_2 pegs (nI n) pcl (fu + 1) (nI i) (hSeq n pegs pcl (wh, lf) i).1 (hSeq n pegs pcl (wh, lf) i).2 = fX8_hangUp_2 pegs (nI n) pcl fu (nI (i + 1)) (hStep n pegs pcl i (hSeq n pegs pcl (wh, lf) i)).1 (hStep n pegs pcl i (hSeq n pegs pcl (wh, lf) i)).2
    generalize hSeq n pegs pcl (wh, lf) i = s
    unfold hStep
    by_cases h1 : s.1 i = 1
    · by_cases h0 : s.2 i = 0
      · by_cases hp : pegs - nI (popN (bitsN (fun j => decide (s.1 j = 2)) n)) ≤ 0
        · simp (disch := omega) only [fX8_hangUp_2, gX8_hangUp_2, fX8_hangUp_64, leS, cl_s, inb_t, h1, h0, freePegs_spec hn, obind, hp, reduceIte, show ¬ n ≤ i by omega, nI_1, not_true_eq_false, and_false]
        · simp (disch := omega) only [fX8_hangUp_2, gX8_hangUp_2, fX8_hangUp_64, leS, cl_s, inb_t, h1, h0, freePegs_spec hn, obind, hp, reduceIte, show ¬ n ≤ i by omega, nI_1, not_false_eq_true, and_self, hw]
      · simp (disch := omega) only [fX8_hangUp_2, gX8_hangUp_2, fX8_hangUp_64, leS, cl_s, inb_t, h1, h0, reduceIte, show ¬ n ≤ i by omega, nI_1, false_and, and_false]
    · simp (disch := omega) only [fX8_hangUp_2, gX8_hangUp_2, fX8_hangUp_64, leS, cl_s, inb_t, h1, reduceIte, show ¬ n ≤ i by omega, nI_1, false_and]) n 0 FU (by omega) (by unfold FU; omega)
  exact key
