/-! ===== PURE LAYER: the best of sets: cover, ran ===== -/
def bI : Option Nat → Int32
  | none => -9
  | some b => nI b
def fewer (s : Nat) : Option Nat → Bool
  | none => true
  | some b => decide (popN s < popN b)
def bestN (G : Nat → Bool) : Nat → Option Nat
  | 0 => none
  | s + 1 => if G s && fewer s (bestN G s) then some s else bestN G s
theorem bestN_succ (G : Nat → Bool) (s : Nat) : bestN G (s + 1) = if G s && fewer s (bestN G s) then some s else bestN G s := rfl
theorem bestN_lt (G : Nat → Bool) : ∀ s b, bestN G s = some b → b < s
  | 0, _, h => by cases h
  | s + 1, b, h => by
    rw [bestN_succ] at h
    split at h
    · cases h; omega
    · have := bestN_lt G s b h; omega
theorem bestN_cong {G H : Nat → Bool} : ∀ {s : Nat}, (∀ i, i < s → G i = H i) → bestN G s = bestN H s
  | 0, _ => rfl
  | s + 1, h => by rw [bestN_succ, bestN_succ, bestN_cong (fun i hi => h i (by omega)), h s (by omega)]
theorem bestN_cut {G : Nat → Bool} {n m : Nat} (hm : n ≤ m) (h : ∀ i, n ≤ i → i < m → G i = false) : bestN G m = bestN G n := by
  induction m with
  | zero => rw [show n = 0 by omega]
  | succ k ih =>
    by_cases e : n = k + 1
    · rw [e]
    · rw [bestN_succ, h k (by omega) (by omega), Bool.false_and, if_neg (by decide), ih (by omega) (fun i h1 h2 => h i h1 (by omega))]
theorem within_c : ∀ a, a < 32 → ∀ b, b < 32 → fX9_isWithin (nI a) (nI b) = some (decide (a &&& b = a)) := by decide +kernel
theorem within_r : ∀ a, a < 32 → ∀ b, b < 32 → decide ((nI a &&& (nI b ^^^ (-1 : Int32))) = 0) = decide (a &&& b = a) := by decide +kernel
theorem without : ∀ a, a < 32 → ∀ b, b < 32 → nI a &&& (nI b ^^^ (-1 : Int32)) = nI (a &&& (31 ^^^ b)) := by decide +kernel
theorem within_r' {a b : Nat} (ha : a < 32) (hb : b < 32) : ((nI a &&& (nI b ^^^ (-1 : Int32))) = 0) = (a &&& b = a) := by
  have := within_r a ha b hb
  simpa using this
theorem nI_m9 {b : Nat} (h : b < 32) : ¬ nI b = -9 := by
  have : ∀ b, b < 32 → ¬ nI b = -9 := by decide +kernel
  exact this b h
theorem fewer_spec {s : Nat} (hs : s < 32) {o : Option Nat} (ho : ∀ b, o = some b → b < 32) : fX9_isFewer (nI s) (bI o) = some (fewer s o) := by
  unfold fX9_isFewer fX9_isFewer_17
  cases o with
  | none => rfl
  | some b =>
    have hb := ho b rfl
    have h1 := popN_le s; have h2 := popN_le b
    rw [show bI (some b) = nI b from rfl, if_neg (nI_m9 hb), cnt_c s hs, obind, cnt_c b hb, obind]
    simp (disch := omega) only [leS]
    unfold fewer
    by_cases q : popN b ≤ popN s
    · rw [if_pos q]; congr 1; symm; simp; omega
    · rw [if_neg q]; congr 1; symm; simp; omega
/-- COVER -/
theorem sim_cover {n : Nat} {hm : Nat → Nat} {pcl phr pho mcl mws mho : Nat → Int32} (P : PL n hm pcl phr pho mcl mws mho) {m wh lf co : Nat → Int32} {wi ho : Int32} (hR : RVo n 0 m wh lf co wi ho m) : ∃ r, fX9_cover (nI n) pho wh = some r ∧ fX10_cover (nI n) mho m = some r := by
  obtain ⟨hn, hc, hcl, hws, hh, hho⟩ := P
  have e : bitsN (fun j => decide (m (17 * 0 + 5 + j) = 0)) n = bitsN (fun j => decide (wh j = 0)) n := bitsN_cong (fun j hj => by rw [(hR.1 j hj).2.1])
  have hH := bits32 (fun j => decide (wh j = 0)) hn
  generalize hHe : bitsN (fun j => decide (wh j = 0)) n = H at e hH
  refine ⟨bI (bestN (fun s => decide (s &&& H = s) && decide (pairsN n hm (H &&& (31 ^^^ s)) = 0)) 32), ?_, ?_⟩
  · unfold fX9_cover
    rw [homeBits_spec hn, obind, hHe]
    refine loop_seq (fun fu (s : Int32) x => fX9_cover_13 (nI H) (nI n) pho fu s x) (fun i => bI (bestN (fun s => decide (s &&& H = s) && decide (pairsN n hm (H &&& (31 ^^^ s)) = 0)) i)) 32 _ (fun fu => ?_) (fun fu i hi => ?_) 32 0 FU (by omega) (by unfold FU; omega)
    · simp (disch := omega) only [fX9_cover_13, gX9_cover_13, i_31, ltS, show 31 < 32 by omega, reduceIte]
    · have hx : H &&& (31 ^^^ i) < 32 := Nat.lt_of_le_of_lt Nat.and_le_left hH
      have hple := pairsN_le hn hm (H &&& (31 ^^^ i))
      have hfe := fewer_spec hi (o := bestN (fun s => decide (s &&& H = s) && decide (pairsN n hm (H &&& (31 ^^^ s)) = 0)) i) (fun b hb => by have := bestN_lt _ _ _ hb; omega)
      rw [bestN_succ]
      generalize bestN (fun s => decide (s &&& H = s) && decide (pairsN n hm (H &&& (31 ^^^ s)) = 0)) i = o at hfe ⊢
      by_cases q1 : i &&& H = i
      · by_cases q2 : pairsN n hm (H &&& (31 ^^^ i)) = 0
        · cases hf : fewer i o <;> simp (disch := omega) only [fX9_cover_13, gX9_cover_13, fX9_cover_47, fX9_cover_64, i_31, ltS, show ¬ 31 < i by omega, reduceIte, within_c i hi H hH, obind, q1, decide_true, without H hH i hi, pairs_spec hn hh hx, q2, nI_0, hfe, hf, nI_1, Bool.and_self, Bool.and_false, Bool.false_eq_true, Bool.true_and] <;> rfl
        · have q3 : ¬ nI (pairsN n hm (H &&& (31 ^^^ i))) = 0 := nI_ne0 (by omega) (by omega)
          simp (disch := omega) only [fX9_cover_13, gX9_cover_13, fX9_cover_47, fX9_cover_46, fX9_cover_64, i_31, ltS, show ¬ 31 < i by omega, reduceIte, within_c i hi H hH, obind, q1, decide_true, without H hH i hi, pairs_spec hn hh hx, q2, q3, nI_1, decide_false, Bool.and_false, Bool.false_and, Bool.false_eq_true]
      · simp (disch := omega) only [fX9_cover_13, gX9_cover_13, fX9_cover_47, fX9_cover_46, fX9_cover_64, i_31, ltS, show ¬ 31 < i by omega, reduceIte, within_c i hi H hH, obind, q1, nI_1, decide_false, Bool.false_and, Bool.false_eq_true]
  · unfold fX10_cover
    rw [i_0, areIn_spec hn (by omega), obind, ← i_0, e]
    refine loop_seq (fun fu (s : Int32) x => fX10_cover_12 (nI H) (nI n) mho fu s x) (fun i => bI (bestN (fun s => decide (s &&& H = s) && decide (pairsN n hm (H &&& (31 ^^^ s)) = 0)) i)) 32 _ (fun fu => ?_) (fun fu i hi => ?_) 32 0 FU (by omega) (by unfold FU; omega)
    · simp (disch := omega) only [fX10_cover_12, gX10_cover_12, i_32, leS, Nat.le_refl, reduceIte]
    · have hx : H &&& (31 ^^^ i) < 32 := Nat.lt_of_le_of_lt Nat.and_le_left hH
      have hple := pairsN_le hn hm (H &&& (31 ^^^ i))
      have hlt : ∀ b, bestN (fun s => decide (s &&& H = s) && decide (pairsN n hm (H &&& (31 ^^^ s)) = 0)) i = some b → b < 32 := fun b hb => by have := bestN_lt _ _ _ hb; omega
      rw [bestN_succ]
      generalize bestN (fun s => decide (s &&& H = s) && decide (pairsN n hm (H &&& (31 ^^^ s)) = 0)) i = o at hlt ⊢
      have hw := within_r' hi hH
      have key : ∀ (y : Bool), fX10_cover_40 (fX10_cover_12 (nI H) (nI n) mho fu) (nI H) (bI o) (nI i) y (nI n) mho = fX10_cover_12 (nI H) (nI n) mho fu (bI (if (decide (i &&& H = i) && decide (pairsN n hm (H &&& (31 ^^^ i)) = 0)) && y then some i else o)) (nI (i + 1)) := by
        intro y
        cases y
        · simp only [fX10_cover_40, fX10_cover_71, fX10_cover_72, Bool.and_false, Bool.false_eq_true, reduceIte, nI_1]
        · by_cases q1 : i &&& H = i
          · by_cases q2 : pairsN n hm (H &&& (31 ^^^ i)) = 0
            · simp only [fX10_cover_40, fX10_cover_72, reduceIte, hw, q1, without H hH i hi, fights_spec hn (hh.to hho) hx, obind, q2, nI_0, decide_true, Bool.and_self, nI_1]; rfl
            · have q3 : ¬ nI (pairsN n hm (H &&& (31 ^^^ i))) = 0 := nI_ne0 (by omega) (by omega)
              simp only [fX10_cover_40, fX10_cover_71, fX10_cover_72, reduceIte, hw, q1, without H hH i hi, fights_spec hn (hh.to hho) hx, obind, q2, q3, decide_true, decide_false, Bool.and_false, Bool.false_and, Bool.false_eq_true, nI_1]
          · simp only [fX10_cover_40, fX10_cover_71, fX10_cover_72, reduceIte, hw, q1, decide_false, Bool.false_and, Bool.false_eq_true, nI_1]
      cases o with
      | none =>
        have k1 := key true
        simp (disch := omega) only [fX10_cover_12, gX10_cover_12, fX10_cover_35, i_32, leS, show ¬ 32 ≤ i by omega, reduceIte, bI, fewer] at k1 ⊢
        exact k1
      | some b =>
        have hb := hlt b rfl
        have h1 := popN_le i; have h2 := popN_le b
        by_cases q : popN b ≤ popN i
        · have k1 := key false
          simp (disch := omega) only [fX10_cover_12, gX10_cover_12, i_32, leS, show ¬ 32 ≤ i by omega, reduceIte, bI, fewer, nI_m9 hb, cnt_r, obind, q, show ¬ popN i < popN b by omega, decide_false] at k1 ⊢
          exact k1
        · have k1 := key true
          simp (disch := omega) only [fX10_cover_12, gX10_cover_12, fX10_cover_35, i_32, leS, show ¬ 32 ≤ i by omega, reduceIte, bI, fewer, nI_m9 hb, cnt_r, obind, q, show popN i < popN b by omega, decide_true] at k1 ⊢
          exact k1
