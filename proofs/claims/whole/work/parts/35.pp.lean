/-! ===== PURE LAYER: text, sightings, flag, count ===== -/
/-- the text on the line -/
def TEXT (length mlen : Int32) (letters mtx : Nat → Int32) : Prop := ∃ len, len ≤ 48 ∧ length = nI len ∧ mlen = nI len ∧ ∀ k, k < len → mtx k = letters k ∧ ∃ c, c ≤ 255 ∧ letters k = nI c
/-- WRITE -/
theorem sim_write {length mlen : Int32} {letters mtx : Nat → Int32} (h : TEXT length mlen letters mtx) (x1 : Int32) : ∃ r a1 a2 c1 c2, fX9_write x1 letters length = some (r, a1, a2) ∧ fX10_write x1 mtx mlen = some (r, c1, c2) ∧ TEXT a2 c2 a1 c1 := by
  have h' := h
  obtain ⟨len, hl, rfl, rfl, hk⟩ := h
  unfold fX9_write fX10_write
  rw [inS x1 0 255 0 255 (by decide) (by decide), obind]
  have e1 : (x1 < 0) = (x1.toInt < 0) := propext Int32.lt_iff_toInt_lt
  have e2 : (x1 ≤ 255) = (x1.toInt ≤ 255) := propext Int32.le_iff_toInt_le
  simp only [e1, e2]
  rcases rng_cases x1 255 (by omega) with ⟨s, hs, rfl⟩ | h
  · have e3 := nI_toInt (n := s) (by omega)
    rw [if_neg (by omega), if_pos (by omega), if_pos (decide_eq_true (by omega))]
    by_cases q : len = 48
    · have z1 : ¬ nI len < 48 := by rw [i_48, ltS (by omega) (by omega)]; omega
      have z2 : nI len = 48 := by rw [i_48, eqS (by omega) (by omega)]; omega
      exact ⟨_, _, _, _, _, if_neg z1, if_pos z2, h'⟩
    · have z1 : nI len < 48 := by rw [i_48, ltS (by omega) (by omega)]; omega
      have z2 : ¬ nI len = 48 := by rw [i_48, eqS (by omega) (by omega)]; omega
      rw [if_pos z1, if_neg z2, inb_t (by omega) (by omega), if_pos rfl, if_pos rfl, cl_s (by omega), i_1, nI_add]
      refine ⟨_, _, _, _, _, rfl, rfl, len + 1, by omega, rfl, rfl, fun k hk2 => ?_⟩
      rw [updI, updI]
      by_cases e : k = len
      · rw [if_pos e, if_pos e]; exact ⟨rfl, s, hs, rfl⟩
      · rw [if_neg e, if_neg e]; exact hk k (by omega)
  · refine ⟨-2, letters, nI len, mtx, nI len, ?_, if_neg (fun q => h (of_decide_eq_true q)), h'⟩
    by_cases q : x1.toInt < 0
    · rw [if_pos q]
    · rw [if_neg q, if_neg (by omega)]
/-- WIPE -/
theorem sim_wipe {length mlen : Int32} {letters mtx : Nat → Int32} (h : TEXT length mlen letters mtx) : ∃ r a2 c2, fX9_wipe length = some (r, a2) ∧ fX10_wipe mlen = some (r, c2) ∧ TEXT a2 c2 letters mtx := by
  obtain ⟨len, hl, rfl, rfl, hk⟩ := h
  exact ⟨_, _, _, rfl, rfl, 0, by omega, rfl, rfl, fun k hk => absurd hk (by omega)⟩
/-- the sightings -/
def SEEN (ssz msn : Int32) (sfl sco swt mso msc msw : Nat → Int32) : Prop := ∃ c, c ≤ 6 ∧ ssz = nI c ∧ msn = nI c ∧ ∀ k, k < c → mso k = sfl k ∧ msc k = sco k ∧ msw k = swt k ∧ ∃ f q w, f < 5 ∧ q < 16 ∧ w < 32 ∧ bt w f = 0 ∧ sfl k = nI f ∧ sco k = nI q ∧ swt k = nI w
theorem within_small (x : Int32) {b : Nat} (hb : b < 32) (h : x &&& (nI b ^^^ (-1 : Int32)) = 0) : ∃ k, k < 32 ∧ x = nI k := by
  have h1 : x.toBitVec &&& ((nI b).toBitVec ^^^ (-1 : Int32).toBitVec) = 0#32 := by
    exact congrArg Int32.toBitVec h
  have h3 : (-1 : Int32).toBitVec = BitVec.allOnes 32 := by decide
  rw [h3] at h1
  have h2 : x.toBitVec = x.toBitVec &&& (nI b).toBitVec := by
    apply BitVec.eq_of_getLsbD_eq
    intro i hi
    have := congrArg (fun v => BitVec.getLsbD v i) h1
    simp only [BitVec.getLsbD_and, BitVec.getLsbD_xor, BitVec.getLsbD_allOnes, BitVec.getLsbD_zero, hi, decide_true] at this
    rw [BitVec.getLsbD_and]
    revert this
    cases BitVec.getLsbD x.toBitVec i <;> cases BitVec.getLsbD (nI b).toBitVec i <;> decide
  have h4 : (x.toBitVec &&& (nI b).toBitVec).toNat ≤ (nI b).toBitVec.toNat := by
    rw [BitVec.toNat_and]; exact Nat.and_le_right
  have h5 : ∀ b, b < 32 → (nI b).toBitVec.toNat = b := by decide +kernel
  rw [← h2, h5 b hb] at h4
  refine ⟨x.toBitVec.toNat, by omega, ?_⟩
  apply Int32.toBitVec_inj.mp
  apply BitVec.eq_of_toNat_eq
  rw [h5 _ (by omega)]
/-- SEE -/
theorem sim_see {n : Nat} (hn : n ≤ 5) {ssz msn : Int32} {sfl sco swt mso msc msw : Nat → Int32} (h : SEEN ssz msn sfl sco swt mso msc msw) (x1 x2 x3 : Int32) : ∃ r a1 a2 a3 a4 c1 c2 c3 c4, fX9_see x1 x2 x3 (nI n) sfl sco swt ssz = some (r, a1, a2, a3, a4) ∧ fX10_see x1 x2 x3 (nI n) msn mso msc msw = some (r, c1, c2, c3, c4) ∧ SEEN a4 c1 a1 a2 a3 c2 c3 c4 := by
  unfold fX9_see fX10_see
  simp only [has_spec hn, isFlag_spec hn, obind, areCol_spec, inS x2 0 15 0 15 rfl rfl, inS x3 0 31 0 31 rfl rfl]
  rcases flag_cases n hn x1 with ⟨f, hf, rfl⟩ | h1
  · simp only [hasB_nI hf hn, reduceIte]
    rcases rng_cases x2 15 (by omega) with ⟨q, hq, rfl⟩ | h2
    · have e3 := nI_toInt (n := q) (by omega)
      have e4 : decide (0 ≤ (nI q).toInt ∧ (nI q).toInt ≤ 15) = true := decide_eq_true (by omega)
      simp only [e4, reduceIte]
      have hf2 := two_lt hf hn
      have em : (31 : Int32) &&& (((1 : Int32) <<< (nI f &&& 31)) ^^^ (-1 : Int32)) = nI (31 &&& (31 ^^^ 2 ^ f)) := by
        rw [shl_1 (by omega)]; exact without 31 (by omega) (2 ^ f) hf2
      rw [em]
      have hO : 31 &&& (31 ^^^ 2 ^ f) < 32 := Nat.lt_of_le_of_lt Nat.and_le_left (by omega)
      rcases rng_cases x3 31 (by omega) with ⟨w, hw, rfl⟩ | h3
      · have e5 := nI_toInt (n := w) (by omega)
        have e6 : decide (0 ≤ (nI w).toInt ∧ (nI w).toInt ≤ 31) = true := decide_eq_true (by omega)
        have e7 : (w &&& (31 &&& (31 ^^^ 2 ^ f)) = w) = (bt w f = 0) := by
          have key : ∀ f, f < 5 → ∀ w, w < 32 → ((w &&& (31 &&& (31 ^^^ 2 ^ f)) = w) ↔ (bt w f = 0)) := by decide +kernel
          exact propext (key f (by omega) w (by omega))
        have e8 := bt_le w f
        simp only [e6, reduceIte, within_c w (by omega) _ hO, hasr_spec (show w < 32 by omega) (show f < 5 by omega), obind, e7]
        by_cases z : bt w f = 0
        · simp only [z, decide_true, reduceIte, show ¬ (0 = 1) by omega, decide_false, Bool.false_eq_true]
          have h' := h
          obtain ⟨c, hc, rfl, rfl, hk⟩ := h
          unfold fX7_add
          by_cases y : c = 6
          · have z1 : ¬ nI c < 6 := by rw [i_6, ltS (by omega) (by omega)]; omega
            have z2 : nI c = 6 := by rw [i_6, eqS (by omega) (by omega)]; omega
            simp only [z1, reduceIte, obind, Bool.false_eq_true]
            rw [if_pos z2]
            exact ⟨_, _, _, _, _, _, _, _, _, rfl, rfl, h'⟩
          · have z1 : nI c < 6 := by rw [i_6, ltS (by omega) (by omega)]; omega
            have z2 : ¬ nI c = 6 := by rw [i_6, eqS (by omega) (by omega)]; omega
            simp (disch := omega) only [z1, z2, reduceIte, obind, inb_t, cl_s, i_1, nI_add]
            refine ⟨_, _, _, _, _, _, _, _, _, rfl, rfl, c + 1, by omega, rfl, rfl, fun k hk2 => ?_⟩
            simp only [updI]
            by_cases e : k = c
            · simp only [e, reduceIte, true_and]
              exact ⟨f, q, w, by omega, by omega, by omega, z, rfl, rfl, rfl⟩
            · simp only [e, reduceIte]; exact hk k (by omega)
        · have z3 : bt w f = 1 := by omega
          simp only [z3, decide_true, reduceIte, show ¬ (1 = 0) by omega, decide_false, Bool.false_eq_true]
          exact ⟨_, _, _, _, _, _, _, _, _, rfl, rfl, h⟩
      · have e6 : decide (0 ≤ x3.toInt ∧ x3.toInt ≤ 31) = false := decide_eq_false h3
        have e7 : fX9_isWithin x3 (nI (31 &&& (31 ^^^ 2 ^ f))) = some false := by
          unfold fX9_isWithin
          rw [if_neg (fun z => ?_)]
          obtain ⟨k, hk, rfl⟩ := within_small x3 hO z
          have := nI_toInt (n := k) (by omega)
          exact h3 (by omega)
        simp only [e6, e7, obind, Bool.false_eq_true, reduceIte]
        exact ⟨_, _, _, _, _, _, _, _, _, rfl, rfl, h⟩
    · have e4 : decide (0 ≤ x2.toInt ∧ x2.toInt ≤ 15) = false := decide_eq_false h2
      simp only [e4, Bool.false_eq_true, reduceIte]
      exact ⟨_, _, _, _, _, _, _, _, _, rfl, rfl, h⟩
  · simp only [h1, Bool.false_eq_true, reduceIte]
    exact ⟨_, _, _, _, _, _, _, _, _, rfl, rfl, h⟩
/-- UNSEE -/
theorem sim_unsee {ssz msn : Int32} {sfl sco swt mso msc msw : Nat → Int32} (h : SEEN ssz msn sfl sco swt mso msc msw) : ∃ r a1 c1, fX9_unsee ssz = some (r, a1) ∧ fX10_unsee msn = some (r, c1) ∧ SEEN a1 c1 sfl sco swt mso msc msw := by
  obtain ⟨c, hc, rfl, rfl, hk⟩ := h
  exact ⟨_, _, _, rfl, rfl, 0, by omega, rfl, rfl, fun k hk => absurd hk (by omega)⟩
theorem same_some {α : Type} {E : Option α} (h : ∃ r, E = some r) : ∃ r, E = some r ∧ E = some r := h.elim fun r q => ⟨r, q, q⟩
/-- FLAG -/
theorem sim_flag {n : Nat} {hm : Nat → Nat} {pcl phr pho mcl mws mho : Nat → Int32} (P : PL n hm pcl phr pho mcl mws mho) {m wh lf co : Nat → Int32} {wi ho : Int32} (hR : RVo n 0 m wh lf co wi ho m) (x1 x2 : Int32) : ∃ r, fX9_flag x1 x2 (nI n) pcl phr pho wh lf co = some r ∧ fX10_flag x1 x2 (nI n) mcl mws mho m = some r := by
  obtain ⟨hn, hc, hcl, hws, hh, hho⟩ := P
  unfold fX9_flag fX10_flag
  simp only [has_spec hn, isFlag_spec hn, obind]
  rcases flag_cases n hn x1 with ⟨f, hf, rfl⟩ | h1
  · have ⟨g1, g2, g3⟩ := hR.1 f hf
    simp only [Nat.mul_zero, Nat.zero_add] at g1 g2 g3
    simp (disch := omega) only [hasB_nI hf hn, reduceIte, i_5, i_10, nI_add, inb_t, cl_s, g1, g2, g3, hcl f hf, hws f hf, hho f hf]
    exact same_some (by (repeat' split) <;> exact ⟨_, rfl⟩)
  · simp only [h1, Bool.false_eq_true, reduceIte]
    exact ⟨_, rfl, rfl⟩
/-- COUNT -/
theorem sim_count {n tb : Nat} {hm : Nat → Nat} {pcl phr pho mcl mws mho : Nat → Int32} (P : PL n hm pcl phr pho mcl mws mho) {m wh lf co : Nat → Int32} {wi ho p len size ssz : Int32} (hR : RVo n 0 m wh lf co wi ho m) (x1 : Int32) : ∃ r, fX9_count x1 len (nI tb) p (nI n) pho wh wi ho size ssz = some r ∧ fX10_count x1 (nI n) (nI tb) p mho m len size ssz = some r := by
  obtain ⟨hn, hc, hcl, hws, hh, hho⟩ := P
  have a0 := areIn_spec (lev := 0) hn (by omega) 0 m
  have a1 := freeT_spec (lev := 0) hn (by omega) m (nI tb) p
  have a2 := freeP_spec (lev := 0) hn (by omega) m (nI tb) p
  rw [nI_0, pop_now hR] at a0 a1 a2
  unfold fX9_count fX10_count fX8_pairsThatMayFight
  simp only [a0, a1, a2, obind, freeTubs_spec hn, freePegs_spec hn, homeBits_spec hn, pairs_spec hn hh (bits32 _ hn), fights_spec hn (hh.to hho) (bits32 _ hn), show m (15 : Int32).toNatClampNeg = wi from hR.2.1, show m (16 : Int32).toNatClampNeg = ho from hR.2.2.1]
  exact same_some (by (repeat' split) <;> exact ⟨_, rfl⟩)
