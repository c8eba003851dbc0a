/-! ===== PURE LAYER: an hour, the reference's side ===== -/
theorem sub_sub32 (a b c : Int32) : a - b - c = a - (b + c) := by
  apply Int32.toBitVec_inj.mp
  show a.toBitVec - b.toBitVec - c.toBitVec = a.toBitVec - (b.toBitVec + c.toBitVec)
  bv_omega
theorem le_or32 (x : Int32) : (0 < x ∧ 0 ≤ x ∧ ¬ x ≤ 0) ∨ (¬ 0 < x ∧ x ≤ 0 ∧ (0 ≤ x → x = 0)) := by
  by_cases h : 0 < x
  · have h1 : (0 : Int32).toInt < x.toInt := Int32.lt_iff_toInt_lt.mp h
    exact Or.inl ⟨h, Int32.le_iff_toInt_le.mpr (by omega), fun q => by have := Int32.le_iff_toInt_le.mp q; omega⟩
  · have h1 : ¬ (0 : Int32).toInt < x.toInt := fun q => h (Int32.lt_iff_toInt_lt.mpr q)
    exact Or.inr ⟨h, Int32.le_iff_toInt_le.mpr (by omega), fun q => Int32.toInt_inj.mp (by have := Int32.le_iff_toInt_le.mp q; omega)⟩
/-- the reference's row at a level shows these, and is else as it was -/
def RVo (n lev : Nat) (m0 wh lf co : Nat → Int32) (wi ho : Int32) (m : Nat → Int32) : Prop := (∀ j, j < n → m (17 * lev + j) = co j ∧ m (17 * lev + 5 + j) = wh j ∧ m (17 * lev + 10 + j) = lf j) ∧ m (17 * lev + 15) = wi ∧ m (17 * lev + 16) = ho ∧ ∀ k, (k < 17 * lev ∨ 17 * lev + 17 ≤ k) → m k = m0 k
theorem updI {f : Nat → Int32} {k j : Nat} {v : Int32} : upd f k v j = if j = k then v else f j := rfl
theorem RVo.w {n lev : Nat} (hn : n ≤ 5) {m0 wh lf co m : Nat → Int32} {wi ho : Int32} (h : RVo n lev m0 wh lf co wi ho m) {i : Nat} (hi : i < n) (v : Int32) : RVo n lev m0 (upd wh i v) lf co wi ho (upd m (17 * lev + 5 + i) v) := by
  obtain ⟨h1, h2, h3, h4⟩ := h
  refine ⟨fun j hj => ?_, ?_, ?_, fun k hk => ?_⟩
  · obtain ⟨a, b, c⟩ := h1 j hj
    refine ⟨?_, ?_, ?_⟩
    · rw [updI, if_neg (by omega)]; exact a
    · rw [updI, updI]
      by_cases q : j = i
      · rw [if_pos (by omega), if_pos q]
      · rw [if_neg (by omega), if_neg q]; exact b
    · rw [updI, if_neg (by omega)]; exact c
  · rw [updI, if_neg (by omega)]; exact h2
  · rw [updI, if_neg (by omega)]; exact h3
  · rw [updI, if_neg (by omega)]; exact h4 k hk
theorem RVo.l {n lev : Nat} (hn : n ≤ 5) {m0 wh lf co m : Nat → Int32} {wi ho : Int32} (h : RVo n lev m0 wh lf co wi ho m) {i : Nat} (hi : i < n) (v : Int32) : RVo n lev m0 wh (upd lf i v) co wi ho (upd m (17 * lev + 10 + i) v) := by
  obtain ⟨h1, h2, h3, h4⟩ := h
  refine ⟨fun j hj => ?_, ?_, ?_, fun k hk => ?_⟩
  · obtain ⟨a, b, c⟩ := h1 j hj
    refine ⟨?_, ?_, ?_⟩
    · rw [updI, if_neg (by omega)]; exact a
    · rw [updI, if_neg (by omega)]; exact b
    · rw [updI, updI]
      by_cases q : j = i
      · rw [if_pos (by omega), if_pos q]
      · rw [if_neg (by omega), if_neg q]; exact c
  · rw [updI, if_neg (by omega)]; exact h2
  · rw [updI, if_neg (by omega)]; exact h3
  · rw [updI, if_neg (by omega)]; exact h4 k hk
theorem RVo.c {n lev : Nat} (hn : n ≤ 5) {m0 wh lf co m : Nat → Int32} {wi ho : Int32} (h : RVo n lev m0 wh lf co wi ho m) {i : Nat} (hi : i < n) (v : Int32) : RVo n lev m0 wh lf (upd co i v) wi ho (upd m (17 * lev + i) v) := by
  obtain ⟨h1, h2, h3, h4⟩ := h
  refine ⟨fun j hj => ?_, ?_, ?_, fun k hk => ?_⟩
  · obtain ⟨a, b, c⟩ := h1 j hj
    refine ⟨?_, ?_, ?_⟩
    · rw [updI, updI]
      by_cases q : j = i
      · rw [if_pos (by omega), if_pos q]
      · rw [if_neg (by omega), if_neg q]; exact a
    · rw [updI, if_neg (by omega)]; exact b
    · rw [updI, if_neg (by omega)]; exact c
  · rw [updI, if_neg (by omega)]; exact h2
  · rw [updI, if_neg (by omega)]; exact h3
  · rw [updI, if_neg (by omega)]; exact h4 k hk
theorem RVo.h {n lev : Nat} (hn : n ≤ 5) {m0 wh lf co m : Nat → Int32} {wi ho : Int32} (h : RVo n lev m0 wh lf co wi ho m) (v : Int32) : RVo n lev m0 wh lf co wi v (upd m (17 * lev + 16) v) := by
  obtain ⟨h1, h2, h3, h4⟩ := h
  refine ⟨fun j hj => ?_, ?_, ?_, fun k hk => ?_⟩
  · obtain ⟨a, b, c⟩ := h1 j hj
    refine ⟨?_, ?_, ?_⟩
    · rw [updI, if_neg (by omega)]; exact a
    · rw [updI, if_neg (by omega)]; exact b
    · rw [updI, if_neg (by omega)]; exact c
  · rw [updI, if_neg (by omega)]; exact h2
  · rw [updI, if_pos rfl]
  · rw [updI, if_neg (by omega)]; exact h4 k hk
theorem RVo.wd {n lev : Nat} (hn : n ≤ 5) {m0 wh lf co m : Nat → Int32} {wi ho : Int32} (h : RVo n lev m0 wh lf co wi ho m) (v : Int32) : RVo n lev m0 wh lf co v ho (upd m (17 * lev + 15) v) := by
  obtain ⟨h1, h2, h3, h4⟩ := h
  refine ⟨fun j hj => ?_, ?_, ?_, fun k hk => ?_⟩
  · obtain ⟨a, b, c⟩ := h1 j hj
    refine ⟨?_, ?_, ?_⟩
    · rw [updI, if_neg (by omega)]; exact a
    · rw [updI, if_neg (by omega)]; exact b
    · rw [updI, if_neg (by omega)]; exact c
  · rw [updI, if_pos rfl]
  · rw [updI, if_neg (by omega)]; exact h3
  · rw [updI, if_neg (by omega)]; exact h4 k hk
theorem RVo.to {n lev : Nat} {m0 wh lf co wh' lf' co' m : Nat → Int32} {wi ho : Int32} (h : RVo n lev m0 wh lf co wi ho m) (h1 : ∀ j, j < n → wh j = wh' j) (h2 : ∀ j, j < n → lf j = lf' j) (h3 : ∀ j, j < n → co j = co' j) : RVo n lev m0 wh' lf' co' wi ho m :=
  ⟨fun j hj => by rw [← h1 j hj, ← h2 j hj, ← h3 j hj]; exact h.1 j hj, h.2⟩
theorem hSeq_keep {n : Nat} {pegs : Int32} {pcl : Nat → Int32} {s : (Nat → Int32) × (Nat → Int32)} : ∀ (i j : Nat), i ≤ j → (hSeq n pegs pcl s i).1 j = s.1 j ∧ (hSeq n pegs pcl s i).2 j = s.2 j
  | 0, _, _ => ⟨rfl, rfl⟩
  | i + 1, j, h => by
    have ih := hSeq_keep (n := n) (pegs := pegs) (pcl := pcl) (s := s) i j (by omega)
    show (hStep n pegs pcl i (hSeq n pegs pcl s i)).1 j = _ ∧ (hStep n pegs pcl i (hSeq n pegs pcl s i)).2 j = _
    unfold hStep
    split
    · exact ⟨(pk_un (show j ≠ i by omega)).trans ih.1, (pk_un (show j ≠ i by omega)).trans ih.2⟩
    · exact ih
theorem wetR_spec {i : Nat} (hi : i < 5) (mcl : Nat → Int32) : fX10_wetOf (nI i) mcl = some (wetC (mcl i)) := by
  unfold fX10_wetOf wetC
  simp (disch := omega) only [inb_t, cl_s, reduceIte]
  by_cases h1 : mcl i = 1
  · simp only [h1, reduceIte]
  · by_cases h2 : mcl i = 2
    · simp only [h2, reduceIte]; rfl
    · simp only [h1, h2, reduceIte]
theorem bt_bits (f : Nat → Bool) {n i : Nat} (hi : i < n) : (bt (bitsN f n) i = 1) = (f i = true) := by
  unfold bt
  rw [bitsN_bit]
  by_cases h : f i = true
  · simp [hi, h]
  · simp [h]
/-- hanging one up -/
theorem hangOn_spec {n lev i : Nat} (hn : n ≤ 5) (hl : lev ≤ 1) (hi : i < n) (t p : Int32) (mcl : Nat → Int32) {m0 wh lf co m : Nat → Int32} {wi ho : Int32} (h : RVo n lev m0 wh lf co wi ho m) : ∃ m', fX10_hangOn (nI lev) (nI i) (nI n) t p mcl m = some m' ∧ RVo n lev m0 (if lf i = 0 ∧ ¬ p - nI (popN (bitsN (fun j => decide (wh j = 2)) n)) ≤ 0 then upd wh i 2 else wh) (if lf i = 0 ∧ ¬ p - nI (popN (bitsN (fun j => decide (wh j = 2)) n)) ≤ 0 then upd lf i (wetC (mcl i)) else lf) co wi ho m' := by
  have e : bitsN (fun j => decide (m (17 * lev + 5 + j) = 2)) n = bitsN (fun j => decide (wh j = 2)) n := bitsN_cong (fun j hj => by rw [(h.1 j hj).2.1])
  have e0 := (h.1 i hi).2.2
  unfold fX10_hangOn
  simp (disch := omega) only [i_17, i_10, i_5, pk_mul, nI_add, inb_t, cl_s, reduceIte, e0, freeP_spec hn hl, obind, e, wetR_spec]
  by_cases h0 : lf i = 0
  · by_cases hp : p - nI (popN (bitsN (fun j => decide (wh j = 2)) n)) ≤ 0
    · exact ⟨m, by simp only [h0, hp, reduceIte], by simp only [h0, hp, not_true_eq_false, and_false, reduceIte]; exact h⟩
    · refine ⟨_, by simp only [h0, hp, reduceIte]; rfl, ?_⟩
      simp only [h0, hp, not_false_eq_true, and_self, reduceIte]
      exact (h.w hn hi 2).l hn hi _
  · exact ⟨m, by simp only [h0, reduceIte], by simp only [h0, false_and, reduceIte]; exact h⟩
