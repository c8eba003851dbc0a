/-! ===== PURE LAYER: an hour, both sides alike ===== -/
/-- the reference's loop over what is in tubs -/
theorem passC {n lev : Nat} (hn : n ≤ 5) (hl : lev ≤ 1) {m0 wh lf co m pcl mcl : Nat → Int32} {wi ho t p came d : Int32} (hcl : ∀ i, i < n → mcl i = pcl i) (h : RVo n lev m0 wh lf co wi ho m) :
    ∃ m', fX10_passOn_201 (nI lev) (nI (17 * lev)) came (nI (bitsN (fun j => decide (wh j = 1)) n)) d (nI n) t p mcl FU (nI 0) m = some (came, m') ∧ RVo n lev m0 (hSeq n p pcl (wh, mapN n (wL wh lf) lf) n).1 (hSeq n p pcl (wh, mapN n (wL wh lf) lf) n).2 (mapN n (rC d wh co) co) wi (ho + 1) m' := by
  have h32 := bits32 (fun j => decide (wh j = 1)) hn
  refine loop_ex (fun f m => RVo n lev m0 (hSeq n p pcl (wh, mapN n (wL wh lf) lf) f).1 (fun j => if j < f then (hSeq n p pcl (wh, mapN n (wL wh lf) lf) f).2 j else lf j) (mapN f (rC d wh co) co) wi ho m) (fun fu (s : Nat → Int32) x => fX10_passOn_201 (nI lev) (nI (17 * lev)) came (nI (bitsN (fun j => decide (wh j = 1)) n)) d (nI n) t p mcl fu x s) n (fun r => ∃ m', r = some (came, m') ∧ RVo n lev m0 (hSeq n p pcl (wh, mapN n (wL wh lf) lf) n).1 (hSeq n p pcl (wh, mapN n (wL wh lf) lf) n).2 (mapN n (rC d wh co) co) wi (ho + 1) m') ?_ ?_ n 0 m FU (by omega) (by unfold FU; omega) ?_
  · intro fu s hI
    refine ⟨upd s (17 * lev + 16) (ho + 1), ?_, ?_⟩
    · simp (disch := omega) only [fX10_passOn_201, gX10_passOn_201, leS, Nat.le_refl, i_16, nI_add, inb_t, cl_s, reduceIte, hI.2.2.1]
    · refine (hI.h hn (ho + 1)).to (fun j hj => rfl) (fun j hj => if_pos hj) (fun j hj => rfl)
  · intro fu s f hf hI
    have hk := hSeq_keep (n := n) (pegs := p) (pcl := pcl) (s := (wh, mapN n (wL wh lf) lf)) f f (Nat.le_refl f)
    have hb : (bt (bitsN (fun j => decide (wh j = 1)) n) f = 1) = (decide (wh f = 1) = true) := bt_bits _ hf
    obtain ⟨i1, i2, i3⟩ := hI.1 f hf
    have i1' : s (17 * lev + f) = co f := i1.trans mapN_at
    have i2' : s (17 * lev + 5 + f) = wh f := i2.trans hk.1
    have i3' : s (17 * lev + 10 + f) = lf f := i3.trans (if_neg (Nat.lt_irrefl f))
    have hk2 : (hSeq n p pcl (wh, mapN n (wL wh lf) lf) f).2 f = wL wh lf f := hk.2.trans (mapN_lt hf)
    by_cases h1 : wh f = 1
    · -- it is in a tub
      have hb1 : bt (bitsN (fun j => decide (wh j = 1)) n) f = 1 := by rw [hb]; simp [h1]
      -- behind colours and washing
      have hw3 : wL wh lf f = if lf f ≤ 0 then lf f else lf f - 1 := by simp only [wL, h1, reduceIte]
      have R1 := hI.c hn hf (co f ||| d)
      have R2 := R1.l hn hf (wL wh lf f)
      obtain ⟨m', g1, g2⟩ := hangOn_spec hn hl hf t p mcl R2
      refine ⟨m', ?_, ?_⟩
      · have a1 : upd s (17 * lev + f) (co f ||| d) (17 * lev + 10 + f) = lf f := by rw [pk_un (by omega)]; exact i3'
        by_cases h0 : lf f ≤ 0
        · have g1' : fX10_hangOn (nI lev) (nI f) (nI n) t p mcl (upd (upd s (17 * lev + f) (co f ||| d)) (17 * lev + 10 + f) (lf f - b2i false)) = some m' := by
            rw [show lf f - b2i false = wL wh lf f by rw [hw3, if_pos h0]; exact Int32.sub_zero _]; exact g1
          simp (disch := omega) only [fX10_passOn_201, gX10_passOn_201, fX10_passOn_267, fX10_passOn_276, leS, hasr_spec, obind, hb1, decide_true, i_10, nI_add, inb_t, cl_s, i1', a1, h0, reduceIte, show ¬ n ≤ f by omega, g1', nI_1]
        · have g1' : fX10_hangOn (nI lev) (nI f) (nI n) t p mcl (upd (upd s (17 * lev + f) (co f ||| d)) (17 * lev + 10 + f) (lf f - b2i true)) = some m' := by
            rw [show lf f - b2i true = wL wh lf f by rw [hw3, if_neg h0]; rfl]; exact g1
          simp (disch := omega) only [fX10_passOn_201, gX10_passOn_201, fX10_passOn_267, fX10_passOn_276, leS, hasr_spec, obind, hb1, decide_true, i_10, nI_add, inb_t, cl_s, i1', a1, h0, reduceIte, show ¬ n ≤ f by omega, g1', nI_1]
      · have cond : (upd (fun j => if j < f then (hSeq n p pcl (wh, mapN n (wL wh lf) lf) f).2 j else lf j) f (wL wh lf f) f = 0 ∧ ¬ p - nI (popN (bitsN (fun j => decide ((hSeq n p pcl (wh, mapN n (wL wh lf) lf) f).1 j = 2)) n)) ≤ 0) = ((hSeq n p pcl (wh, mapN n (wL wh lf) lf) f).1 f = 1 ∧ (hSeq n p pcl (wh, mapN n (wL wh lf) lf) f).2 f = 0 ∧ ¬ p - nI (popN (bitsN (fun j => decide ((hSeq n p pcl (wh, mapN n (wL wh lf) lf) f).1 j = 2)) n)) ≤ 0) := by
          rw [pk_us, hk2, show (hSeq n p pcl (wh, mapN n (wL wh lf) lf) f).1 f = 1 from hk.1.trans h1]; simp
        rw [hcl f hf] at g2
        simp only [cond] at g2
        show RVo n lev m0 (hStep n p pcl f (hSeq n p pcl (wh, mapN n (wL wh lf) lf) f)).1 (fun j => if j < f + 1 then (hStep n p pcl f (hSeq n p pcl (wh, mapN n (wL wh lf) lf) f)).2 j else lf j) (mapN (f + 1) (rC d wh co) co) wi ho m'
        unfold hStep
        have hc3 : upd (mapN f (rC d wh co) co) f (co f ||| d) = mapN (f + 1) (rC d wh co) co := mapN_upd (by simp only [rC, h1, reduceIte])
        rw [hc3] at g2
        generalize hSeq n p pcl (wh, mapN n (wL wh lf) lf) f = sq at *
        by_cases cc : sq.1 f = 1 ∧ sq.2 f = 0 ∧ ¬ p - nI (popN (bitsN (fun j => decide (sq.1 j = 2)) n)) ≤ 0
        · simp only [if_pos cc] at g2 ⊢
          refine g2.to (fun j _ => rfl) (fun j hj => ?_) (fun j _ => rfl)
          by_cases q : j = f
          · subst q; rw [pk_us, if_pos (Nat.lt_succ_self _)]; exact pk_us.symm
          · rw [pk_un q, pk_un q]
            by_cases q2 : j < f
            · rw [if_pos q2, if_pos (by omega)]; exact (pk_un q).symm
            · rw [if_neg q2, if_neg (by omega)]
        · simp only [if_neg cc] at g2 ⊢
          refine g2.to (fun j _ => rfl) (fun j hj => ?_) (fun j _ => rfl)
          by_cases q : j = f
          · subst q; rw [pk_us, if_pos (Nat.lt_succ_self _)]; exact hk2.symm
          · rw [pk_un q]
            by_cases q2 : j < f
            · rw [if_pos q2, if_pos (by omega)]
            · rw [if_neg q2, if_neg (by omega)]
    · -- it isn't
      have hb1 : ¬ bt (bitsN (fun j => decide (wh j = 1)) n) f = 1 := by rw [hb]; simp [h1]
      refine ⟨s, ?_, ?_⟩
      · simp (disch := omega) only [fX10_passOn_201, gX10_passOn_201, fX10_passOn_276, leS, hasr_spec, obind, hb1, decide_false, reduceIte, show ¬ n ≤ f by omega, nI_1, Bool.false_eq_true]
      · show RVo n lev m0 (hStep n p pcl f (hSeq n p pcl (wh, mapN n (wL wh lf) lf) f)).1 (fun j => if j < f + 1 then (hStep n p pcl f (hSeq n p pcl (wh, mapN n (wL wh lf) lf) f)).2 j else lf j) (mapN (f + 1) (rC d wh co) co) wi ho s
        have hst : hStep n p pcl f (hSeq n p pcl (wh, mapN n (wL wh lf) lf) f) = hSeq n p pcl (wh, mapN n (wL wh lf) lf) f := by
          unfold hStep; rw [if_neg (fun q => h1 (hk.1.symm.trans q.1))]
        rw [hst, ← mapN_same (i := f) (g := rC d wh co) (f := co) (by simp only [rC, h1, reduceIte])]
        refine hI.to (fun j _ => rfl) (fun j hj => ?_) (fun j _ => rfl)
        by_cases q : j = f
        · subst q
          rw [if_neg (Nat.lt_irrefl _), if_pos (Nat.lt_succ_self _), hk2]; simp only [wL, h1, reduceIte]
        · by_cases q2 : j < f
          · rw [if_pos q2, if_pos (by omega)]
          · rw [if_neg q2, if_neg (by omega)]
  · refine h.to (fun j _ => rfl) (fun j hj => ?_) (fun j _ => ?_)
    · rw [if_neg (Nat.not_lt_zero j)]
    · rw [mapN_0]
