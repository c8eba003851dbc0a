/-! ===== PURE LAYER: the acts, the slots ===== -/
theorem popN_succ {x n : Nat} (hn : n < 5) (h : x < 2 ^ n) : popN (x + 2 ^ n) = popN x + 1 := by
  rcases (show n = 0 ∨ n = 1 ∨ n = 2 ∨ n = 3 ∨ n = 4 by omega) with rfl | rfl | rfl | rfl | rfl <;> simp at h ⊢ <;> unfold popN <;> omega
theorem popB_succ (f : Nat → Bool) {n : Nat} (hn : n < 5) : popN (bitsN f (n + 1)) = popN (bitsN f n) + if f n then 1 else 0 := by
  rw [bitsN_succ]
  split
  · exact popN_succ hn (bitsN_lt f n)
  · rfl
theorem popB_one {f g : Nat → Bool} (i : Nat) : ∀ {n : Nat}, n ≤ 5 → (∀ j, j < n → j ≠ i → f j = true → g j = true) → popN (bitsN f n) ≤ popN (bitsN g n) + if i < n then 1 else 0
  | 0, _, _ => by show popN 0 ≤ popN 0 + _; omega
  | n + 1, hn, h => by
    have ih := popB_one (f := f) (g := g) i (n := n) (by omega) (fun j hj => h j (by omega))
    rw [popB_succ f (by omega), popB_succ g (by omega)]
    by_cases e : n = i
    · subst e
      rw [if_neg (by omega)] at ih
      rw [if_pos (show n < n + 1 by omega)]
      split <;> split <;> omega
    · have h1 := h n (by omega) e
      have h2 : (if i < n + 1 then 1 else 0) = if i < n then 1 else 0 := by
        by_cases q : i < n
        · rw [if_pos q, if_pos (by omega)]
        · rw [if_neg q, if_neg (by omega)]
      rw [h2]
      by_cases q : f n = true
      · rw [if_pos q, if_pos (h1 q)]; omega
      · rw [if_neg q]; omega
theorem TUB.mono {n tb : Nat} (hn : n ≤ 5) {wh wh' : Nat → Int32} (h : TUB n tb wh) (h2 : ∀ j, j < n → wh' j = 1 → wh j = 1) : TUB n tb wh' := by
  unfold TUB at *
  have := popB_one (f := fun i => decide (wh' i = 1)) (g := fun i => decide (wh i = 1)) n hn (fun j hj _ q => decide_eq_true (h2 j hj (of_decide_eq_true q)))
  rw [if_neg (by omega)] at this
  omega
theorem TUB.one {n tb i : Nat} (hn : n ≤ 5) {wh : Nat → Int32} (h : popN (bitsN (fun i => decide (wh i = 1)) n) < tb) : TUB n tb (upd wh i 1) := by
  unfold TUB
  have := popB_one (f := fun j => decide (upd wh i 1 j = 1)) (g := fun j => decide (wh j = 1)) i hn (fun j hj hne q => by
    have q' := of_decide_eq_true q
    rw [updI, if_neg hne] at q'
    exact decide_eq_true q')
  split at this <;> omega
theorem pop_now {n : Nat} {v : Int32} {m wh lf co : Nat → Int32} {m0 : Nat → Int32} {wi ho : Int32} (h : RVo n 0 m0 wh lf co wi ho m) : bitsN (fun j => decide (m (17 * 0 + 5 + j) = v)) n = bitsN (fun j => decide (wh j = v)) n := bitsN_cong (fun j hj => by rw [(h.1 j hj).2.1])
theorem ROW.up {n tb : Nat} {wh' lf' co' m m' : Nat → Int32} {wi' ho' : Int32} (h : RVo n 0 m wh' lf' co' wi' ho' m') (hT : TUB n tb wh') : ROW n tb 0 wh' lf' co' wi' ho' m' := ⟨h.self, hT⟩
theorem le0 {a : Nat} (h : a < 2147483648) : (nI a ≤ 0) = (a = 0) := by
  have := leS (a := a) (b := 0) h (by omega)
  rw [show (0 : Int32) = nI 0 from rfl, this]
  exact propext (by omega)
theorem at5 (f : Nat) : (17 : Int32) * 0 + 5 + nI f = nI (5 + f) := by
  rw [show (17 : Int32) * 0 + 5 = nI 5 by decide, nI_add]
theorem at10 (f : Nat) : (17 : Int32) * 0 + 10 + nI f = nI (10 + f) := by
  rw [show (17 : Int32) * 0 + 10 = nI 10 by decide, nI_add]
/-- SEND -/
theorem sim_send {n tb : Nat} (hn : n ≤ 5) (htb : tb ≤ 3) {first size mac mnx wi ho p : Int32} {awh alf aco : Nat → Nat → Int32} {awi aho mrow wh lf co m phr mws : Nat → Int32} (hws : ∀ i, i < n → mws i = phr i) (hA : ACT n tb first size awh alf aco awi aho mac mnx mrow) (hN : ROW n tb 0 wh lf co wi ho m) (x1 : Int32) :
    ∃ r wh' lf' b1 b2 b3 b4 b5 b6 b7 m' c1 c2 c3, fX9_send x1 (nI tb) (nI n) phr wh lf co wi ho first size awh alf aco awi aho = some (r, wh', lf', b1, b2, b3, b4, b5, b6, b7) ∧ fX10_send x1 (nI n) (nI tb) p mws m mac mnx mrow = some (r, m', c1, c2, c3) ∧ ROW n tb 0 wh' lf' co wi ho m' ∧ ACT n tb b1 b2 b3 b4 b5 b6 b7 c1 c2 c3 := by
  unfold fX9_send fX10_send
  rw [has_spec hn, isFlag_spec hn, obind, obind]
  rcases flag_cases n hn x1 with ⟨f, hf, rfl⟩ | h1
  · have e0 : m (5 + f) = wh f := by have := (hN.1.1 f hf).2.1; simpa using this
    have hb := hasB_nI hf hn
    have c1 : fX8_canBeSent (nI f) wh (nI tb) (nI n) = some (decide (wh f = 0) && decide (popN (bitsN (fun i => decide (wh i = 1)) n) < tb)) := by
      unfold fX8_canBeSent
      rw [has_spec hn, obind, hb, if_pos rfl, inb_t (by omega) (by omega), if_pos rfl, cl_s (by omega), freeTubs_spec hn, obind, sub_s hN.2]
      by_cases q : wh f = 0
      · rw [if_pos q]
        by_cases q2 : popN (bitsN (fun i => decide (wh i = 1)) n) < tb
        · rw [if_neg (by rw [le0 (by omega)]; omega)]; simp [q, q2]
        · rw [if_pos (by rw [le0 (by omega)]; omega)]; simp [q2]
      · rw [if_neg q]; simp [q]
    have c2 : fX10_canSend (0 : Int32) (nI f) (nI n) (nI tb) p m = some (decide (wh f = 0) && decide (popN (bitsN (fun i => decide (wh i = 1)) n) < tb)) := by
      have ef := freeT_spec (lev := 0) hn (by omega) m (nI tb) p
      rw [nI_0, pop_now hN.1, sub_s hN.2] at ef
      unfold fX10_canSend
      rw [isFlag_spec hn, obind, hb, if_pos rfl, at5, inb_t (by omega) (by omega), if_pos rfl, cl_s (by omega), e0]
      rw [ef, obind]
      by_cases q : wh f = 0
      · rw [if_pos q]
        by_cases q2 : popN (bitsN (fun i => decide (wh i = 1)) n) < tb
        · rw [if_neg (by rw [le0 (by omega)]; omega)]; simp [q, q2]
        · rw [if_pos (by rw [le0 (by omega)]; omega)]; simp [q2]
      · rw [if_neg q]; simp [q]
    rw [hb, if_pos rfl, if_pos rfl, c1, c2, obind, obind]
    by_cases q : wh f = 0 ∧ popN (bitsN (fun i => decide (wh i = 1)) n) < tb
    · obtain ⟨b1, b2, b3, b4, b5, b6, b7, d1, d2, d3, g1, g2, g3⟩ := sim_rem hn hA hN
      obtain ⟨m', g4, g5⟩ := sendOn_spec (lev := 0) hn (by omega) hf mws hN.1
      rw [hws f hf] at g5
      have hT : TUB n tb (upd wh f 1) := TUB.one hn q.2
      have ef := freeT_spec (lev := 0) hn (by omega) m' (nI tb) p
      rw [nI_0, pop_now g5] at ef
      refine ⟨nI tb - nI (popN (bitsN (fun j => decide (upd wh f 1 j = 1)) n)), upd wh f 1, upd lf f (phr f), b1, b2, b3, b4, b5, b6, b7, m', d1, d2, d3, ?_, ?_, ROW.up g5 hT, g3⟩
      · rw [if_pos (by simp [q.1, q.2]), g1, obind, put_spec hn (by omega), if_pos hf, obind, freeTubs_spec hn, obind]
      · rw [if_pos (by simp [q.1, q.2]), g2, obind, show fX10_sendOn (0 : Int32) (nI f) mws m = some m' from g4, obind, ef, obind]
    · refine ⟨_, _, _, _, _, _, _, _, _, _, _, _, _, _, if_neg ?_, if_neg ?_, hN, hA⟩
      · simpa using q
      · simpa using q
  · rw [h1]
    exact ⟨_, _, _, _, _, _, _, _, _, _, _, _, _, _, if_neg (by decide), if_neg (by decide), hN, hA⟩
/-- PULL -/
theorem sim_pull {n tb : Nat} (hn : n ≤ 5) {first size mac mnx wi ho : Int32} {awh alf aco : Nat → Nat → Int32} {awi aho mrow wh lf co m : Nat → Int32} (hA : ACT n tb first size awh alf aco awi aho mac mnx mrow) (hN : ROW n tb 0 wh lf co wi ho m) (x1 : Int32) :
    ∃ r wh' lf' b1 b2 b3 b4 b5 b6 b7 m' c1 c2 c3, fX9_pull x1 (nI n) wh lf co wi ho first size awh alf aco awi aho = some (r, wh', lf', b1, b2, b3, b4, b5, b6, b7) ∧ fX10_pull x1 (nI n) m mac mnx mrow = some (r, m', c1, c2, c3) ∧ ROW n tb 0 wh' lf' co wi ho m' ∧ ACT n tb b1 b2 b3 b4 b5 b6 b7 c1 c2 c3 := by
  unfold fX9_pull fX10_pull
  rw [has_spec hn, isFlag_spec hn, obind, obind]
  rcases flag_cases n hn x1 with ⟨f, hf, rfl⟩ | h1
  · have e0 : m (5 + f) = wh f := by have := (hN.1.1 f hf).2.1; simpa using this
    have hb := hasB_nI hf hn
    have c1 : fX8_canBePulled (nI f) wh (nI n) = some (!decide (wh f = 0)) := by
      unfold fX8_canBePulled
      rw [has_spec hn, obind, hb, if_pos rfl, inb_t (by omega) (by omega), if_pos rfl, cl_s (by omega)]
      by_cases q : wh f = 0 <;> simp [q]
    rw [hb, if_pos rfl, if_pos rfl, c1, obind, show (5 : Int32) + nI f = nI (5 + f) from nI_add 5 f, inb_t (show 5 + f < 34 by omega) (by decide), if_pos (show true = true from rfl), cl_s (show 5 + f < 2147483648 by omega), e0]
    by_cases q : wh f = 0
    · exact ⟨_, _, _, _, _, _, _, _, _, _, _, _, _, _, if_neg (by simp [q]), if_pos q, hN, hA⟩
    · obtain ⟨b1, b2, b3, b4, b5, b6, b7, d1, d2, d3, g1, g2, g3⟩ := sim_rem hn hA hN
      have g5 := (hN.1.w hn hf 0).l hn hf 0
      have hT : TUB n tb (upd wh f 0) := hN.2.mono hn (fun j hj h => by
        rw [updI] at h
        split at h
        · exact absurd h (by decide)
        · exact h)
      refine ⟨wh f, upd wh f 0, upd lf f 0, b1, b2, b3, b4, b5, b6, b7, upd (upd m (17 * 0 + 5 + f) 0) (17 * 0 + 10 + f) 0, d1, d2, d3, ?_, ?_, ROW.up g5 hT, g3⟩
      · rw [if_pos (by simp [q]), g1, obind, inb_t (by omega) (by omega), if_pos rfl]
        unfold fX8_bringHome
        rw [has_spec hn, obind, hb, if_pos rfl, inb_t (by omega) (by omega), if_pos rfl, if_pos rfl, obind, cl_s (by omega)]
      · rw [if_neg q, g2, obind]
        unfold fX10_pullOn
        simp (disch := omega) only [i_17, i_10, i_5, pk_mul, nI_add, inb_t, cl_s, reduceIte, show (0 : Int32) = nI 0 from rfl, obind]
  · rw [h1]
    exact ⟨_, _, _, _, _, _, _, _, _, _, _, _, _, _, if_neg (by decide), if_neg (by decide), hN, hA⟩
/-- HOUR -/
theorem sim_hour {n tb : Nat} (hn : n ≤ 5) {first size mac mnx wi ho t p : Int32} {awh alf aco : Nat → Nat → Int32} {awi aho mrow wh lf co m pcl mcl : Nat → Int32} (hc : CL n pcl) (hcl : ∀ i, i < n → mcl i = pcl i) (hA : ACT n tb first size awh alf aco awi aho mac mnx mrow) (hN : ROW n tb 0 wh lf co wi ho m) :
    ∃ r wh' lf' co' ho' b1 b2 b3 b4 b5 b6 b7 m' c1 c2 c3, fX9_hour p (nI n) pcl wh lf co wi ho first size awh alf aco awi aho = some (r, wh', lf', co', ho', b1, b2, b3, b4, b5, b6, b7) ∧ fX10_hour (nI n) t p mcl m mac mnx mrow = some (r, m', c1, c2, c3) ∧ ROW n tb 0 wh' lf' co' wi ho' m' ∧ ACT n tb b1 b2 b3 b4 b5 b6 b7 c1 c2 c3 := by
  obtain ⟨b1, b2, b3, b4, b5, b6, b7, d1, d2, d3, g1, g2, g3⟩ := sim_rem hn hA hN
  obtain ⟨cb, wh', lf', co', m', -, h1, h2, h3, h4⟩ := pass_sim (lev := 0) (t := t) (p := p) hn (by omega) hc hcl hN.1
  refine ⟨nI cb, wh', lf', co', ho + 1, b1, b2, b3, b4, b5, b6, b7, m', d1, d2, d3, ?_, ?_, ROW.up h3 (hN.2.mono hn h4), g3⟩
  · unfold fX9_hour; rw [g1, obind, h1, obind]
  · unfold fX10_hour; rw [g2, obind, show fX10_passOn (0 : Int32) (nI n) t p mcl m = _ from h2, obind]
/-- WIND -/
theorem sim_wind {n tb : Nat} (hn : n ≤ 5) {first size mac mnx wi ho : Int32} {awh alf aco : Nat → Nat → Int32} {awi aho mrow wh lf co m : Nat → Int32} (hA : ACT n tb first size awh alf aco awi aho mac mnx mrow) (hN : ROW n tb 0 wh lf co wi ho m) (x1 : Int32) :
    ∃ r wi' b1 b2 b3 b4 b5 b6 b7 m' c1 c2 c3, fX9_wind x1 wh lf co wi ho first size awh alf aco awi aho = some (r, wi', b1, b2, b3, b4, b5, b6, b7) ∧ fX10_wind x1 m mac mnx mrow = some (r, m', c1, c2, c3) ∧ ROW n tb 0 wh lf co wi' ho m' ∧ ACT n tb b1 b2 b3 b4 b5 b6 b7 c1 c2 c3 := by
  have e0 : m ((15 : Int32).toNatClampNeg) = wi := hN.1.2.1
  unfold fX9_wind fX10_wind
  rw [inS x1 0 2 0 2 (by decide) (by decide), obind, e0]
  have e1 : (x1 < 0) = (x1.toInt < 0) := propext Int32.lt_iff_toInt_lt
  have e2 : (x1 ≤ 2) = (x1.toInt ≤ 2) := propext Int32.le_iff_toInt_le
  simp only [e1, e2]
  by_cases h : 0 ≤ x1.toInt ∧ x1.toInt ≤ 2
  · rw [if_neg (by omega), if_pos h.2, if_pos (decide_eq_true h)]
    by_cases q : x1 = wi
    · exact ⟨_, _, _, _, _, _, _, _, _, _, _, _, _, if_pos q, if_pos q.symm, hN, hA⟩
    · obtain ⟨b1, b2, b3, b4, b5, b6, b7, d1, d2, d3, g1, g2, g3⟩ := sim_rem hn hA hN
      refine ⟨wi, x1, b1, b2, b3, b4, b5, b6, b7, upd m (17 * 0 + 15) x1, d1, d2, d3, by rw [if_neg q, g1, obind], by rw [if_neg (fun e => q e.symm), g2, obind]; rfl, ROW.up (hN.1.wd hn x1) hN.2, g3⟩
  · have hd : decide (0 ≤ x1.toInt ∧ x1.toInt ≤ 2) = false := decide_eq_false h
    refine ⟨-2, wi, first, size, awh, alf, aco, awi, aho, m, mac, mnx, mrow, ?_, ?_, hN, hA⟩
    · by_cases q : x1.toInt < 0
      · rw [if_pos q]
      · rw [if_neg q, if_neg (by omega)]
    · rw [hd, if_neg (by decide)]
theorem undo_loop {x a : Nat} (hx : x < 14) (m mrow : Nat → Int32) : fX10_undo_36 (nI a) (nI x) mrow FU (nI 0) m = some (nI a, putB m 0 (fun k => mrow (17 * x + k)) 17, nI a, nI x) := by
  have key := loop_seq (fun fu (s : Nat → Int32) k => fX10_undo_36 (nI a) (nI x) mrow fu k s) (fun i => putB m 0 (fun k => mrow (17 * x + k)) i) 17 (some (nI a, putB m 0 (fun k => mrow (17 * x + k)) 17, nI a, nI x)) (fun fu => by
    simp (disch := omega) only [fX10_undo_36, gX10_undo_36, i_17, leS, Nat.le_refl, reduceIte]) (fun fu i hi => by
    have e := putB_upd (dst := m) (src := fun k => mrow (17 * x + k)) (a := 0) (i := i) rfl
    rw [Nat.zero_add] at e
    simp (disch := omega) only [fX10_undo_36, gX10_undo_36, i_17, leS, show ¬ 17 ≤ i by omega, pk_mul, nI_add, inb_t, cl_s, reduceIte, e, nI_1]) 17 0 FU (by omega) (by unfold FU; omega)
  simp only [putB_0] at key
  exact key
/-- UNDO -/
theorem sim_undo {n tb : Nat} (hn : n ≤ 5) {first size mac mnx wi ho : Int32} {awh alf aco : Nat → Nat → Int32} {awi aho mrow wh lf co m : Nat → Int32} (hA : ACT n tb first size awh alf aco awi aho mac mnx mrow) (hN : ROW n tb 0 wh lf co wi ho m) :
    ∃ r wh' lf' co' wi' ho' b2 m' c1 c2, fX9_undo wh lf co wi ho first size awh alf aco awi aho = some (r, wh', lf', co', wi', ho', b2) ∧ fX10_undo m mac mnx mrow = some (r, m', c1, c2) ∧ ROW n tb 0 wh' lf' co' wi' ho' m' ∧ ACT n tb first b2 awh alf aco awi aho c1 c2 mrow := by
  have hA' := hA
  obtain ⟨a, f, x, ha, hf, hx, rfl, rfl, rfl, rfl, hE⟩ := hA
  unfold fX9_undo fX0_takeBack fX10_undo
  by_cases q : a = 0
  · subst q
    have z : nI 0 = 0 := rfl
    rw [if_pos z, if_pos z, obind]
    exact ⟨-3, wh, lf, co, wi, ho, nI 0, m, nI 0, nI x, if_neg (show ¬ false = true by decide), rfl, hN, hA'⟩
  · have e0 : ¬ nI a = 0 := by rw [show (0 : Int32) = nI 0 from rfl, eqS (by omega) (by omega)]; exact q
    have hr := (hE (a - 1) (by omega)).put (x := 0) (dst := m) hn
    rw [show (x + 14 - a + (a - 1)) % 14 = (x + 13) % 14 by omega] at hr
    rw [if_neg e0, if_neg e0]
    unfold fX0_takeBack_36 fX8_copyFrom
    rw [i_1, sub_s (by omega), nI_add, jrem14 (by omega), inb_t (by omega) (by omega), if_pos rfl, obind, obind, if_pos rfl, cl_s (by omega), i_13, nI_add, jrem14 (by omega), show (0 : Int32) = nI 0 from rfl, undo_loop (by omega)]
    refine ⟨_, _, _, _, _, _, _, _, _, _, rfl, rfl, hr.to (fun j hj => (cpy_at (by omega)).symm) (fun j hj => (cpy_at (by omega)).symm) (fun j hj => (cpy_at (by omega)).symm), a - 1, f, (x + 13) % 14, by omega, hf, by omega, rfl, rfl, rfl, rfl, fun j hj => ?_⟩
    rw [show ((x + 13) % 14 + 14 - (a - 1) + j) % 14 = (x + 14 - a + j) % 14 by omega]
    exact hE j (by omega)
/-- the two slots -/
def SLOT (n tb : Nat) (kwh klf kco : Nat → Nat → Int32) (kwi kho kept mik mkp : Nat → Int32) : Prop := ∀ s, s < 2 → mik s = kept s ∧ (kept s ≠ 0 → ROW n tb s (kwh s) (klf s) (kco s) (kwi s) (kho s) mkp)
theorem keep_loop {x : Nat} (hx : x < 2) (m mik mkp : Nat → Int32) : fX10_keep_21 (nI x) m mik FU (nI 0) mkp = some (m 16, mik, putB mkp (17 * x) m 17) := by
  have key := loop_seq (fun fu (s : Nat → Int32) k => fX10_keep_21 (nI x) m mik fu k s) (fun i => putB mkp (17 * x) m i) 17 (some (m 16, mik, putB mkp (17 * x) m 17)) (fun fu => by
    simp (disch := omega) only [fX10_keep_21, gX10_keep_21, i_17, leS, Nat.le_refl, reduceIte, i_16, cl_s]) (fun fu i hi => by
    have e := putB_upd (dst := mkp) (src := m) (a := 17 * x) (i := i) rfl
    simp (disch := omega) only [fX10_keep_21, gX10_keep_21, i_17, leS, show ¬ 17 ≤ i by omega, pk_mul, nI_add, inb_t, cl_s, reduceIte, e, nI_1]) 17 0 FU (by omega) (by unfold FU; omega)
  simp only [putB_0] at key
  exact key
theorem again_loop {x : Nat} (hx : x < 2) (m mkp : Nat → Int32) : fX10_again_26 (nI x) mkp FU (nI 0) m = some (mkp (17 * x + 16), putB m 0 (fun k => mkp (17 * x + k)) 17, 0) := by
  have key := loop_seq (fun fu (s : Nat → Int32) k => fX10_again_26 (nI x) mkp fu k s) (fun i => putB m 0 (fun k => mkp (17 * x + k)) i) 17 (some (mkp (17 * x + 16), putB m 0 (fun k => mkp (17 * x + k)) 17, 0)) (fun fu => by
    have e : putB m 0 (fun k => mkp (17 * x + k)) 17 16 = mkp (17 * x + 16) := putB_in (a := 0) (k := 16) (by omega)
    simp (disch := omega) only [fX10_again_26, gX10_again_26, i_17, leS, Nat.le_refl, reduceIte, i_16, cl_s, e]) (fun fu i hi => by
    have e := putB_upd (dst := m) (src := fun k => mkp (17 * x + k)) (a := 0) (i := i) rfl
    rw [Nat.zero_add] at e
    simp (disch := omega) only [fX10_again_26, gX10_again_26, i_17, leS, show ¬ 17 ≤ i by omega, pk_mul, nI_add, inb_t, cl_s, reduceIte, e, nI_1]) 17 0 FU (by omega) (by unfold FU; omega)
  simp only [putB_0] at key
  exact key
/-- KEEP -/
theorem sim_keep {n tb : Nat} (hn : n ≤ 5) {wi ho : Int32} {kwh klf kco : Nat → Nat → Int32} {kwi kho kept mik mkp wh lf co m : Nat → Int32} (hS : SLOT n tb kwh klf kco kwi kho kept mik mkp) (hN : ROW n tb 0 wh lf co wi ho m) (x1 : Int32) :
    ∃ r b1 b2 b3 b4 b5 b6 c1 c2, fX9_keep x1 wh lf co wi ho kwh klf kco kwi kho kept = some (r, b1, b2, b3, b4, b5, b6) ∧ fX10_keep x1 m mik mkp = some (r, c1, c2) ∧ SLOT n tb b1 b2 b3 b4 b5 b6 c1 c2 := by
  unfold fX9_keep fX10_keep
  rw [inS x1 0 1 0 1 (by decide) (by decide), obind]
  have e1 : (x1 < 0) = (x1.toInt < 0) := propext Int32.lt_iff_toInt_lt
  have e2 : (x1 < 2) = (x1.toInt < 2) := propext Int32.lt_iff_toInt_lt
  simp only [e1, e2]
  rcases rng_cases x1 1 (by omega) with ⟨s, hs, rfl⟩ | h
  · have e3 := nI_toInt (n := s) (by omega)
    rw [if_neg (by omega), if_pos (by omega), if_pos (show inb (nI s) 2 = true from inb_t (by omega) (by omega)), if_pos (show inb (nI s) 2 = true from inb_t (by omega) (by omega)), if_pos (decide_eq_true (by omega))]
    unfold fX8_copyFrom
    rw [obind, if_pos (show inb (nI s) 2 = true from inb_t (by omega) (by omega)), cl_s (by omega), show (0 : Int32) = nI 0 from rfl, keep_loop (by omega), show m 16 = ho from hN.1.2.2.1]
    refine ⟨_, _, _, _, _, _, _, _, _, rfl, rfl, fun s' hs' => ?_⟩
    by_cases e : s' = s
    · subst e
      refine ⟨by rw [updI, updI, if_pos rfl, if_pos rfl], fun _ => ?_⟩
      simp only [up_at]
      have hp := hN.put (x := s') (dst := mkp) hn
      simp only [Nat.mul_zero, Nat.zero_add] at hp
      exact hp.to (fun j hj => (cpy_at (by omega)).symm) (fun j hj => (cpy_at (by omega)).symm) (fun j hj => (cpy_at (by omega)).symm)
    · obtain ⟨h1, h2⟩ := hS s' hs'
      refine ⟨by rw [updI, updI, if_neg e, if_neg e]; exact h1, fun h3 => ?_⟩
      rw [updI, if_neg e] at h3
      simp only [up_ne e]
      exact (h2 h3).keep hn e
  · refine ⟨-1, kwh, klf, kco, kwi, kho, kept, mik, mkp, ?_, if_neg (fun q => h (of_decide_eq_true q)), hS⟩
    by_cases q : x1.toInt < 0
    · rw [if_pos q]
    · rw [if_neg q, if_neg (by omega)]
/-- AGAIN -/
theorem sim_again {n tb : Nat} (hn : n ≤ 5) {first size mac mnx wi ho : Int32} {awh alf aco : Nat → Nat → Int32} {awi aho mrow : Nat → Int32} {kwh klf kco : Nat → Nat → Int32} {kwi kho kept mik mkp wh lf co m : Nat → Int32} (hA : ACT n tb first size awh alf aco awi aho mac mnx mrow) (hS : SLOT n tb kwh klf kco kwi kho kept mik mkp) (hN : ROW n tb 0 wh lf co wi ho m) (x1 : Int32) :
    ∃ r wh' lf' co' wi' ho' b1 b2 m' c1, fX9_again x1 wh lf co wi ho first size kwh klf kco kwi kho kept = some (r, wh', lf', co', wi', ho', b1, b2) ∧ fX10_again x1 m mac mik mkp = some (r, m', c1) ∧ ROW n tb 0 wh' lf' co' wi' ho' m' ∧ ACT n tb b1 b2 awh alf aco awi aho c1 mnx mrow := by
  unfold fX9_again fX10_again
  rw [inS x1 0 1 0 1 (by decide) (by decide), obind]
  have e1 : (x1 < 0) = (x1.toInt < 0) := propext Int32.lt_iff_toInt_lt
  have e2 : (x1 < 2) = (x1.toInt < 2) := propext Int32.lt_iff_toInt_lt
  simp only [e1, e2]
  rcases rng_cases x1 1 (by omega) with ⟨s, hs, rfl⟩ | h
  · have e3 := nI_toInt (n := s) (by omega)
    obtain ⟨h1, h2⟩ := hS s (by omega)
    rw [if_neg (by omega), if_pos (by omega), if_pos (show inb (nI s) 2 = true from inb_t (by omega) (by omega)), if_pos (show inb (nI s) 2 = true from inb_t (by omega) (by omega)), if_pos (show inb (nI s) 2 = true from inb_t (by omega) (by omega)), if_pos (decide_eq_true (by omega)), cl_s (by omega), h1]
    by_cases q : kept s = 0
    · exact ⟨-3, wh, lf, co, wi, ho, first, size, m, mac, if_pos q, if_pos q, hN, hA⟩
    · rw [if_neg q, if_neg q]
      have hr := (h2 q).put (x := 0) (dst := m) hn
      obtain ⟨a, f, x, ha, hf, hx, rfl, rfl, rfl, rfl, hE⟩ := hA
      unfold fX8_copyFrom fX0_forgetAll
      rw [obind, obind, show (0 : Int32) = nI 0 from rfl, again_loop (by omega), show mkp (17 * s + 16) = kho s from (h2 q).1.2.2.1]
      exact ⟨_, _, _, _, _, _, _, _, _, _, rfl, rfl, hr.to (fun j hj => (cpy_at (by omega)).symm) (fun j hj => (cpy_at (by omega)).symm) (fun j hj => (cpy_at (by omega)).symm), 0, 0, x, by omega, by omega, hx, rfl, rfl, rfl, rfl, fun j hj => absurd hj (by omega)⟩
  · refine ⟨-1, wh, lf, co, wi, ho, first, size, m, mac, ?_, if_neg (fun q => h (of_decide_eq_true q)), hN, hA⟩
    by_cases q : x1.toInt < 0
    · rw [if_pos q]
    · rw [if_neg q, if_neg (by omega)]
