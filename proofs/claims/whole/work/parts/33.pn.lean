/-! ===== PURE LAYER: rows kept: acts, slots ===== -/
def putB (dst : Nat → Int32) (a : Nat) (src : Nat → Int32) (i : Nat) : Nat → Int32 := fun k => if a ≤ k ∧ k < a + i then src (k - a) else dst k
theorem putB_0 {dst src : Nat → Int32} {a : Nat} : putB dst a src 0 = dst := by
  funext k; exact if_neg (by omega)
theorem putB_upd {dst src : Nat → Int32} {a i : Nat} {v : Int32} (h : src i = v) : upd (putB dst a src i) (a + i) v = putB dst a src (i + 1) := by
  funext k
  rw [updI]
  unfold putB
  by_cases q : k = a + i
  · rw [if_pos q, if_pos (by omega), q, Nat.add_sub_cancel_left, h]
  · rw [if_neg q]
    by_cases q2 : a ≤ k ∧ k < a + i
    · rw [if_pos q2, if_pos (by omega)]
    · rw [if_neg q2, if_neg (by omega)]
theorem putB_in {dst src : Nat → Int32} {a i k : Nat} (h : k < i) : putB dst a src i (a + k) = src k := by
  unfold putB; rw [if_pos (by omega), Nat.add_sub_cancel_left]
theorem putB_out {dst src : Nat → Int32} {a i k : Nat} (h : k < a ∨ a + i ≤ k) : putB dst a src i k = dst k := by
  unfold putB; rw [if_neg (by omega)]
/-- what a row keeps, with the tubs that are taken -/
def ROW (n tb e : Nat) (wh lf co : Nat → Int32) (wi ho : Int32) (r : Nat → Int32) : Prop := RVo n e r wh lf co wi ho r ∧ TUB n tb wh
theorem RVo.self {n e : Nat} {m0 wh lf co r : Nat → Int32} {wi ho : Int32} (h : RVo n e m0 wh lf co wi ho r) : RVo n e r wh lf co wi ho r := ⟨h.1, h.2.1, h.2.2.1, fun _ _ => rfl⟩
theorem TUB.to {n tb : Nat} {wh wh' : Nat → Int32} (h : TUB n tb wh) (h2 : ∀ j, j < n → wh j = wh' j) : TUB n tb wh' := by
  unfold TUB at *
  rw [← bitsN_cong (f := fun i => decide (wh i = 1)) (fun i hi => by simp only [h2 i hi])]
  exact h
theorem ROW.to {n tb e : Nat} {wh lf co wh' lf' co' r : Nat → Int32} {wi ho : Int32} (h : ROW n tb e wh lf co wi ho r) (h1 : ∀ j, j < n → wh j = wh' j) (h2 : ∀ j, j < n → lf j = lf' j) (h3 : ∀ j, j < n → co j = co' j) : ROW n tb e wh' lf' co' wi ho r := ⟨h.1.to h1 h2 h3, h.2.to h1⟩
/-- a row is laid at another place -/
theorem ROW.put {n tb e x : Nat} (hn : n ≤ 5) {wh lf co r dst : Nat → Int32} {wi ho : Int32} (h : ROW n tb e wh lf co wi ho r) : ROW n tb x wh lf co wi ho (putB dst (17 * x) (fun k => r (17 * e + k)) 17) := by
  obtain ⟨⟨h1, h2, h3, -⟩, hT⟩ := h
  refine ⟨⟨fun j hj => ?_, ?_, ?_, fun _ _ => rfl⟩, hT⟩
  · obtain ⟨a, b, c⟩ := h1 j hj
    refine ⟨?_, ?_, ?_⟩
    · rw [putB_in (by omega)]; exact a
    · rw [Nat.add_assoc, putB_in (by omega), ← Nat.add_assoc]; exact b
    · rw [Nat.add_assoc, putB_in (by omega), ← Nat.add_assoc]; exact c
  · rw [putB_in (by omega)]; exact h2
  · rw [putB_in (by omega)]; exact h3
theorem ROW.keep {n tb e x : Nat} (hn : n ≤ 5) (hne : e ≠ x) {wh lf co r src : Nat → Int32} {wi ho : Int32} (h : ROW n tb e wh lf co wi ho r) : ROW n tb e wh lf co wi ho (putB r (17 * x) src 17) := by
  obtain ⟨⟨h1, h2, h3, -⟩, hT⟩ := h
  refine ⟨⟨fun j hj => ?_, ?_, ?_, fun _ _ => rfl⟩, hT⟩
  · obtain ⟨a, b, c⟩ := h1 j hj
    refine ⟨?_, ?_, ?_⟩
    · rw [putB_out (by omega)]; exact a
    · rw [putB_out (by omega)]; exact b
    · rw [putB_out (by omega)]; exact c
  · rw [putB_out (by omega)]; exact h2
  · rw [putB_out (by omega)]; exact h3
theorem ROW.same {n tb e : Nat} (hn : n ≤ 5) {wh lf co r r' : Nat → Int32} {wi ho : Int32} (h : ROW n tb e wh lf co wi ho r) (hs : ∀ k, 17 * e ≤ k → k < 17 * e + 17 → r' k = r k) : ROW n tb e wh lf co wi ho r' := by
  obtain ⟨⟨h1, h2, h3, -⟩, hT⟩ := h
  refine ⟨⟨fun j hj => ?_, ?_, ?_, fun _ _ => rfl⟩, hT⟩
  · obtain ⟨a, b, c⟩ := h1 j hj
    exact ⟨(hs _ (by omega) (by omega)).trans a, (hs _ (by omega) (by omega)).trans b, (hs _ (by omega) (by omega)).trans c⟩
  · exact (hs _ (by omega) (by omega)).trans h2
  · exact (hs _ (by omega) (by omega)).trans h3
theorem jrem14 {a : Nat} (h : a < 2147483648) : jrem (nI a) (14 : Int32) = nI (a % 14) := by
  unfold jrem
  rw [i_14]
  exact pk_rem h (by decide) (by decide)
/-- the acts in the row: the last ones, on both sides, in the same order -/
def ACT (n tb : Nat) (first size : Int32) (awh alf aco : Nat → Nat → Int32) (awi aho : Nat → Int32) (mac mnx : Int32) (mrow : Nat → Int32) : Prop := ∃ a f x, a ≤ 14 ∧ f < 14 ∧ x < 14 ∧ size = nI a ∧ mac = nI a ∧ first = nI f ∧ mnx = nI x ∧ ∀ j, j < a → ROW n tb ((x + 14 - a + j) % 14) (awh ((f + j) % 14)) (alf ((f + j) % 14)) (aco ((f + j) % 14)) (awi ((f + j) % 14)) (aho ((f + j) % 14)) mrow
theorem keepAct_spec {x a : Nat} (hx : x < 14) (ha : a ≤ 14) (m mrow : Nat → Int32) : fX10_keepAct m (nI a) (nI x) mrow = some (nI (if a = 14 then 14 else a + 1), nI ((x + 1) % 14), putB mrow (17 * x) m 17) := by
  have key := loop_seq (fun fu (s : Nat → Int32) k => fX10_keepAct_2 m (nI a) (nI x) fu k s) (fun i => putB mrow (17 * x) m i) 17 (some (nI (if a = 14 then 14 else a + 1), nI ((x + 1) % 14), putB mrow (17 * x) m 17)) (fun fu => by
    simp (disch := omega) only [fX10_keepAct_2, gX10_keepAct_2, i_17, leS, Nat.le_refl, reduceIte, nI_1, jrem14]
    by_cases q : a = 14
    · rw [if_pos q, if_pos (by rw [q]; decide)]; rfl
    · rw [if_neg q, if_neg (by rw [i_14, leS (by omega) (by omega)]; omega)]) (fun fu i hi => by
    have e := putB_upd (dst := mrow) (src := m) (a := 17 * x) (i := i) rfl
    simp (disch := omega) only [fX10_keepAct_2, gX10_keepAct_2, i_17, leS, show ¬ 17 ≤ i by omega, pk_mul, nI_add, inb_t, cl_s, reduceIte, e, nI_1]) 17 0 FU (by omega) (by unfold FU; omega)
  simp only [putB_0] at key
  exact key
theorem up_at {α : Type} {f : Nat → α} {k : Nat} {v : α} : va_up f k v k = v := if_pos rfl
theorem up_ne {α : Type} {f : Nat → α} {k j : Nat} {v : α} (h : j ≠ k) : va_up f k v j = f j := if_neg h
theorem rem_32 {f a : Nat} (hf : f < 14) (ha : a < 14) (awh alf aco : Nat → Nat → Int32) (awi aho wh lf co : Nat → Int32) (wi ho : Int32) : fX0_remember_32 (nI f) (nI a) awh alf aco awi aho wh lf co wi ho = some (nI f, nI (a + 1), va_up awh ((f + a) % 14) (va_cpy wh (awh ((f + a) % 14)) (0 : Int32).toNatClampNeg (0 : Int32).toNatClampNeg (5 : Int32).toNatClampNeg), va_up alf ((f + a) % 14) (va_cpy lf (alf ((f + a) % 14)) (0 : Int32).toNatClampNeg (0 : Int32).toNatClampNeg (5 : Int32).toNatClampNeg), va_up aco ((f + a) % 14) (va_cpy co (aco ((f + a) % 14)) (0 : Int32).toNatClampNeg (0 : Int32).toNatClampNeg (5 : Int32).toNatClampNeg), va_up awi ((f + a) % 14) wi, va_up aho ((f + a) % 14) ho) := by
  unfold fX0_remember_32 fX0_remember_48 fX8_copyFrom
  rw [nI_add, jrem14 (by omega), inb_t (by omega) (by omega), if_pos rfl, obind, cl_s (by omega), i_1, nI_add]
/-- an act is remembered, on both sides -/
theorem sim_rem {n tb : Nat} (hn : n ≤ 5) {first size mac mnx wi ho : Int32} {awh alf aco : Nat → Nat → Int32} {awi aho mrow wh lf co m : Nat → Int32} (hA : ACT n tb first size awh alf aco awi aho mac mnx mrow) (hN : ROW n tb 0 wh lf co wi ho m) :
    ∃ b1 b2 b3 b4 b5 b6 b7 c1 c2 c3, fX0_remember first size awh alf aco awi aho wh lf co wi ho = some (b1, b2, b3, b4, b5, b6, b7) ∧ fX10_keepAct m mac mnx mrow = some (c1, c2, c3) ∧ ACT n tb b1 b2 b3 b4 b5 b6 b7 c1 c2 c3 := by
  obtain ⟨a, f, x, ha, hf, hx, rfl, rfl, rfl, rfl, hE⟩ := hA
  have hput : ∀ dst, ROW n tb x wh lf co wi ho (putB dst (17 * x) m 17) := fun dst => by
    have := hN.put (x := x) (dst := dst) hn
    simpa using this
  have hcpy : ∀ (g1 g2 g3 : Nat → Int32) r, ROW n tb x wh lf co wi ho r → ROW n tb x (va_cpy wh g1 (0 : Int32).toNatClampNeg (0 : Int32).toNatClampNeg (5 : Int32).toNatClampNeg) (va_cpy lf g2 (0 : Int32).toNatClampNeg (0 : Int32).toNatClampNeg (5 : Int32).toNatClampNeg) (va_cpy co g3 (0 : Int32).toNatClampNeg (0 : Int32).toNatClampNeg (5 : Int32).toNatClampNeg) wi ho r := fun g1 g2 g3 r h => h.to (fun j hj => (cpy_at (by omega)).symm) (fun j hj => (cpy_at (by omega)).symm) (fun j hj => (cpy_at (by omega)).symm)
  by_cases q : a = 14
  · subst q
    have hr : fX0_remember (nI f) (nI 14) awh alf aco awi aho wh lf co wi ho = fX0_remember_32 (nI ((f + 1) % 14)) (nI 13) awh alf aco awi aho wh lf co wi ho := by
      unfold fX0_remember
      rw [if_pos (show nI 14 = (14 : Int32) by decide), i_1, nI_add, jrem14 (by omega), show nI 14 - nI 1 = nI 13 from sub_s (by omega)]
    refine ⟨_, _, _, _, _, _, _, _, _, _, hr.trans (rem_32 (by omega) (by omega) _ _ _ _ _ _ _ _ _ _), keepAct_spec hx ha m mrow, 14, (f + 1) % 14, (x + 1) % 14, by omega, by omega, by omega, rfl, rfl, rfl, rfl, ?_⟩
    · intro j hj
      by_cases e : j = 13
      · subst e
        have i1 : ((f + 1) % 14 + 13) % 14 = f := by omega
        have i2 : ((x + 1) % 14 + 14 - 14 + 13) % 14 = x := by omega
        simp only [i1, i2, up_at]
        exact hcpy _ _ _ _ (hput mrow)
      · have i1 : ((f + 1) % 14 + j) % 14 = (f + (j + 1)) % 14 := by omega
        have i2 : ((x + 1) % 14 + 14 - 14 + j) % 14 = (x + 14 - 14 + (j + 1)) % 14 := by omega
        have i3 : (f + (j + 1)) % 14 ≠ ((f + 1) % 14 + 13) % 14 := by omega
        have i4 : (x + 14 - 14 + (j + 1)) % 14 ≠ x := by omega
        rw [i1, i2]
        simp only [up_ne i3]
        exact (hE (j + 1) (by omega)).keep hn i4
  · have hr : fX0_remember (nI f) (nI a) awh alf aco awi aho wh lf co wi ho = fX0_remember_32 (nI f) (nI a) awh alf aco awi aho wh lf co wi ho := by
      unfold fX0_remember
      rw [if_neg (by rw [i_14, eqS (by omega) (by omega)]; exact q)]
    refine ⟨_, _, _, _, _, _, _, _, _, _, hr.trans (rem_32 (by omega) (by omega) _ _ _ _ _ _ _ _ _ _), keepAct_spec hx ha m mrow, a + 1, f, (x + 1) % 14, by omega, by omega, by omega, rfl, by rw [if_neg q], rfl, rfl, ?_⟩
    · intro j hj
      by_cases e : j = a
      · subst e
        have i2 : ((x + 1) % 14 + 14 - (j + 1) + j) % 14 = x := by omega
        simp only [i2, up_at]
        exact hcpy _ _ _ _ (hput mrow)
      · have i2 : ((x + 1) % 14 + 14 - (a + 1) + j) % 14 = (x + 14 - a + j) % 14 := by omega
        have i3 : (f + j) % 14 ≠ (f + a) % 14 := by omega
        have i4 : (x + 14 - a + j) % 14 ≠ x := by omega
        rw [i2]
        simp only [up_ne i3]
        exact (hE j (by omega)).keep hn i4
