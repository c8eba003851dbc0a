/-! ===== PURE LAYER: the reader, part by part ===== -/
/-- what was read, on both sides -/
def RD (n : Nat) (hm : Nat → Nat) (pco pcl phr pho mrd mrh : Nat → Int32) : Prop := n ≤ 5 ∧ (∀ i, i < n → mrd (3 * i) = pco i ∧ mrd (3 * i + 1) = pcl i ∧ mrd (3 * i + 2) = phr i) ∧ CL n pcl ∧ HOS n pho hm ∧ ∀ i, i < 5 → mrh i = nI (hm i) ∧ hm i < 32 ∧ (n ≤ i → hm i = 0)
theorem RD.flag {n k : Nat} {hm : Nat → Nat} {pco pcl phr pho mrd mrh : Nat → Int32} (h : RD n hm pco pcl phr pho mrd mrh) (hn : n < 5) (hk : k < 4) (x z : Int32) : RD (n + 1) hm (upd pco n x) (upd pcl n (nI k)) (upd phr n z) (upd pho n 0) (upd (upd (upd mrd (3 * n) x) (3 * n + 1) (nI k)) (3 * n + 2) z) mrh := by
  obtain ⟨h1, h2, h3, ⟨h4, h5, h6⟩, h7⟩ := h
  have hz := (h7 n hn).2.2 (Nat.le_refl n)
  have hp : 2 ^ n < 2 ^ (n + 1) := Nat.pow_lt_pow_right (by decide) (by omega)
  refine ⟨by omega, fun i hi => ?_, fun i hi => ?_, ⟨fun i hi => ?_, fun i j hi hj => ?_, fun i hi => ?_⟩, fun i hi => ⟨(h7 i hi).1, (h7 i hi).2.1, fun hni => (h7 i hi).2.2 (by omega)⟩⟩
  · simp only [updI]
    by_cases e : i = n
    · subst e
      refine ⟨?_, ?_, ?_⟩
      · rw [if_neg (by omega), if_neg (by omega), if_pos rfl, if_pos rfl]
      · rw [if_neg (by omega), if_pos rfl, if_pos rfl]
      · rw [if_pos rfl, if_pos rfl]
    · obtain ⟨q1, q2, q3⟩ := h2 i (by omega)
      refine ⟨?_, ?_, ?_⟩
      · rw [if_neg (by omega), if_neg (by omega), if_neg (by omega), if_neg e]; exact q1
      · rw [if_neg (by omega), if_neg (by omega), if_neg (by omega), if_neg e]; exact q2
      · rw [if_neg (by omega), if_neg (by omega), if_neg (by omega), if_neg e]; exact q3
  · rw [updI]
    by_cases e : i = n
    · rw [if_pos e]; exact ⟨k, hk, rfl⟩
    · rw [if_neg e]; exact h3 i (by omega)
  · rw [updI]
    by_cases e : i = n
    · rw [if_pos e, e, hz]; exact ⟨rfl, by omega⟩
    · rw [if_neg e]; have := h4 i (by omega); exact ⟨this.1, by omega⟩
  · have z0 : ∀ j, bt (hm n) j = 0 := fun j => by rw [hz]; simp [bt]
    by_cases e : i = n
    · subst e
      rw [z0]
      by_cases e2 : j = i
      · subst e2; rw [z0]
      · rw [bt_big (h4 j (by omega)).2 (Nat.le_refl _)]
    · by_cases e2 : j = n
      · subst e2; rw [z0, bt_big (h4 i (by omega)).2 (Nat.le_refl _)]
      · exact h5 i j (by omega) (by omega)
  · by_cases e : i = n
    · subst e; rw [hz]; simp [bt]
    · exact h6 i (by omega)
theorem bt_or_pow {a j l : Nat} : bt (a ||| 2 ^ j) l = if l = j then 1 else bt a l := by
  rw [bt_tb, bt_tb, Nat.testBit_or, Nat.testBit_two_pow]
  by_cases h : l = j
  · subst h; simp
  · rw [if_neg h]; simp [show ¬ j = l from fun e => h e.symm]
def hmH (hm : Nat → Nat) (i j k : Nat) : Nat := if k = i then hm i ||| 2 ^ j else if k = j then hm j ||| 2 ^ i else hm k
theorem hmH_bt {hm : Nat → Nat} {i j : Nat} (hne : i ≠ j) (k l : Nat) : bt (hmH hm i j k) l = if (k = i ∧ l = j) ∨ (k = j ∧ l = i) then 1 else bt (hm k) l := by
  unfold hmH
  by_cases e1 : k = i
  · subst e1
    rw [if_pos rfl, bt_or_pow]
    by_cases e2 : l = j
    · rw [if_pos e2, if_pos (Or.inl ⟨rfl, e2⟩)]
    · rw [if_neg e2, if_neg (by omega)]
  · rw [if_neg e1]
    by_cases e2 : k = j
    · subst e2
      rw [if_pos rfl, bt_or_pow]
      by_cases e3 : l = i
      · rw [if_pos e3, if_pos (Or.inr ⟨rfl, e3⟩)]
      · rw [if_neg e3, if_neg (by omega)]
    · rw [if_neg e2, if_neg (by omega)]
theorem hmH_row {hm : Nat → Nat} {i j : Nat} (hne : i ≠ j) {p : Nat → Int32} (hi : p i = nI (hm i)) (hj : p j = nI (hm j)) {k : Nat} (hk : p k = nI (hm k)) : upd (upd p i (p i ||| nI (2 ^ j))) j (upd p i (p i ||| nI (2 ^ j)) j ||| nI (2 ^ i)) k = nI (hmH hm i j k) := by
  unfold hmH
  simp only [updI]
  by_cases e2 : k = j
  · subst e2
    rw [if_pos rfl, if_neg (fun z => hne z.symm), if_neg (fun z => hne z.symm), if_pos rfl, hj, or_s]
  · rw [if_neg e2]
    by_cases e1 : k = i
    · subst e1
      rw [if_pos rfl, if_pos rfl, hi, or_s]
    · rw [if_neg e1, if_neg e1, if_neg e2, hk]
theorem hmH_lt {n i j : Nat} {hm : Nat → Nat} (hi : i < n) (hj : j < n) (k : Nat) (hk : hm k < 2 ^ n) (h1 : hm i < 2 ^ n) (h2 : hm j < 2 ^ n) : hmH hm i j k < 2 ^ n := by
  have p1 : 2 ^ i < 2 ^ n := Nat.pow_lt_pow_right (by decide) hi
  have p2 : 2 ^ j < 2 ^ n := Nat.pow_lt_pow_right (by decide) hj
  unfold hmH
  split
  · exact Nat.or_lt_two_pow h1 p2
  · split
    · exact Nat.or_lt_two_pow h2 p1
    · exact hk
theorem RD.host {n i j : Nat} {hm : Nat → Nat} {pco pcl phr pho mrd mrh : Nat → Int32} (h : RD n hm pco pcl phr pho mrd mrh) (hi : i < n) (hj : j < n) (hne : i ≠ j) : RD n (hmH hm i j) pco pcl phr (upd (upd pho i (pho i ||| nI (2 ^ j))) j (upd pho i (pho i ||| nI (2 ^ j)) j ||| nI (2 ^ i))) mrd (upd (upd mrh i (mrh i ||| nI (2 ^ j))) j (upd mrh i (mrh i ||| nI (2 ^ j)) j ||| nI (2 ^ i))) := by
  obtain ⟨h1, h2, h3, ⟨h4, h5, h6⟩, h7⟩ := h
  have l1 := (h4 i hi).2
  have l2 := (h4 j hj).2
  refine ⟨h1, h2, h3, ⟨fun k hk => ⟨hmH_row hne (h4 i hi).1 (h4 j hj).1 (h4 k hk).1, hmH_lt hi hj k (h4 k hk).2 l1 l2⟩, fun k l hk hl => ?_, fun k hk => ?_⟩, fun k hk => ⟨hmH_row hne (h7 i (by omega)).1 (h7 j (by omega)).1 (h7 k hk).1, ?_, fun hnk => ?_⟩⟩
  · rw [hmH_bt hne, hmH_bt hne, h5 k l hk hl]
    by_cases q : (k = i ∧ l = j) ∨ (k = j ∧ l = i)
    · rw [if_pos q, if_pos (by omega)]
    · rw [if_neg q, if_neg (by omega)]
  · rw [hmH_bt hne, if_neg (by omega)]; exact h6 k hk
  · exact hmH_lt (n := 5) (by omega) (by omega) k (h7 k hk).2.1 (h7 i (by omega)).2.1 (h7 j (by omega)).2.1
  · unfold hmH
    rw [if_neg (by omega), if_neg (by omega)]
    exact (h7 k hk).2.2 hnk
theorem x31 : ∀ i, i < 5 → bt (31 ^^^ 2 ^ i) i = 0 := by decide +kernel
theorem leftN_bt {n i j : Nat} {hm : Nat → Nat} (hi : i < 5) (h : bt (leftN n hm i) j = 1) : j < n ∧ i ≠ j := by
  constructor
  · apply Decidable.byContradiction
    intro q
    rw [bt_big (leftN_lt hm i) (by omega)] at h
    omega
  · intro e
    subst e
    unfold leftN at h
    rw [bt_and, x31 i hi, Nat.mul_zero] at h
    omega
abbrev C13 := Option (Int32 × Int32 × Int32 × Int32 × Int32 × Int32 × Int32 × Int32 × Int32 × (Nat → Int32) × (Nat → Int32) × (Nat → Int32) × (Nat → Int32))
abbrev R6 := Option (Int32 × (Nat → Int32) × (Nat → Int32) × Int32 × Int32 × Int32)
/-- both readers end alike -/
def RDP (tubs pegs pwi : Int32) (C : C13) (R : R6) : Prop := (∃ q, q ≤ 48 ∧ C.map (fun u => u.1) = some (nI q) ∧ R.map (fun u => u.1) = some (nI q)) ∨ (∃ n' hm' rco' rcl' ron' pco' pcl' phr' pho' mrd' mrh' mat', C = some (-9, 4, rco', rcl', ron', tubs, pegs, pwi, nI n', pco', pcl', phr', pho') ∧ R = some (-9, mrd', mrh', nI n', mat', -9) ∧ RD n' hm' pco' pcl' phr' pho' mrd' mrh')
theorem rt_bad {fu q : Nat} {mtx mrd mrh : Nat → Int32} {mlen mrf mat : Int32} (hq : q < 2147483648) : (fX10_readText_88 mtx mlen (fu + 1) mrd mrh mrf mat (nI q)).map (fun u => u.1) = some (nI q) := by
  show (gX10_readText_88 _ _ _ _ _ _ _ _).map _ = _
  unfold gX10_readText_88
  rw [if_neg (nI_9 hq)]
  rfl
theorem rt_end {fu len : Nat} {mtx mrd mrh : Nat → Int32} {mrf : Int32} (hl : len ≤ 48) : fX10_readText_88 mtx (nI len) (fu + 1) mrd mrh mrf (nI len) (-9) = some (-9, mrd, mrh, mrf, nI len, -9) := by
  show gX10_readText_88 _ _ _ _ _ _ _ _ = _
  unfold gX10_readText_88
  rw [if_pos (show (-9 : Int32) = -9 from rfl), if_pos (by rw [leS (by omega) (by omega)]; omega)]
theorem rt_step {fu len a : Nat} {mtx mrd mrh : Nat → Int32} {mrf : Int32} (hl : len ≤ 48) (ha : a < len) : fX10_readText_88 mtx (nI len) (fu + 1) mrd mrh mrf (nI a) (-9) = (fX10_readPart (mtx a) mrd mrh mrf mtx (nI len) (nI a) (-9)).bind fun u11 => fX10_readText_88 mtx (nI len) fu u11.1 u11.2.1 u11.2.2.1 u11.2.2.2.1 u11.2.2.2.2 := by
  show gX10_readText_88 _ _ _ _ _ _ _ _ = _
  unfold gX10_readText_88
  rw [if_pos (show (-9 : Int32) = -9 from rfl), if_neg (by rw [leS (by omega) (by omega)]; omega), inb_t (by omega) (by omega), if_pos rfl, cl_s (by omega)]
theorem rt_stepN {fu len a q : Nat} {mtx mrd mrh : Nat → Int32} {mrf : Int32} (hl : len ≤ 48) (ha : a < len) (hq : q < 2147483648) (h : ∃ A B C D, fX10_readPart (mtx a) mrd mrh mrf mtx (nI len) (nI a) (-9) = some (A, B, C, D, nI q)) : (fX10_readText_88 mtx (nI len) (fu + 1 + 1) mrd mrh mrf (nI a) (-9)).map (fun u => u.1) = some (nI q) := by
  obtain ⟨A, B, C, D, h⟩ := h
  rw [rt_step hl ha, h, obind]
  exact rt_bad hq
