/-! ===== PURE LAYER: the reader, letter by letter ===== -/
theorem i_7 : (7 : Int32) = nI 7 := rfl
theorem i_30 : (30 : Int32) = nI 30 := rfl
theorem i_97 : (97 : Int32) = nI 97 := rfl
theorem i_65535 : (65535 : Int32) = nI 65535 := rfl
theorem nI_9 {q : Nat} (h : q < 2147483648) : ¬ nI q = -9 := fun z => by
  have e := congrArg Int32.toInt z
  rw [nI_toInt (by omega), show (-9 : Int32).toInt = -9 by decide] at e
  omega
/-- a letter is taken: as a figure that is allowed -/
def TK (M : Nat) (v : Int32) : Prop := 0 ≤ v.toInt ∧ v.toInt ≤ 15 ∧ bt M v.toInt.toNat = 1
theorem tk_rng {M lo hi : Nat} (hd : ∀ k, k < 16 → (bt M k = 1 ↔ lo ≤ k ∧ k ≤ hi)) (hh : hi ≤ 15) (v : Int32) : TK M v ↔ (lo : Int) ≤ v.toInt ∧ v.toInt ≤ (hi : Int) := by
  unfold TK
  constructor
  · intro ⟨h1, h2, h3⟩
    have := (hd v.toInt.toNat (by omega)).mp h3
    omega
  · intro ⟨h1, h2⟩
    have h3 := (hd v.toInt.toNat (by omega)).mpr (by omega)
    exact ⟨by omega, by omega, h3⟩
theorem tk14 (v : Int32) : TK 14 v ↔ 1 ≤ v.toInt ∧ v.toInt ≤ 3 := tk_rng (lo := 1) (hi := 3) (by decide +kernel) (by decide) v
theorem tk30 (v : Int32) : TK 30 v ↔ 1 ≤ v.toInt ∧ v.toInt ≤ 4 := tk_rng (lo := 1) (hi := 4) (by decide +kernel) (by decide) v
theorem tk7 (v : Int32) : TK 7 v ↔ 0 ≤ v.toInt ∧ v.toInt ≤ 2 := tk_rng (lo := 0) (hi := 2) (by decide +kernel) (by decide) v
theorem tk15 (v : Int32) : TK 15 v ↔ 0 ≤ v.toInt ∧ v.toInt ≤ 3 := tk_rng (lo := 0) (hi := 3) (by decide +kernel) (by decide) v
theorem tkAll (v : Int32) : TK 65535 v ↔ 0 ≤ v.toInt ∧ v.toInt ≤ 15 := tk_rng (lo := 0) (hi := 15) (by decide +kernel) (by decide) v
theorem tk_ex {M : Nat} {v : Int32} (h : TK M v) : ∃ k, k ≤ 15 ∧ v = nI k ∧ bt M k = 1 := by
  obtain ⟨k, hk, rfl⟩ := (rng_cases v 15 (by omega)).resolve_right (fun z => z ⟨h.1, h.2.1⟩)
  have e := nI_toInt (n := k) (by omega)
  have h3 := h.2.2
  rw [e, Int.toNat_natCast] at h3
  exact ⟨k, hk, rfl, h3⟩
theorem tk_of {M k : Nat} (hk : k ≤ 15) (h : bt M k = 1) : TK M (nI k) := by
  have e := nI_toInt (n := k) (by omega)
  exact ⟨by omega, by omega, by rw [e, Int.toNat_natCast]; exact h⟩
theorem take_36 {M a : Nat} (hM : M < 65536) (v : Int32) : (TK M v → fX10_takeOf_36 (nI M) v (nI a) (-9) = some (v, nI (a + 1), -9)) ∧ (¬ TK M v → fX10_takeOf_36 (nI M) v (nI a) (-9) = some (nI 0, nI a, nI a)) := by
  unfold fX10_takeOf_36 fX10_takeOf_57
  rw [inS v 0 15 0 15 rfl rfl, obind]
  rcases rng_cases v 15 (by omega) with ⟨k, hk, rfl⟩ | h
  · have e := nI_toInt (n := k) (by omega)
    rw [hasr_big (show M < 2147483648 by omega) (show k < 32 by omega), obind, if_pos (show decide (0 ≤ (nI k).toInt ∧ (nI k).toInt ≤ 15) = true from decide_eq_true (by omega)), nI_1]
    constructor
    · intro ⟨_, _, h3⟩
      rw [e, Int.toNat_natCast] at h3
      rw [if_pos (show decide (bt M k = 1) = true from decide_eq_true h3)]
    · intro h
      rw [if_neg (show ¬ decide (bt M k = 1) = true from fun z => h (tk_of hk (of_decide_eq_true z))), if_pos (show (-9 : Int32) = -9 from rfl)]
      rfl
  · rw [if_neg (show ¬ decide (0 ≤ v.toInt ∧ v.toInt ≤ 15) = true from fun z => h (of_decide_eq_true z)), if_pos (show (-9 : Int32) = -9 from rfl)]
    exact ⟨fun z => absurd ⟨z.1, z.2.1⟩ h, fun _ => rfl⟩
theorem take_y {M a len : Nat} {x : Int32} (hM : M < 65536) (hl : len ≤ 48) (h : a < len) {mtx : Nat → Int32} (hk : TK M (mtx a - x)) : fX10_takeOf x (nI M) mtx (nI len) (nI a) (-9) = some (mtx a - x, nI (a + 1), -9) := by
  unfold fX10_takeOf
  rw [if_pos (show (-9 : Int32) = -9 from rfl), if_neg (show ¬ nI len ≤ nI a by rw [leS (by omega) (by omega)]; omega), inb_t (by omega) (by omega), if_pos rfl, cl_s (by omega)]
  exact (take_36 hM _).1 hk
theorem take_n {M a len : Nat} {x : Int32} (hM : M < 65536) (hl : len ≤ 48) (ha : a ≤ len) {mtx : Nat → Int32} (hk : ¬ (a < len ∧ TK M (mtx a - x))) : fX10_takeOf x (nI M) mtx (nI len) (nI a) (-9) = some (nI 0, nI a, nI a) := by
  unfold fX10_takeOf
  rw [if_pos (show (-9 : Int32) = -9 from rfl)]
  by_cases q : a < len
  · rw [if_neg (show ¬ nI len ≤ nI a by rw [leS (by omega) (by omega)]; omega), inb_t (by omega) (by omega), if_pos rfl, cl_s (by omega)]
    exact (take_36 hM _).2 (fun z => hk ⟨q, z⟩)
  · rw [if_pos (show nI len ≤ nI a by rw [leS (by omega) (by omega)]; omega)]
    exact (take_36 hM (-9)).2 (fun z => absurd z.1 (by decide))
theorem take_b {x M mlen mat : Int32} {mtx : Nat → Int32} {q : Nat} (hq : q < 2147483648) : fX10_takeOf x M mtx mlen mat (nI q) = some (nI 0, mat, nI q) := by
  have e := nI_9 hq
  unfold fX10_takeOf fX10_takeOf_34 fX10_takeOf_36 fX10_takeOf_57
  rw [if_neg e, inS (-9) 0 15 0 15 rfl rfl, obind, if_neg (show ¬ decide (0 ≤ (-9 : Int32).toInt ∧ (-9 : Int32).toInt ≤ 15) = true by decide), if_neg e]
  rfl
/-- to whom one may still be hostile -/
def leftN (n : Nat) (hm : Nat → Nat) (i : Nat) : Nat := ((2 ^ n - 1) &&& (31 ^^^ hm i)) &&& (31 ^^^ 2 ^ i)
theorem leftN_lt {n : Nat} (hm : Nat → Nat) (i : Nat) : leftN n hm i < 2 ^ n := by
  have h1 : leftN n hm i ≤ 2 ^ n - 1 := Nat.le_trans Nat.and_le_left Nat.and_le_left
  have := Nat.two_pow_pos n
  omega
theorem left_r {n i h : Nat} (hn : n ≤ 5) (hi : i < 5) {mrh : Nat → Int32} (he : mrh i = nI h) (hh : h < 32) : fX10_left (nI i) mrh (nI n) = some (nI (((2 ^ n - 1) &&& (31 ^^^ h)) &&& (31 ^^^ 2 ^ i))) := by
  have h3 := two5 hn
  have h1 : 1 ≤ 2 ^ n := Nat.one_le_two_pow
  have h2 := two_lt hi (Nat.le_refl 5)
  have hA : (2 ^ n - 1) &&& (31 ^^^ h) < 32 := Nat.lt_of_le_of_lt Nat.and_le_left (by omega)
  unfold fX10_left
  rw [inb_t (by omega) (by omega), if_pos rfl, cl_s (by omega), he, shl_1 (by omega), shl_1 (by omega), show nI (2 ^ n) - (1 : Int32) = nI (2 ^ n - 1) from sub_s h1, without _ (by omega) _ hh, without _ hA _ h2]
theorem notYet_c {n i : Nat} (hn : n ≤ 5) (hi : i < n) {pho : Nat → Int32} {hm : Nat → Nat} (h : HOS n pho hm) : fX4_notYetHostile (nI i) (nI n) pho = some (nI (leftN n hm i)) := by
  have h3 := two5 hn
  have h2 := two_lt hi hn
  have hA : (2 ^ n - 1) &&& (31 ^^^ 2 ^ i) < 32 := Nat.lt_of_le_of_lt Nat.and_le_left (by omega)
  unfold fX4_notYetHostile
  rw [has_spec hn, obind, hasB_nI hi hn, if_pos rfl, allBits_spec n hn, obind, inb_t (by omega) (by omega), if_pos rfl, cl_s (by omega), (h.1 i hi).1, shl_1 (by omega), without _ (by omega) _ h2, without _ hA _ (hm32 hn h hi)]
  unfold leftN
  rw [Nat.and_assoc, Nat.and_comm (31 ^^^ 2 ^ i), ← Nat.and_assoc]
theorem notYet_n {n : Nat} (hn : n ≤ 5) {x : Int32} (hx : hasB n x = false) (pho : Nat → Int32) : fX4_notYetHostile x (nI n) pho = some 0 := by
  unfold fX4_notYetHostile
  rw [has_spec hn, obind, hx, if_neg (by decide)]
def firstsN (n : Nat) (hm : Nat → Nat) : Nat := bitsN (fun i => decide (leftN n hm i ≠ 0)) n
theorem any_c {n : Nat} (hn : n ≤ 5) {pho : Nat → Int32} {hm : Nat → Nat} (h : HOS n pho hm) : ∀ (k i fu : Nat), i + k = n → k < fu → bitsN (fun i => decide (leftN n hm i ≠ 0)) i = 0 → fX4_anyNotYetHostile_2 (nI n) pho fu (nI i) = some (decide (firstsN n hm ≠ 0))
  | 0, i, 0, _, h, _ => absurd h (Nat.lt_irrefl 0)
  | 0, i, fu + 1, hi, _, hz => by
    have e : i = n := by omega
    subst e
    show gX4_anyNotYetHostile_2 _ _ _ _ = _
    unfold gX4_anyNotYetHostile_2 firstsN
    rw [if_pos (by rw [leS (by omega) (by omega)]; omega), hz]
    rfl
  | k + 1, i, 0, _, h, _ => absurd h (Nat.not_lt_zero _)
  | k + 1, i, fu + 1, hi, hf, hz => by
    have hl := leftN_lt (n := n) hm i
    have h3 := two5 hn
    show gX4_anyNotYetHostile_2 _ _ _ _ = _
    unfold gX4_anyNotYetHostile_2
    rw [if_neg (by rw [leS (by omega) (by omega)]; omega), notYet_c hn (by omega) h, obind]
    by_cases q : leftN n hm i = 0
    · rw [q, if_pos nI_0, nI_1]
      refine any_c hn h k (i + 1) fu (by omega) (by omega) ?_
      rw [bitsN_succ, hz, if_neg (by simp [q])]
    · rw [if_neg (nI_ne0 (by omega) (by omega))]
      have hb : bt (firstsN n hm) i = 1 := by
        unfold firstsN
        rw [bt_bits _ (show i < n by omega)]
        simp [q]
      have hne : firstsN n hm ≠ 0 := fun z => by rw [z] at hb; simp [bt] at hb
      rw [decide_eq_true hne]
theorem firsts_r {n : Nat} (hn : n ≤ 5) {mrh : Nat → Int32} {hm : Nat → Nat} (h : ∀ i, i < n → mrh i = nI (hm i) ∧ hm i < 32) : fX10_firstsLeft mrh (nI n) = some (nI (firstsN n hm)) := by
  refine loop_seq (fun fu (s : Int32) x => fX10_firstsLeft_4 mrh (nI n) fu s x) (fun i => nI (bitsN (fun i => decide (leftN n hm i ≠ 0)) i)) n (some (nI (firstsN n hm))) (fun fu => ?_) (fun fu i hi => ?_) n 0 FU (by omega) (by unfold FU; omega)
  · simp (disch := omega) only [fX10_firstsLeft_4, gX10_firstsLeft_4, leS, Nat.le_refl, reduceIte]
    rfl
  · have hl := leftN_lt (n := n) hm i
    have h3 := two5 hn
    have el : fX10_left (nI i) mrh (nI n) = some (nI (leftN n hm i)) := left_r hn (by omega) (h i hi).1 (h i hi).2
    show gX10_firstsLeft_4 _ _ _ _ _ = _
    unfold gX10_firstsLeft_4 fX10_firstsLeft_28
    rw [if_neg (by rw [leS (by omega) (by omega)]; omega), el, obind, nI_1, shl_1 (by omega)]
    by_cases q : leftN n hm i = 0
    · rw [q, if_pos nI_0, Int32.or_zero, bitsN_succ, if_neg (by simp [q])]; rfl
    · rw [if_neg (nI_ne0 (by omega) (by omega)), or_bits, bitsN_succ, if_pos (by simp [q])]
theorem firstsN_bt {n k : Nat} {hm : Nat → Nat} : bt (firstsN n hm) k = 1 ↔ k < n ∧ leftN n hm k ≠ 0 := by
  unfold firstsN bt
  rw [bitsN_bit]
  by_cases h : k < n ∧ leftN n hm k ≠ 0
  · rw [if_pos ⟨h.1, decide_eq_true h.2⟩]; exact ⟨fun _ => h, fun _ => rfl⟩
  · rw [if_neg (fun z => h ⟨z.1, of_decide_eq_true z.2⟩)]; exact ⟨fun z => absurd z (by omega), fun z => absurd z h⟩
section FF
variable {len a fu : Nat} {letters : Nat → Int32} {c st rco rcl ron tubs pegs pwi flags st' rco' rcl' ron' tubs' pegs' pwi' flags' : Int32} {pco pcl phr pho pco' pcl' phr' pho' : Nat → Int32}
theorem ff_go (hl : len ≤ 48) (h : a < len) (ht : fX5_takes (letters a) st rco rcl ron tubs pegs pwi flags pco pcl phr pho = some (true, st', rco', rcl', ron', tubs', pegs', pwi', flags', pco', pcl', phr', pho')) : fX5_firstFault_15 (nI len) letters (fu + 1) (nI a) st rco rcl ron tubs pegs pwi flags pco pcl phr pho = fX5_firstFault_15 (nI len) letters fu (nI (a + 1)) st' rco' rcl' ron' tubs' pegs' pwi' flags' pco' pcl' phr' pho' := by
  show gX5_firstFault_15 _ _ _ _ _ _ _ _ _ _ _ _ _ _ _ _ = _
  unfold gX5_firstFault_15
  rw [if_neg (by rw [leS (by omega) (by omega)]; omega), if_neg (by rw [i_48, leS (by omega) (by omega)]; omega), inb_t (by omega) (by omega), if_pos rfl, cl_s (by omega), ht, obind, nI_1]
  rfl
theorem ff_no (hl : len ≤ 48) (ha : a ≤ len) (hst : ¬ st = 4) (ht : a < len → (fX5_takes (letters a) st rco rcl ron tubs pegs pwi flags pco pcl phr pho).map (fun u => u.1) = some false) : (fX5_firstFault_15 (nI len) letters (fu + 1) (nI a) st rco rcl ron tubs pegs pwi flags pco pcl phr pho).map (fun u => u.1) = some (nI a) := by
  show (gX5_firstFault_15 _ _ _ _ _ _ _ _ _ _ _ _ _ _ _ _).map _ = _
  unfold gX5_firstFault_15 fX5_firstFault_44
  by_cases q : a < len
  · obtain ⟨u, hu1, hu2⟩ := Option.map_eq_some_iff.mp (ht q)
    rw [if_neg (by rw [leS (by omega) (by omega)]; omega), if_neg (by rw [i_48, leS (by omega) (by omega)]; omega), inb_t (by omega) (by omega), if_pos rfl, cl_s (by omega), hu1, obind, if_neg (by rw [hu2]; decide)]
    rfl
  · have e : a = len := by omega
    subst e
    rw [if_pos (by rw [leS (by omega) (by omega)]; omega), if_neg hst]
    rfl
theorem ff_no4 (hl : len ≤ 48) (ha : a < len) (ht : (fX5_takes (letters a) st rco rcl ron tubs pegs pwi flags pco pcl phr pho).map (fun u => u.1) = some false) : (fX5_firstFault_15 (nI len) letters (fu + 1) (nI a) st rco rcl ron tubs pegs pwi flags pco pcl phr pho).map (fun u => u.1) = some (nI a) := by
  show (gX5_firstFault_15 _ _ _ _ _ _ _ _ _ _ _ _ _ _ _ _).map _ = _
  unfold gX5_firstFault_15
  obtain ⟨u, hu1, hu2⟩ := Option.map_eq_some_iff.mp ht
  rw [if_neg (by rw [leS (by omega) (by omega)]; omega), if_neg (by rw [i_48, leS (by omega) (by omega)]; omega), inb_t (by omega) (by omega), if_pos rfl, cl_s (by omega), hu1, obind, if_neg (by rw [hu2]; decide)]
  rfl
theorem ff_end (hl : len ≤ 48) : fX5_firstFault_15 (nI len) letters (fu + 1) (nI len) 4 rco rcl ron tubs pegs pwi flags pco pcl phr pho = some (-9, 4, rco, rcl, ron, tubs, pegs, pwi, flags, pco, pcl, phr, pho) := by
  show gX5_firstFault_15 _ _ _ _ _ _ _ _ _ _ _ _ _ _ _ _ = _
  unfold gX5_firstFault_15 fX5_firstFault_44
  rw [if_pos (by rw [leS (by omega) (by omega)]; omega), if_pos rfl]
theorem tk0_y (h : c = 85) : fX5_takes c 0 rco rcl ron tubs pegs pwi flags pco pcl phr pho = some (true, 1, rco, rcl, ron, tubs, pegs, pwi, flags, pco, pcl, phr, pho) := by
  unfold fX5_takes fX5_takesOfHead
  rw [if_neg (by decide), if_neg (by decide), if_neg (by decide), if_neg (by decide), if_neg (by decide), if_neg (by decide), if_pos rfl, if_pos h]
  rfl
theorem tk0_n (h : ¬ c = 85) : (fX5_takes c 0 rco rcl ron tubs pegs pwi flags pco pcl phr pho).map (fun u => u.1) = some false := by
  unfold fX5_takes fX5_takesOfHead
  rw [if_neg (by decide), if_neg (by decide), if_neg (by decide), if_neg (by decide), if_neg (by decide), if_neg (by decide), if_pos rfl, if_neg h]
  rfl
theorem tk1_y (h : TK 14 (c - 48)) : fX5_takes c 1 rco rcl ron tubs pegs pwi flags pco pcl phr pho = some (true, 2, rco, rcl, ron, c - 48, pegs, pwi, flags, pco, pcl, phr, pho) := by
  rw [tk14] at h
  have e1 : ((c - 48) < 1) = ((c - 48).toInt < 1) := propext Int32.lt_iff_toInt_lt
  have e2 : (3 < (c - 48)) = (3 < (c - 48).toInt) := propext Int32.lt_iff_toInt_lt
  unfold fX5_takes fX5_takesOfHead
  rw [if_neg (by decide), if_neg (by decide), if_neg (by decide), if_neg (by decide), if_neg (by decide), if_neg (by decide), if_neg (by decide), if_pos rfl, if_neg (by rw [e1]; omega), if_neg (by rw [e2]; omega)]
  rfl
theorem tk1_n (h : ¬ TK 14 (c - 48)) : (fX5_takes c 1 rco rcl ron tubs pegs pwi flags pco pcl phr pho).map (fun u => u.1) = some false := by
  rw [tk14] at h
  have e1 : ((c - 48) < 1) = ((c - 48).toInt < 1) := propext Int32.lt_iff_toInt_lt
  have e2 : (3 < (c - 48)) = (3 < (c - 48).toInt) := propext Int32.lt_iff_toInt_lt
  unfold fX5_takes fX5_takesOfHead
  rw [if_neg (by decide), if_neg (by decide), if_neg (by decide), if_neg (by decide), if_neg (by decide), if_neg (by decide), if_neg (by decide), if_pos rfl]
  by_cases z : (c - 48).toInt < 1
  · rw [if_pos (by rw [e1]; exact z)]; rfl
  · rw [if_neg (by rw [e1]; exact z), if_pos (by rw [e2]; omega)]; rfl
theorem tk2_y (h : TK 30 (c - 48)) : fX5_takes c 2 rco rcl ron tubs pegs pwi flags pco pcl phr pho = some (true, 3, rco, rcl, ron, tubs, c - 48, pwi, flags, pco, pcl, phr, pho) := by
  rw [tk30] at h
  have e1 : ((c - 48) < 1) = ((c - 48).toInt < 1) := propext Int32.lt_iff_toInt_lt
  have e2 : (4 < (c - 48)) = (4 < (c - 48).toInt) := propext Int32.lt_iff_toInt_lt
  unfold fX5_takes fX5_takesOfHead
  rw [if_neg (by decide), if_neg (by decide), if_neg (by decide), if_neg (by decide), if_neg (by decide), if_neg (by decide), if_neg (by decide), if_neg (by decide), if_pos rfl, if_neg (by rw [e1]; omega), if_neg (by rw [e2]; omega)]
  rfl
theorem tk2_n (h : ¬ TK 30 (c - 48)) : (fX5_takes c 2 rco rcl ron tubs pegs pwi flags pco pcl phr pho).map (fun u => u.1) = some false := by
  rw [tk30] at h
  have e1 : ((c - 48) < 1) = ((c - 48).toInt < 1) := propext Int32.lt_iff_toInt_lt
  have e2 : (4 < (c - 48)) = (4 < (c - 48).toInt) := propext Int32.lt_iff_toInt_lt
  unfold fX5_takes fX5_takesOfHead
  rw [if_neg (by decide), if_neg (by decide), if_neg (by decide), if_neg (by decide), if_neg (by decide), if_neg (by decide), if_neg (by decide), if_neg (by decide), if_pos rfl]
  by_cases z : (c - 48).toInt < 1
  · rw [if_pos (by rw [e1]; exact z)]; rfl
  · rw [if_neg (by rw [e1]; exact z), if_pos (by rw [e2]; omega)]; rfl
theorem tk3_y (h : TK 7 (c - 48)) : fX5_takes c 3 rco rcl ron tubs pegs pwi flags pco pcl phr pho = some (true, 4, rco, rcl, ron, tubs, pegs, c - 48, flags, pco, pcl, phr, pho) := by
  rw [tk7] at h
  have e1 : ((c - 48) < 0) = ((c - 48).toInt < 0) := propext Int32.lt_iff_toInt_lt
  have e2 : (2 < (c - 48)) = (2 < (c - 48).toInt) := propext Int32.lt_iff_toInt_lt
  unfold fX5_takes fX5_takesOfHead
  rw [if_neg (by decide), if_neg (by decide), if_neg (by decide), if_neg (by decide), if_neg (by decide), if_neg (by decide), if_neg (by decide), if_neg (by decide), if_neg (by decide), if_neg (by rw [e1]; omega), if_neg (by rw [e2]; omega)]
  rfl
theorem tk3_n (h : ¬ TK 7 (c - 48)) : (fX5_takes c 3 rco rcl ron tubs pegs pwi flags pco pcl phr pho).map (fun u => u.1) = some false := by
  rw [tk7] at h
  have e1 : ((c - 48) < 0) = ((c - 48).toInt < 0) := propext Int32.lt_iff_toInt_lt
  have e2 : (2 < (c - 48)) = (2 < (c - 48).toInt) := propext Int32.lt_iff_toInt_lt
  unfold fX5_takes fX5_takesOfHead
  rw [if_neg (by decide), if_neg (by decide), if_neg (by decide), if_neg (by decide), if_neg (by decide), if_neg (by decide), if_neg (by decide), if_neg (by decide), if_neg (by decide)]
  by_cases z : (c - 48).toInt < 0
  · rw [if_pos (by rw [e1]; exact z)]; rfl
  · rw [if_neg (by rw [e1]; exact z), if_pos (by rw [e2]; omega)]; rfl
theorem tk5_y (h : TK 65535 (c - 97)) : fX5_takes c 5 rco rcl ron tubs pegs pwi flags pco pcl phr pho = some (true, 6, c - 97, rcl, ron, tubs, pegs, pwi, flags, pco, pcl, phr, pho) := by
  rw [tkAll] at h
  unfold fX5_takes fX5_takes_50 fX5_takesOfFlag
  rw [if_neg (by decide), if_pos rfl, if_pos rfl, areCol_spec, obind, decide_eq_true h]
  rfl
theorem tk5_n (h : ¬ TK 65535 (c - 97)) : (fX5_takes c 5 rco rcl ron tubs pegs pwi flags pco pcl phr pho).map (fun u => u.1) = some false := by
  rw [tkAll] at h
  unfold fX5_takes fX5_takes_50 fX5_takesOfFlag
  rw [if_neg (by decide), if_pos rfl, if_pos rfl, areCol_spec, obind, decide_eq_false h]
  rfl
theorem tk6_y (h : TK 15 (c - 48)) : fX5_takes c 6 rco rcl ron tubs pegs pwi flags pco pcl phr pho = some (true, 7, rco, c - 48, ron, tubs, pegs, pwi, flags, pco, pcl, phr, pho) := by
  rw [tk15] at h
  have e1 : ((c - 48) < 0) = ((c - 48).toInt < 0) := propext Int32.lt_iff_toInt_lt
  have e2 : (3 < (c - 48)) = (3 < (c - 48).toInt) := propext Int32.lt_iff_toInt_lt
  unfold fX5_takes fX5_takes_50 fX5_takesOfFlag
  rw [if_neg (by decide), if_neg (by decide), if_pos rfl, if_neg (by decide), if_pos rfl, if_neg (by rw [e1]; omega), if_neg (by rw [e2]; omega)]
  rfl
theorem tk6_n (h : ¬ TK 15 (c - 48)) : (fX5_takes c 6 rco rcl ron tubs pegs pwi flags pco pcl phr pho).map (fun u => u.1) = some false := by
  rw [tk15] at h
  have e1 : ((c - 48) < 0) = ((c - 48).toInt < 0) := propext Int32.lt_iff_toInt_lt
  have e2 : (3 < (c - 48)) = (3 < (c - 48).toInt) := propext Int32.lt_iff_toInt_lt
  unfold fX5_takes fX5_takes_50 fX5_takesOfFlag
  rw [if_neg (by decide), if_neg (by decide), if_pos rfl, if_neg (by decide), if_pos rfl]
  by_cases z : (c - 48).toInt < 0
  · rw [if_pos (by rw [e1]; exact z)]; rfl
  · rw [if_neg (by rw [e1]; exact z), if_pos (by rw [e2]; omega)]; rfl
theorem tk7_y {n : Nat} (hn : n < 5) (h : TK 30 (c - 48)) : fX5_takes c 7 rco rcl ron tubs pegs pwi (nI n) pco pcl phr pho = some (true, 4, rco, rcl, ron, tubs, pegs, pwi, nI (n + 1), upd pco n rco, upd pcl n rcl, upd phr n (c - 48), upd pho n 0) := by
  rw [tk30] at h
  have e1 : ((c - 48) < 1) = ((c - 48).toInt < 1) := propext Int32.lt_iff_toInt_lt
  have e2 : ((c - 48) ≤ 4) = ((c - 48).toInt ≤ 4) := propext Int32.le_iff_toInt_le
  unfold fX5_takes fX5_takes_50 fX5_takesOfFlag fX4_addFlag
  rw [if_neg (by decide), if_neg (by decide), if_neg (by decide), if_pos rfl, if_neg (by decide), if_neg (by decide), if_neg (by rw [e1]; omega), if_pos (by rw [e2]; omega), if_neg (by rw [i_5, leS (by omega) (by omega)]; omega), inb_t (by omega) (by omega), if_pos rfl, if_pos rfl, if_pos rfl, if_pos rfl, obind, cl_s (by omega), nI_1]
  rfl
theorem tk7_n (h : ¬ TK 30 (c - 48)) : (fX5_takes c 7 rco rcl ron tubs pegs pwi flags pco pcl phr pho).map (fun u => u.1) = some false := by
  rw [tk30] at h
  have e1 : ((c - 48) < 1) = ((c - 48).toInt < 1) := propext Int32.lt_iff_toInt_lt
  have e2 : ((c - 48) ≤ 4) = ((c - 48).toInt ≤ 4) := propext Int32.le_iff_toInt_le
  unfold fX5_takes fX5_takes_50 fX5_takesOfFlag
  rw [if_neg (by decide), if_neg (by decide), if_neg (by decide), if_pos rfl, if_neg (by decide), if_neg (by decide)]
  by_cases z : (c - 48).toInt < 1
  · rw [if_pos (by rw [e1]; exact z)]; rfl
  · rw [if_neg (by rw [e1]; exact z), if_neg (by rw [e2]; omega)]; rfl
theorem tk8_y {n i : Nat} {hm : Nat → Nat} (hn : n ≤ 5) (h : HOS n pho hm) (hi : i < n) (hv : c - 48 = nI i) (hl : leftN n hm i ≠ 0) : fX5_takes c 8 rco rcl ron tubs pegs pwi (nI n) pco pcl phr pho = some (true, 9, rco, rcl, nI i, tubs, pegs, pwi, nI n, pco, pcl, phr, pho) := by
  have h1 := leftN_lt (n := n) hm i
  have h3 := two5 hn
  unfold fX5_takes fX5_takes_56 fX5_takesOfHostile
  rw [if_neg (by decide), if_neg (by decide), if_neg (by decide), if_neg (by decide), if_pos rfl, if_pos rfl, hv, notYet_c hn hi h, obind, if_neg (nI_ne0 (by omega) (by omega))]
  rfl
theorem tk8_n {n : Nat} {hm : Nat → Nat} (hn : n ≤ 5) (h : HOS n pho hm) (hk : ¬ TK (firstsN n hm) (c - 48)) : (fX5_takes c 8 rco rcl ron tubs pegs pwi (nI n) pco pcl phr pho).map (fun u => u.1) = some false := by
  unfold fX5_takes fX5_takes_56 fX5_takesOfHostile
  rw [if_neg (by decide), if_neg (by decide), if_neg (by decide), if_neg (by decide), if_pos rfl, if_pos rfl]
  rcases flag_cases n hn (c - 48) with ⟨i, hi, hv⟩ | h1
  · have hz : leftN n hm i = 0 := Decidable.byContradiction (fun z => hk (by rw [hv]; exact tk_of (by omega) (firstsN_bt.mpr ⟨hi, z⟩)))
    rw [hv, notYet_c hn hi h, obind, hz, if_pos nI_0]
    rfl
  · rw [notYet_n hn h1, obind, if_pos rfl]
    rfl
theorem tk9_y {n i j : Nat} {hm : Nat → Nat} (hn : n ≤ 5) (h : HOS n pho hm) (hi : i < n) (hj : j < n) (hv : c - 48 = nI j) (hb : bt (leftN n hm i) j = 1) : fX5_takes c 9 rco rcl (nI i) tubs pegs pwi (nI n) pco pcl phr pho = some (true, 4, rco, rcl, nI i, tubs, pegs, pwi, nI n, pco, pcl, phr, upd (upd pho i (pho i ||| nI (2 ^ j))) j (upd pho i (pho i ||| nI (2 ^ j)) j ||| nI (2 ^ i))) := by
  have h1 := leftN_lt (n := n) hm i
  have h3 := two5 hn
  have hbb : ((nI (leftN n hm i) >>> (nI j &&& 31)) &&& (1 : Int32)) = nI 1 := by rw [← hb]; exact bit_b (by omega) (by omega)
  unfold fX5_takes fX5_takes_56 fX5_takesOfHostile fX4_makeHostile
  rw [if_neg (by decide), if_neg (by decide), if_neg (by decide), if_neg (by decide), if_neg (by decide), if_pos rfl, if_neg (by decide), hv, has_spec hn, obind, hasB_nI hj hn, if_pos rfl, notYet_c hn hi h, obind, hbb, if_neg (by decide), has_spec hn, obind, hasB_nI hi hn, if_pos rfl, obind, if_pos rfl, inb_t (by omega) (by omega), inb_t (by omega) (by omega), if_pos rfl, if_pos rfl, if_pos rfl, if_pos rfl, obind, cl_s (by omega), cl_s (by omega), shl_1 (by omega), shl_1 (by omega)]
  rfl
theorem tk9_n {n i : Nat} {hm : Nat → Nat} (hn : n ≤ 5) (h : HOS n pho hm) (hi : i < n) (hk : ¬ TK (leftN n hm i) (c - 48)) : (fX5_takes c 9 rco rcl (nI i) tubs pegs pwi (nI n) pco pcl phr pho).map (fun u => u.1) = some false := by
  have h1 := leftN_lt (n := n) hm i
  have h3 := two5 hn
  unfold fX5_takes fX5_takes_56 fX5_takesOfHostile
  rw [if_neg (by decide), if_neg (by decide), if_neg (by decide), if_neg (by decide), if_neg (by decide), if_pos rfl, if_neg (by decide), has_spec hn, obind]
  rcases flag_cases n hn (c - 48) with ⟨j, hj, hv⟩ | h1
  · have hz : bt (leftN n hm i) j = 0 := by
      have := bt_le (leftN n hm i) j
      have : ¬ bt (leftN n hm i) j = 1 := fun z => hk (by rw [hv]; exact tk_of (by omega) z)
      omega
    have hbb : ((nI (leftN n hm i) >>> (nI j &&& 31)) &&& (1 : Int32)) = nI 0 := by rw [← hz]; exact bit_b (by omega) (by omega)
    rw [hv, hasB_nI hj hn, if_pos rfl, notYet_c hn hi h, obind, hbb, if_pos nI_0]
    rfl
  · rw [h1, if_neg (by decide)]
    rfl
theorem tk4_F {n : Nat} (hn : n < 5) (h : c = 70) : fX5_takes c 4 rco rcl ron tubs pegs pwi (nI n) pco pcl phr pho = some (true, 5, rco, rcl, ron, tubs, pegs, pwi, nI n, pco, pcl, phr, pho) := by
  unfold fX5_takes fX5_takesPart
  rw [if_pos rfl, if_pos h, if_neg (by rw [i_5, leS (by omega) (by omega)]; omega)]
  rfl
theorem tk4_H {n : Nat} {hm : Nat → Nat} (hn : n ≤ 5) (h : HOS n pho hm) (hf : firstsN n hm ≠ 0) (hc : c = 72) : fX5_takes c 4 rco rcl ron tubs pegs pwi (nI n) pco pcl phr pho = some (true, 8, rco, rcl, ron, tubs, pegs, pwi, nI n, pco, pcl, phr, pho) := by
  have e : fX4_anyNotYetHostile (nI n) pho = some (decide (firstsN n hm ≠ 0)) := any_c hn h n 0 FU (by omega) (by unfold FU; omega) rfl
  unfold fX5_takes fX5_takesPart
  rw [if_pos rfl, if_neg (by rw [hc]; decide), if_pos hc, e, obind, decide_eq_true hf]
  rfl
theorem tk4_n {n : Nat} {hm : Nat → Nat} (hn : n ≤ 5) (h : HOS n pho hm) (h1 : c = 70 → n = 5) (h2 : c = 72 → firstsN n hm = 0) : (fX5_takes c 4 rco rcl ron tubs pegs pwi (nI n) pco pcl phr pho).map (fun u => u.1) = some false := by
  have e : fX4_anyNotYetHostile (nI n) pho = some (decide (firstsN n hm ≠ 0)) := any_c hn h n 0 FU (by omega) (by unfold FU; omega) rfl
  unfold fX5_takes fX5_takesPart
  rw [if_pos rfl]
  by_cases q : c = 70
  · rw [if_pos q, if_pos (by rw [h1 q]; decide)]; rfl
  · rw [if_neg q]
    by_cases q2 : c = 72
    · rw [if_pos q2, e, obind, decide_eq_false (fun z => z (h2 q2))]; rfl
    · rw [if_neg q2]; rfl
end FF
