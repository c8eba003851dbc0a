/-! ===== PURE LAYER: numbers, bits, folds ===== -/
theorem i_0 : (0 : Int32) = nI 0 := rfl
theorem i_1 : (1 : Int32) = nI 1 := rfl
theorem i_2 : (2 : Int32) = nI 2 := rfl
theorem i_3 : (3 : Int32) = nI 3 := rfl
theorem i_4 : (4 : Int32) = nI 4 := rfl
theorem i_5 : (5 : Int32) = nI 5 := rfl
theorem i_6 : (6 : Int32) = nI 6 := rfl
theorem i_10 : (10 : Int32) = nI 10 := rfl
theorem i_13 : (13 : Int32) = nI 13 := rfl
theorem i_14 : (14 : Int32) = nI 14 := rfl
theorem i_15 : (15 : Int32) = nI 15 := rfl
theorem i_16 : (16 : Int32) = nI 16 := rfl
theorem i_17 : (17 : Int32) = nI 17 := rfl
theorem i_31 : (31 : Int32) = nI 31 := rfl
theorem i_32 : (32 : Int32) = nI 32 := rfl
theorem i_40 : (40 : Int32) = nI 40 := rfl
theorem i_48 : (48 : Int32) = nI 48 := rfl
theorem ltS {a b : Nat} (ha : a < 2147483648) (hb : b < 2147483648) : (nI a < nI b) = (a < b) := propext (nI_ltI ha hb)
theorem leS {a b : Nat} (ha : a < 2147483648) (hb : b < 2147483648) : (nI a ≤ nI b) = (a ≤ b) := propext (nI_leI ha hb)
theorem eqS {a b : Nat} (ha : a < 2147483648) (hb : b < 2147483648) : (nI a = nI b) = (a = b) := propext (nI_eq ha hb)
theorem cl_s {a : Nat} (ha : a < 2147483648) : (nI a).toNatClampNeg = a := nI_clamp ha
theorem inb_t {i n : Nat} (h : i < n) (hn : n < 2147483648) : inb (nI i) n = true := by
  have h1 : ¬ nI i < 0 := nI_pos (by omega)
  have h2 : ¬ n ≤ (nI i).toNatClampNeg := by rw [nI_clamp (by omega)]; omega
  simp [inb, h1, h2]
theorem sub_s {a b : Nat} (h : b ≤ a) : nI a - nI b = nI (a - b) := pk_sub h
theorem fu_s : FU = 99 + 1 := rfl
/-- a counted loop whose state is known at every round -/
theorem loop_seq {σ ρ : Type} (f : Nat → σ → Int32 → Option ρ) (S : Nat → σ) (n : Nat) (out : Option ρ) (hx : ∀ fu, f (fu + 1) (S n) (nI n) = out) (hs : ∀ fu i, i < n → f (fu + 1) (S i) (nI i) = f fu (S (i + 1)) (nI (i + 1))) : ∀ (k i fu : Nat), i + k = n → k < fu → f fu (S i) (nI i) = out
  | 0, i, 0, _, h => absurd h (Nat.lt_irrefl 0)
  | 0, i, fu + 1, hi, _ => by
    rw [show i = n by omega]; exact hx fu
  | k + 1, i, 0, _, h => absurd h (Nat.not_lt_zero _)
  | k + 1, i, fu + 1, hi, h => by
    rw [hs fu i (by omega)]
    exact loop_seq f S n out hx hs k (i + 1) fu (by omega) (by omega)
/-- a counted loop with something that holds all along, and what is to be shown of its answer -/
theorem loop_ex {σ ρ : Type} (Inv : Nat → σ → Prop) (f : Nat → σ → Int32 → Option ρ) (n : Nat) (P : Option ρ → Prop) (hx : ∀ fu s, Inv n s → P (f (fu + 1) s (nI n))) (hs : ∀ fu s i, i < n → Inv i s → ∃ s', f (fu + 1) s (nI i) = f fu s' (nI (i + 1)) ∧ Inv (i + 1) s') : ∀ (k i : Nat) (s : σ) (fu : Nat), i + k = n → k < fu → Inv i s → P (f fu s (nI i))
  | 0, i, s, 0, _, h, _ => absurd h (Nat.lt_irrefl 0)
  | 0, i, s, fu + 1, hi, _, h => by
    have e : i = n := by omega
    subst e
    exact hx fu s h
  | k + 1, i, s, 0, _, h, _ => absurd h (Nat.not_lt_zero _)
  | k + 1, i, s, fu + 1, hi, h, hv => by
    obtain ⟨s', h1, h2⟩ := hs fu s i (by omega) hv
    rw [h1]
    exact loop_ex Inv f n P hx hs k (i + 1) s' fu (by omega) (by omega) h2
theorem obind {α β : Type} {x : α} {f : α → Option β} : (some x).bind f = f x := rfl
/-! a fold upward -/
def foldN {σ : Type} (step : Nat → σ → σ) : Nat → Nat → σ → σ
  | _, 0, s => s
  | i, k + 1, s => foldN step (i + 1) k (step i s)
theorem foldN_succ {σ : Type} (step : Nat → σ → σ) : ∀ (k i : Nat) (s : σ), foldN step i (k + 1) s = step (i + k) (foldN step i k s)
  | 0, i, s => rfl
  | k + 1, i, s => by
    show foldN step (i + 1) (k + 1) (step i s) = _
    rw [foldN_succ step k (i + 1) (step i s), show i + 1 + k = i + (k + 1) by omega]
    rfl
theorem foldN_congr {σ : Type} {f g : Nat → σ → σ} : ∀ (k i : Nat) (s : σ), (∀ j s, i ≤ j → j < i + k → f j s = g j s) → foldN f i k s = foldN g i k s
  | 0, _, _, _ => rfl
  | k + 1, i, s, h => by
    show foldN f (i + 1) k (f i s) = foldN g (i + 1) k (g i s)
    rw [h i s (by omega) (by omega)]
    exact foldN_congr k (i + 1) _ (fun j s h1 h2 => h j s (by omega) (by omega))
theorem foldN_rel {σ τ : Type} {f : Nat → σ → σ} {g : Nat → τ → τ} (R : Nat → σ → τ → Prop) : ∀ (k i : Nat) (s : σ) (t : τ), R i s t → (∀ j s t, i ≤ j → j < i + k → R j s t → R (j + 1) (f j s) (g j t)) → R (i + k) (foldN f i k s) (foldN g i k t)
  | 0, _, _, _, h0, _ => h0
  | k + 1, i, s, t, h0, h => by
    have := foldN_rel R k (i + 1) (f i s) (g i t) (h i s t (by omega) (by omega) h0) (fun j s t h1 h2 => h j s t (by omega) (by omega))
    rw [show i + (k + 1) = i + 1 + k by omega]
    exact this
theorem foldN_inv {σ : Type} {f : Nat → σ → σ} (R : Nat → σ → Prop) : ∀ (k i : Nat) (s : σ), R i s → (∀ j s, i ≤ j → j < i + k → R j s → R (j + 1) (f j s)) → R (i + k) (foldN f i k s)
  | 0, _, _, h0, _ => h0
  | k + 1, i, s, h0, h => by
    have := foldN_inv R k (i + 1) (f i s) (h i s (by omega) (by omega) h0) (fun j s h1 h2 => h j s (by omega) (by omega))
    rw [show i + (k + 1) = i + 1 + k by omega]
    exact this
/-- a counted loop is a fold -/
theorem loop_fold {σ ρ : Type} (f : Nat → σ → Int32 → Option ρ) (step : Nat → σ → σ) (out : σ → Option ρ) (n : Nat) (hx : ∀ fu s, f (fu + 1) s (nI n) = out s) (hs : ∀ fu s i, i < n → f (fu + 1) s (nI i) = f fu (step i s) (nI (i + 1))) : ∀ (k i : Nat) (s : σ) (fu : Nat), i + k = n → k < fu → f fu s (nI i) = out (foldN step i k s)
  | 0, i, s, 0, _, h => absurd h (Nat.lt_irrefl 0)
  | 0, i, s, fu + 1, hi, _ => by
    rw [show i = n by omega]; exact hx fu s
  | k + 1, i, s, 0, _, h => absurd h (Nat.not_lt_zero _)
  | k + 1, i, s, fu + 1, hi, h => by
    rw [hs fu s i (by omega)]
    exact loop_fold f step out n hx hs k (i + 1) (step i s) fu (by omega) (by omega)
/-- the same with something that holds all along -/
theorem loop_foldI {σ ρ : Type} (Inv : Nat → σ → Prop) (f : Nat → σ → Int32 → Option ρ) (step : Nat → σ → σ) (out : σ → Option ρ) (n : Nat) (hx : ∀ fu s, Inv n s → f (fu + 1) s (nI n) = out s) (hs : ∀ fu s i, i < n → Inv i s → f (fu + 1) s (nI i) = f fu (step i s) (nI (i + 1)) ∧ Inv (i + 1) (step i s)) : ∀ (k i : Nat) (s : σ) (fu : Nat), i + k = n → k < fu → Inv i s → f fu s (nI i) = out (foldN step i k s)
  | 0, i, s, 0, _, h, _ => absurd h (Nat.lt_irrefl 0)
  | 0, i, s, fu + 1, hi, _, h => by
    have e : i = n := by omega
    subst e
    exact hx fu s h
  | k + 1, i, s, 0, _, h, _ => absurd h (Nat.not_lt_zero _)
  | k + 1, i, s, fu + 1, hi, h, hv => by
    obtain ⟨h1, h2⟩ := hs fu s i (by omega) hv
    rw [h1]
    exact loop_foldI Inv f step out n hx hs k (i + 1) (step i s) fu (by omega) (by omega) h2
/-! bits of small sets -/
theorem sh_amt : ∀ n, n < 32 → ((nI n &&& 31).toBitVec.smod 32).toNat = n := by decide +kernel
theorem shl_1 {i : Nat} (h : i < 31) : (1 : Int32) <<< (nI i &&& 31) = nI (2 ^ i) := by
  have := pk_shlN (n := 1) (nI i &&& 31) i (sh_amt i (by omega)) (by
    have : 2 ^ i < 2 ^ 31 := Nat.pow_lt_pow_right (by decide) h
    omega)
  rw [show (1 : Int32) = nI 1 from rfl, this, Nat.one_mul]
theorem and_1 (a : Nat) : nI a &&& (1 : Int32) = nI (a % 2) := by
  apply Int32.toBitVec_inj.mp
  show (BitVec.ofNat 32 a &&& 1#32) = BitVec.ofNat 32 (a % 2)
  apply BitVec.eq_of_toNat_eq
  rw [BitVec.toNat_and, BitVec.toNat_ofNat]
  show a % 2 ^ 32 &&& (2 ^ 1 - 1) = _
  rw [Nat.and_two_pow_sub_one_eq_mod]
  have : (BitVec.ofNat 32 (a % 2)).toNat = a % 2 := by rw [BitVec.toNat_ofNat]; omega
  omega
theorem shr_b {b i : Nat} (hb : b < 2147483648) (hi : i < 32) : (nI b >>> (nI i &&& 31)) = nI (b / 2 ^ i) := pk_shrN hb _ i (sh_amt i hi)
theorem bit_b {b i : Nat} (hb : b < 2147483648) (hi : i < 32) : ((nI b >>> (nI i &&& 31)) &&& (1 : Int32)) = nI (b / 2 ^ i % 2) := by rw [shr_b hb hi, and_1]
theorem or_s (a b : Nat) : nI a ||| nI b = nI (a ||| b) := by
  apply Int32.toBitVec_inj.mp
  show (BitVec.ofNat 32 a ||| BitVec.ofNat 32 b) = BitVec.ofNat 32 (a ||| b)
  apply BitVec.eq_of_toNat_eq
  rw [BitVec.toNat_or, BitVec.toNat_ofNat, BitVec.toNat_ofNat, BitVec.toNat_ofNat]
  exact (Nat.or_mod_two_pow).symm
theorem and_s (a b : Nat) : nI a &&& nI b = nI (a &&& b) := by
  apply Int32.toBitVec_inj.mp
  show (BitVec.ofNat 32 a &&& BitVec.ofNat 32 b) = BitVec.ofNat 32 (a &&& b)
  apply BitVec.eq_of_toNat_eq
  rw [BitVec.toNat_and, BitVec.toNat_ofNat, BitVec.toNat_ofNat, BitVec.toNat_ofNat]
  exact (Nat.and_mod_two_pow).symm
/-- how many of the five -/
def popN (m : Nat) : Nat := m % 2 + m / 2 % 2 + m / 4 % 2 + m / 8 % 2 + m / 16 % 2
theorem cnt_c : ∀ m, m < 32 → fJ6_bitCount_0f7a4 (nI m) = some (nI (popN m)) := by decide +kernel
theorem cnt_r : ∀ m, m < 32 → fX10_ones (nI m) = some (nI (popN m)) := by decide +kernel
theorem popN_le (m : Nat) : popN m ≤ 5 := by unfold popN; omega
/-- which of the first n are so -/
def bitsN (f : Nat → Bool) : Nat → Nat
  | 0 => 0
  | n + 1 => bitsN f n + if f n then 2 ^ n else 0
theorem bitsN_succ (f : Nat → Bool) (n : Nat) : bitsN f (n + 1) = bitsN f n + if f n then 2 ^ n else 0 := rfl
theorem bitsN_lt (f : Nat → Bool) : ∀ n, bitsN f n < 2 ^ n
  | 0 => Nat.zero_lt_one
  | n + 1 => by
    have h := bitsN_lt f n
    have e : 2 ^ (n + 1) = 2 ^ n + 2 ^ n := by rw [Nat.pow_succ]; omega
    unfold bitsN
    split <;> omega
theorem bitsN_cong {f g : Nat → Bool} : ∀ {n : Nat}, (∀ i, i < n → f i = g i) → bitsN f n = bitsN g n
  | 0, _ => rfl
  | n + 1, h => by
    unfold bitsN
    rw [bitsN_cong (fun i hi => h i (by omega)), h n (by omega)]
theorem bitsN_bit (f : Nat → Bool) : ∀ n i, (bitsN f n) / 2 ^ i % 2 = if i < n ∧ f i = true then 1 else 0
  | 0, i => by simp [bitsN]
  | n + 1, i => by
    have h := bitsN_bit f n i
    have hl := bitsN_lt f n
    unfold bitsN
    by_cases hi : i < n
    · have e : (bitsN f n + if f n then 2 ^ n else 0) / 2 ^ i % 2 = bitsN f n / 2 ^ i % 2 := by
        split
        · have e2 : 2 ^ n = 2 ^ i * (2 * 2 ^ (n - i - 1)) := by
            rw [← Nat.mul_assoc, ← Nat.pow_succ, ← Nat.pow_add]; congr 1; omega
          rw [e2, Nat.add_mul_div_left _ _ (Nat.two_pow_pos i), Nat.add_mul_mod_self_left]
        · rfl
      rw [e, h]
      by_cases hf : f i = true
      · rw [if_pos ⟨hi, hf⟩, if_pos ⟨by omega, hf⟩]
      · rw [if_neg (fun q => hf q.2), if_neg (fun q => hf q.2)]
    · by_cases hi2 : i = n
      · subst hi2
        by_cases hf : f i = true
        · rw [if_pos hf, if_pos ⟨by omega, hf⟩, Nat.add_div_right _ (Nat.two_pow_pos i), Nat.div_eq_of_lt hl]
        · rw [if_neg hf, if_neg (fun q => hf q.2), Nat.add_zero, Nat.div_eq_of_lt hl]
      · have hn : n + 1 ≤ i := by omega
        have hlt : (bitsN f n + if f n then 2 ^ n else 0) < 2 ^ i := by
          have := bitsN_lt f (n + 1)
          unfold bitsN at this
          exact Nat.lt_of_lt_of_le this (Nat.pow_le_pow_right (by decide) hn)
        rw [Nat.div_eq_of_lt hlt, if_neg (fun q => absurd q.1 (by omega))]
theorem or_pow {a n : Nat} (h : a < 2 ^ n) : a ||| 2 ^ n = a + 2 ^ n := by
  rw [Nat.or_comm, Nat.add_comm]
  have := Nat.two_pow_add_eq_or_of_lt h 1
  rw [Nat.mul_one] at this
  exact this.symm
theorem foldN_bits (f : Nat → Bool) {step : Nat → Int32 → Int32} (hs : ∀ i (m : Nat), step i (nI m) = if f i then nI (m ||| 2 ^ i) else nI m) : ∀ n, foldN step 0 n (nI 0) = nI (bitsN f n)
  | 0 => rfl
  | n + 1 => by
    rw [foldN_succ, foldN_bits f hs n, Nat.zero_add, hs, or_pow (bitsN_lt f n), bitsN_succ]
    split <;> rfl
theorem bitsAt_spec {n : Nat} (hn : n ≤ 5) (pl : Int32) (wh : Nat → Int32) : fX8_bitsAt pl wh (nI n) = some (nI (bitsN (fun i => decide (wh i = pl)) n)) := by
  have key := loop_fold (fun fu (s : Int32) x => fX8_bitsAt_4 pl wh (nI n) fu s x) (fun i s => if wh i = pl then s ||| ((1 : Int32) <<< (nI i &&& 31)) else s) (fun s => some s) n (fun fu s => by
    simp (disch := omega) only [fX8_bitsAt_4, gX8_bitsAt_4, leS, Nat.le_refl, reduceIte]) (fun fu s i hi => by
    by_cases h : wh i = pl <;> simp (disch := omega) only [fX8_bitsAt_4, gX8_bitsAt_4, fX8_bitsAt_31, leS, cl_s, inb_t, h, reduceIte, i_1, nI_add, show ¬ n ≤ i by omega]) n 0 (nI 0) FU (by omega) (by unfold FU; omega)
  unfold fX8_bitsAt
  refine key.trans ?_
  rw [foldN_congr (g := fun i s => if wh i = pl then s ||| nI (2 ^ i) else s) n 0 (nI 0) (fun j s _ h => by simp (disch := omega) only [shl_1])]
  rw [foldN_bits (fun i => decide (wh i = pl)) (fun i m => by by_cases h : wh i = pl <;> simp [h, or_s])]
theorem areIn_spec {n lev : Nat} (hn : n ≤ 5) (hl : lev ≤ 1) (pl : Int32) (mnow : Nat → Int32) : fX10_areIn (nI lev) pl (nI n) mnow = some (nI (bitsN (fun i => decide (mnow (17 * lev + 5 + i) = pl)) n)) := by
  have key := loop_fold (fun fu (s : Int32) x => fX10_areIn_5 (nI lev) pl (nI n) mnow fu s x) (fun i s => if mnow (17 * lev + 5 + i) = pl then s ||| ((1 : Int32) <<< (nI i &&& 31)) else s ||| nI 0) (fun s => some s) n (fun fu s => by
    simp (disch := omega) only [fX10_areIn_5, gX10_areIn_5, leS, Nat.le_refl, reduceIte]) (fun fu s i hi => by
    by_cases h : mnow (17 * lev + 5 + i) = pl <;> simp (disch := omega) only [fX10_areIn_5, gX10_areIn_5, fX10_areIn_41, i_17, i_5, pk_mul, nI_add, leS, cl_s, inb_t, h, reduceIte, i_1, i_0, show ¬ n ≤ i by omega]) n 0 (nI 0) FU (by omega) (by unfold FU; omega)
  unfold fX10_areIn
  refine key.trans ?_
  rw [foldN_congr (g := fun i s => if mnow (17 * lev + 5 + i) = pl then s ||| nI (2 ^ i) else s ||| nI 0) n 0 (nI 0) (fun j s _ h => by simp (disch := omega) only [shl_1])]
  rw [foldN_bits (fun i => decide (mnow (17 * lev + 5 + i) = pl)) (fun i m => by by_cases h : mnow (17 * lev + 5 + i) = pl <;> simp [h, or_s])]
