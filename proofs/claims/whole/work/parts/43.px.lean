/-! ===== PURE LAYER: the reader, a flag, two that are hostile, all parts ===== -/
theorem part_F {len a fu n : Nat} {letters mtx pco pcl phr pho mrd mrh : Nat → Int32} {rco rcl ron tubs pegs pwi : Int32} (hl : len ≤ 48) (hT : ∀ k, k < len → mtx k = letters k) (ha : a < len) (hf : len - a < fu) (hn : n < 5) (hc : letters a = 70) :
    (∃ q, q ≤ 48 ∧ (fX5_firstFault_15 (nI len) letters fu (nI a) 4 rco rcl ron tubs pegs pwi (nI n) pco pcl phr pho).map (fun u => u.1) = some (nI q) ∧ ∃ A B C D, fX10_readPart (mtx a) mrd mrh (nI n) mtx (nI len) (nI a) (-9) = some (A, B, C, D, nI q)) ∨
    (a + 4 ≤ len ∧ ∃ f x k z, fu = f + 4 ∧ k < 4 ∧ fX5_firstFault_15 (nI len) letters fu (nI a) 4 rco rcl ron tubs pegs pwi (nI n) pco pcl phr pho = fX5_firstFault_15 (nI len) letters f (nI (a + 4)) 4 x (nI k) ron tubs pegs pwi (nI (n + 1)) (upd pco n x) (upd pcl n (nI k)) (upd phr n z) (upd pho n 0) ∧ fX10_readPart (mtx a) mrd mrh (nI n) mtx (nI len) (nI a) (-9) = some (upd (upd (upd mrd (3 * n) x) (3 * n + 1) (nI k)) (3 * n + 2) z, mrh, nI (n + 1), nI (a + 4), -9)) := by
  obtain ⟨f0, rfl⟩ : ∃ f, fu = f + 1 := ⟨fu - 1, by omega⟩
  have hp : fX10_readPart (mtx a) mrd mrh (nI n) mtx (nI len) (nI a) (-9) = ((fX10_takeOf (97 : Int32) (nI 65535) mtx (nI len) (nI (a + 1)) (-9)).bind fun u3 => ((fX10_takeOf (48 : Int32) (nI 15) mtx (nI len) u3.2.1 u3.2.2).bind fun u5 => ((fX10_takeOf (48 : Int32) (nI 30) mtx (nI len) u5.2.1 u5.2.2).bind fun u7 => some (upd (upd (upd mrd (3 * n) u3.1) (3 * n + 1) u5.1) (3 * n + 2) u7.1, mrh, nI (n + 1), u7.2.1, u7.2.2)))) := by
    unfold fX10_readPart
    rw [if_pos (by rw [hT a ha]; exact hc), if_neg (by rw [i_5, leS (by omega) (by omega)]; omega)]
    simp (disch := omega) only [i_3, pk_mul, i_1, i_2, nI_add, inb_t, cl_s, reduceIte, i_65535, i_15, i_30]
  rw [hp, ff_go hl ha (tk4_F hn hc)]
  by_cases o1 : a + 1 < len ∧ TK 65535 (letters (a + 1) - 97)
  · have t1 := take_y (M := 65535) (x := 97) (mtx := mtx) (by decide) hl o1.1 (by rw [hT _ o1.1]; exact o1.2)
    obtain ⟨f1, rfl⟩ : ∃ f, f0 = f + 1 := ⟨f0 - 1, by omega⟩
    rw [t1, obind, ff_go hl o1.1 (tk5_y o1.2)]
    by_cases o2 : a + 1 + 1 < len ∧ TK 15 (letters (a + 1 + 1) - 48)
    · have t2 := take_y (M := 15) (x := 48) (mtx := mtx) (by decide) hl o2.1 (by rw [hT _ o2.1]; exact o2.2)
      obtain ⟨f2, rfl⟩ : ∃ f, f1 = f + 1 := ⟨f1 - 1, by omega⟩
      simp only [t2, obind]
      rw [ff_go hl o2.1 (tk6_y o2.2)]
      by_cases o3 : a + 1 + 1 + 1 < len ∧ TK 30 (letters (a + 1 + 1 + 1) - 48)
      · have t3 := take_y (M := 30) (x := 48) (mtx := mtx) (by decide) hl o3.1 (by rw [hT _ o3.1]; exact o3.2)
        obtain ⟨f3, rfl⟩ : ∃ f, f2 = f + 1 := ⟨f2 - 1, by omega⟩
        simp only [t3, obind]
        rw [ff_go hl o3.1 (tk7_y hn o3.2)]
        have hk := (tk15 _).mp o2.2
        obtain ⟨k, hk1, hk2⟩ := (rng_cases (letters (a + 1 + 1) - 48) 3 (by omega)).resolve_right (fun z => z hk)
        refine Or.inr ⟨by omega, f3, letters (a + 1) - 97, k, letters (a + 1 + 1 + 1) - 48, rfl, by omega, ?_, ?_⟩
        · rw [hk2]
        · rw [hT _ o1.1, hT _ o2.1, hT _ o3.1, hk2]
      · have t3 := take_n (M := 30) (x := 48) (mtx := mtx) (a := a + 1 + 1 + 1) (by decide) hl (by omega) (fun z => o3 ⟨z.1, by rw [← hT _ z.1]; exact z.2⟩)
        obtain ⟨f3, rfl⟩ : ∃ f, f2 = f + 1 := ⟨f2 - 1, by omega⟩
        simp only [t3, obind]
        exact Or.inl ⟨a + 1 + 1 + 1, by omega, ff_no hl (by omega) (by decide) (fun q => tk7_n (fun z => o3 ⟨q, z⟩)), _, _, _, _, rfl⟩
    · have t2 := take_n (M := 15) (x := 48) (mtx := mtx) (a := a + 1 + 1) (by decide) hl (by omega) (fun z => o2 ⟨z.1, by rw [← hT _ z.1]; exact z.2⟩)
      obtain ⟨f2, rfl⟩ : ∃ f, f1 = f + 1 := ⟨f1 - 1, by omega⟩
      simp (disch := omega) only [t2, obind, take_b]
      exact Or.inl ⟨a + 1 + 1, by omega, ff_no hl (by omega) (by decide) (fun q => tk6_n (fun z => o2 ⟨q, z⟩)), _, _, _, _, rfl⟩
  · have t1 := take_n (M := 65535) (x := 97) (mtx := mtx) (a := a + 1) (by decide) hl (by omega) (fun z => o1 ⟨z.1, by rw [← hT _ z.1]; exact z.2⟩)
    obtain ⟨f1, rfl⟩ : ∃ f, f0 = f + 1 := ⟨f0 - 1, by omega⟩
    simp (disch := omega) only [t1, obind, take_b]
    exact Or.inl ⟨a + 1, by omega, ff_no hl (by omega) (by decide) (fun q => tk5_n (fun z => o1 ⟨q, z⟩)), _, _, _, _, rfl⟩
theorem part_H {len a fu n : Nat} {hm : Nat → Nat} {letters mtx pco pcl phr pho mrd mrh : Nat → Int32} {rco rcl ron tubs pegs pwi : Int32} (hl : len ≤ 48) (hT : ∀ k, k < len → mtx k = letters k) (ha : a < len) (hf : len - a < fu) (hR : RD n hm pco pcl phr pho mrd mrh) (hc : letters a = 72) (hfs : firstsN n hm ≠ 0) :
    (∃ q, q ≤ 48 ∧ (fX5_firstFault_15 (nI len) letters fu (nI a) 4 rco rcl ron tubs pegs pwi (nI n) pco pcl phr pho).map (fun u => u.1) = some (nI q) ∧ ∃ A B C D, fX10_readPart (mtx a) mrd mrh (nI n) mtx (nI len) (nI a) (-9) = some (A, B, C, D, nI q)) ∨
    (a + 3 ≤ len ∧ ∃ f i j, fu = f + 3 ∧ i < n ∧ j < n ∧ i ≠ j ∧ fX5_firstFault_15 (nI len) letters fu (nI a) 4 rco rcl ron tubs pegs pwi (nI n) pco pcl phr pho = fX5_firstFault_15 (nI len) letters f (nI (a + 3)) 4 rco rcl (nI i) tubs pegs pwi (nI n) pco pcl phr (upd (upd pho i (pho i ||| nI (2 ^ j))) j (upd pho i (pho i ||| nI (2 ^ j)) j ||| nI (2 ^ i))) ∧ fX10_readPart (mtx a) mrd mrh (nI n) mtx (nI len) (nI a) (-9) = some (mrd, upd (upd mrh i (mrh i ||| nI (2 ^ j))) j (upd mrh i (mrh i ||| nI (2 ^ j)) j ||| nI (2 ^ i)), nI n, nI (a + 3), -9)) := by
  obtain ⟨hn, h2, h3, hh, h7⟩ := hR
  have hF32 : firstsN n hm < 32 := bits32 _ hn
  obtain ⟨f0, rfl⟩ : ∃ f, fu = f + 1 := ⟨fu - 1, by omega⟩
  have er := firsts_r hn (mrh := mrh) (hm := hm) (fun i hi => ⟨(h7 i (by omega)).1, (h7 i (by omega)).2.1⟩)
  have hp : fX10_readPart (mtx a) mrd mrh (nI n) mtx (nI len) (nI a) (-9) = ((fX10_takeOf (48 : Int32) (nI (firstsN n hm)) mtx (nI len) (nI (a + 1)) (-9)).bind fun u13 => ((fX10_left u13.1 mrh (nI n)).bind fun u14 => ((fX10_takeOf (48 : Int32) u14 mtx (nI len) u13.2.1 u13.2.2).bind fun u15 => (if inb u13.1 5 = true then (if u15.2.2 = (-9 : Int32) then (fX10_readPart_167 u13.1 u15.1 ((1 : Int32) <<< (u15.1 &&& 31)) (mrh u13.1.toNatClampNeg) u13.1 mrd mrh (nI n) u15.2.1 u15.2.2)
 else (fX10_readPart_167 u13.1 u15.1 (0 : Int32) (mrh u13.1.toNatClampNeg) u13.1 mrd mrh (nI n) u15.2.1 u15.2.2)) else none)))) := by
    unfold fX10_readPart fX10_readPart_98
    rw [if_neg (by rw [hT a ha, hc]; decide), if_pos (by rw [hT a ha]; exact hc), er, obind, if_neg (nI_ne0 (by omega) (by omega)), obind, nI_1]
  rw [hp, ff_go hl ha (tk4_H hn hh hfs hc)]
  by_cases o1 : a + 1 < len ∧ TK (firstsN n hm) (letters (a + 1) - 48)
  · have t1 := take_y (M := firstsN n hm) (x := 48) (mtx := mtx) (by omega) hl o1.1 (by rw [hT _ o1.1]; exact o1.2)
    obtain ⟨i, hi15, hiv, hib⟩ := tk_ex o1.2
    obtain ⟨hi, hil⟩ := firstsN_bt.mp hib
    obtain ⟨f1, rfl⟩ : ∃ f, f0 = f + 1 := ⟨f0 - 1, by omega⟩
    have hL := leftN_lt (n := n) hm i
    have h35 := two5 hn
    have el : fX10_left (nI i) mrh (nI n) = some (nI (leftN n hm i)) := left_r hn (by omega) (h7 i (by omega)).1 (h7 i (by omega)).2.1
    rw [hT _ o1.1, hiv] at t1
    rw [t1, obind, ff_go hl o1.1 (tk8_y hn hh hi hiv hil)]
    simp only [el, obind]
    by_cases o2 : a + 1 + 1 < len ∧ TK (leftN n hm i) (letters (a + 1 + 1) - 48)
    · have t2 := take_y (M := leftN n hm i) (x := 48) (mtx := mtx) (by omega) hl o2.1 (by rw [hT _ o2.1]; exact o2.2)
      obtain ⟨j, hj15, hjv, hjb⟩ := tk_ex o2.2
      obtain ⟨hj, hne⟩ := leftN_bt (by omega) hjb
      obtain ⟨f2, rfl⟩ : ∃ f, f1 = f + 1 := ⟨f1 - 1, by omega⟩
      rw [hT _ o2.1, hjv] at t2
      rw [ff_go hl o2.1 (tk9_y hn hh hi hj hjv hjb)]
      refine Or.inr ⟨by omega, f2, i, j, rfl, hi, hj, hne, rfl, ?_⟩
      unfold fX10_readPart_167 fX10_readPart_192
      simp (disch := omega) only [t2, obind, inb_t, cl_s, reduceIte, shl_1]
    · have t2 := take_n (M := leftN n hm i) (x := 48) (mtx := mtx) (a := a + 1 + 1) (by omega) hl (by omega) (fun z => o2 ⟨z.1, by rw [← hT _ z.1]; exact z.2⟩)
      obtain ⟨f2, rfl⟩ : ∃ f, f1 = f + 1 := ⟨f1 - 1, by omega⟩
      refine Or.inl ⟨a + 1 + 1, by omega, ff_no hl (by omega) (by decide) (fun q => tk9_n hn hh hi (fun z => o2 ⟨q, z⟩)), ?_⟩
      unfold fX10_readPart_167 fX10_readPart_192
      simp (disch := omega) only [t2, obind, inb_t, cl_s, reduceIte, nI_9]
      exact ⟨_, _, _, _, rfl⟩
  · have t1 := take_n (M := firstsN n hm) (x := 48) (mtx := mtx) (a := a + 1) (by omega) hl (by omega) (fun z => o1 ⟨z.1, by rw [← hT _ z.1]; exact z.2⟩)
    obtain ⟨f1, rfl⟩ : ∃ f, f0 = f + 1 := ⟨f0 - 1, by omega⟩
    have el := left_r (i := 0) hn (by omega) (h7 0 (by omega)).1 (h7 0 (by omega)).2.1
    refine Or.inl ⟨a + 1, by omega, ff_no hl (by omega) (by decide) (fun q => tk8_n hn hh (fun z => o1 ⟨q, z⟩)), ?_⟩
    unfold fX10_readPart_167 fX10_readPart_192
    simp (disch := omega) only [t1, obind, el, take_b, inb_t, cl_s, reduceIte, nI_9]
    exact ⟨_, _, _, _, rfl⟩
/-- all parts: both readers end alike -/
theorem parts_sim {len : Nat} {letters mtx : Nat → Int32} {tubs pegs pwi : Int32} (hl : len ≤ 48) (hT : ∀ k, k < len → mtx k = letters k) : ∀ (k a fu fu' n : Nat) (hm : Nat → Nat) (rco rcl ron : Int32) (pco pcl phr pho mrd mrh : Nat → Int32), a ≤ len → len - a ≤ k → len - a < fu → len - a < fu' → RD n hm pco pcl phr pho mrd mrh →
    RDP tubs pegs pwi (fX5_firstFault_15 (nI len) letters fu (nI a) 4 rco rcl ron tubs pegs pwi (nI n) pco pcl phr pho) (fX10_readText_88 mtx (nI len) fu' mrd mrh (nI n) (nI a) (-9)) := by
  intro k
  induction k with
  | zero =>
    intro a fu fu' n hm rco rcl ron pco pcl phr pho mrd mrh ha hk hf hf' hR
    have e : a = len := by omega
    subst e
    obtain ⟨f, rfl⟩ : ∃ f, fu = f + 1 := ⟨fu - 1, by omega⟩
    obtain ⟨f', rfl⟩ : ∃ f, fu' = f + 1 := ⟨fu' - 1, by omega⟩
    rw [ff_end hl, rt_end hl]
    exact Or.inr ⟨_, _, _, _, _, _, _, _, _, _, _, _, rfl, rfl, hR⟩
  | succ k ih =>
    intro a fu fu' n hm rco rcl ron pco pcl phr pho mrd mrh ha hk hf hf' hR
    by_cases hal : a = len
    · subst hal
      obtain ⟨f, rfl⟩ : ∃ f, fu = f + 1 := ⟨fu - 1, by omega⟩
      obtain ⟨f', rfl⟩ : ∃ f, fu' = f + 1 := ⟨fu' - 1, by omega⟩
      rw [ff_end hl, rt_end hl]
      exact Or.inr ⟨_, _, _, _, _, _, _, _, _, _, _, _, rfl, rfl, hR⟩
    · have ha' : a < len := by omega
      obtain ⟨f', rfl⟩ : ∃ f, fu' = f + 1 + 1 := ⟨fu' - 2, by omega⟩
      have hn := hR.1
      by_cases q1 : letters a = 70 ∧ n < 5
      · rcases part_F (rco := rco) (rcl := rcl) (ron := ron) (tubs := tubs) (pegs := pegs) (pwi := pwi) (pco := pco) (pcl := pcl) (phr := phr) (pho := pho) (mrd := mrd) (mrh := mrh) hl hT ha' hf q1.2 q1.1 with ⟨q, hq, c1, c2⟩ | ⟨h4, f, x, z, y, rfl, hz, c1, c2⟩
        · exact Or.inl ⟨q, hq, c1, rt_stepN hl ha' (by omega) c2⟩
        · rw [c1, rt_step hl ha', c2, obind]
          exact ih (a + 4) f (f' + 1) (n + 1) hm _ _ _ _ _ _ _ _ _ h4 (by omega) (by omega) (by omega) (hR.flag q1.2 hz x y)
      · by_cases q2 : letters a = 72 ∧ firstsN n hm ≠ 0
        · rcases part_H (rco := rco) (rcl := rcl) (ron := ron) (tubs := tubs) (pegs := pegs) (pwi := pwi) hl hT ha' hf hR q2.1 q2.2 with ⟨q, hq, c1, c2⟩ | ⟨h4, f, i, j, rfl, hi, hj, hne, c1, c2⟩
          · exact Or.inl ⟨q, hq, c1, rt_stepN hl ha' (by omega) c2⟩
          · rw [c1, rt_step hl ha', c2, obind]
            exact ih (a + 3) f (f' + 1) n _ _ _ _ _ _ _ _ _ _ h4 (by omega) (by omega) (by omega) (hR.host hi hj hne)
        · have er := firsts_r hn (mrh := mrh) (hm := hm) (fun i hi => ⟨(hR.2.2.2.2 i (by omega)).1, (hR.2.2.2.2 i (by omega)).2.1⟩)
          have h1 : letters a = 70 → n = 5 := fun z => by
            have : ¬ n < 5 := fun w => q1 ⟨z, w⟩
            omega
          have h2 : letters a = 72 → firstsN n hm = 0 := fun z => Decidable.byContradiction (fun w => q2 ⟨z, w⟩)
          obtain ⟨f, rfl⟩ : ∃ f, fu = f + 1 := ⟨fu - 1, by omega⟩
          refine Or.inl ⟨a, by omega, ff_no4 hl ha' (tk4_n hn hR.2.2.2.1 h1 h2), rt_stepN hl ha' (by omega) ?_⟩
          refine ⟨mrd, mrh, nI n, nI a, ?_⟩
          unfold fX10_readPart fX10_readPart_98 fX10_readPart_197
          rw [hT a ha']
          by_cases z : letters a = 70
          · rw [if_pos z, if_pos (by rw [h1 z]; decide), if_neg (by rw [z]; decide)]
          · rw [if_neg z]
            by_cases y : letters a = 72
            · rw [if_pos y, er, obind, h2 y, if_pos nI_0]
            · rw [if_neg y]
