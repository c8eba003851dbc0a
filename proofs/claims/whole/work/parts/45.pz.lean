/-! ===== PURE LAYER: the laundry is made anew ===== -/
theorem bitsN_F : ∀ n, bitsN (fun _ => false) n = 0
  | 0 => rfl
  | n + 1 => by rw [bitsN_succ, bitsN_F n]; rfl
theorem start_spec (wh lf co pc : Nat → Int32) (w : Int32) : fX8_startAnew wh lf co w pc = some (mapN 5 (fun _ => 0) wh, mapN 5 (fun _ => 0) lf, mapN 5 pc co, w, 0) := by
  have key := loop_seq (fun fu (s : (Nat → Int32) × (Nat → Int32) × (Nat → Int32)) x => fX8_startAnew_2 w pc fu x s.1 s.2.1 s.2.2) (fun i => (mapN i (fun _ => 0) wh, mapN i (fun _ => 0) lf, mapN i pc co)) 5 (some (mapN 5 (fun _ => 0) wh, mapN 5 (fun _ => 0) lf, mapN 5 pc co, w, 0)) (fun fu => by
    show gX8_startAnew_2 _ _ _ _ _ _ _ = _
    unfold gX8_startAnew_2
    rw [if_pos (show (5 : Int32) ≤ nI 5 by decide)]) (fun fu i hi => by
    have e1 := mapN_upd (i := i) (g := fun _ => (0 : Int32)) (f := wh) (v := 0) rfl
    have e2 := mapN_upd (i := i) (g := fun _ => (0 : Int32)) (f := lf) (v := 0) rfl
    have e3 := mapN_upd (i := i) (g := pc) (f := co) rfl
    show gX8_startAnew_2 _ _ _ _ _ _ _ = _
    unfold gX8_startAnew_2
    rw [if_neg (by rw [i_5, leS (by omega) (by omega)]; omega), inb_t (by omega) (by omega), if_pos rfl, if_pos rfl, if_pos rfl, if_pos rfl, cl_s (by omega), nI_1]
    show fX8_startAnew_2 w pc fu (nI (i + 1)) (upd (mapN i (fun _ => 0) wh) i 0) (upd (mapN i (fun _ => 0) lf) i 0) (upd (mapN i pc co) i (pc i)) = _
    rw [e1, e2, e3]) 5 0 FU (by omega) (by unfold FU; omega)
  simp only [mapN_0] at key
  exact key
theorem laun_c {st rco rcl ron rt rp rwi rf tubs pegs pwi flags wi ho first size : Int32} {rpco rpcl rphr rpho pco pcl phr pho wh lf co kept : Nat → Int32} : fX9_laundry_53 st rco rcl ron rt rp rwi rf rpco rpcl rphr rpho tubs pegs pwi flags pco pcl phr pho wh lf co wi ho first size FU (0 : Int32) kept = some (flags, st, rco, rcl, ron, rt, rp, rwi, rf, rpco, rpcl, rphr, rpho, tubs, pegs, pwi, flags, pco, pcl, phr, pho, wh, lf, co, wi, ho, first, size, mapN 2 (fun _ => 0) kept) := by
  have key := loop_seq (fun fu (s : Nat → Int32) x => fX9_laundry_53 st rco rcl ron rt rp rwi rf rpco rpcl rphr rpho tubs pegs pwi flags pco pcl phr pho wh lf co wi ho first size fu x s) (fun i => mapN i (fun _ => 0) kept) 2 (some (flags, st, rco, rcl, ron, rt, rp, rwi, rf, rpco, rpcl, rphr, rpho, tubs, pegs, pwi, flags, pco, pcl, phr, pho, wh, lf, co, wi, ho, first, size, mapN 2 (fun _ => 0) kept)) (fun fu => by
    simp only [fX9_laundry_53, gX9_laundry_53, show (2 : Int32) ≤ nI 2 by decide, reduceIte]) (fun fu i hi => by
    have e1 := mapN_upd (i := i) (g := fun _ => (0 : Int32)) (f := kept) (v := 0) rfl
    simp (disch := omega) only [fX9_laundry_53, gX9_laundry_53, show ¬ (2 : Int32) ≤ nI i by rw [i_2, leS (by omega) (by omega)]; omega, reduceIte, inb_t, cl_s, nI_1, e1]) 2 0 FU (by omega) (by unfold FU; omega)
  simp only [mapN_0] at key
  exact key
theorem laun_85 {n : Nat} (hn : n ≤ 5) {t p mrf mat mfa : Int32} {mrd mrh mik mcl mws mho m : Nat → Int32} : fX10_laundry_85 (nI n) t p mrd mrh mrf mat mfa mik FU (0 : Int32) mcl mws mho m = some (nI n, nI n, t, p, mapN n (fun i => mrd (3 * i + 1)) mcl, mapN n (fun i => mrd (3 * i + 2)) mws, mapN n mrh mho, mapN n (fun i => mrd (3 * i)) m, mrd, mrh, mrf, mat, mfa, 0, upd (upd mik 0 0) 1 0) := by
  have key := loop_seq (fun fu (s : (Nat → Int32) × (Nat → Int32) × (Nat → Int32) × (Nat → Int32)) x => fX10_laundry_85 (nI n) t p mrd mrh mrf mat mfa mik fu x s.1 s.2.1 s.2.2.1 s.2.2.2) (fun i => (mapN i (fun i => mrd (3 * i + 1)) mcl, mapN i (fun i => mrd (3 * i + 2)) mws, mapN i mrh mho, mapN i (fun i => mrd (3 * i)) m)) n (some (nI n, nI n, t, p, mapN n (fun i => mrd (3 * i + 1)) mcl, mapN n (fun i => mrd (3 * i + 2)) mws, mapN n mrh mho, mapN n (fun i => mrd (3 * i)) m, mrd, mrh, mrf, mat, mfa, 0, upd (upd mik 0 0) 1 0)) (fun fu => by
    simp (disch := omega) only [fX10_laundry_85, gX10_laundry_85, leS, Nat.le_refl, reduceIte]
    rfl) (fun fu i hi => by
    have e1 := mapN_upd (i := i) (g := fun i => mrd (3 * i + 1)) (f := mcl) rfl
    have e2 := mapN_upd (i := i) (g := fun i => mrd (3 * i + 2)) (f := mws) rfl
    have e3 := mapN_upd (i := i) (g := mrh) (f := mho) rfl
    have e4 := mapN_upd (i := i) (g := fun i => mrd (3 * i)) (f := m) rfl
    simp (disch := omega) only [fX10_laundry_85, gX10_laundry_85, leS, show ¬ n ≤ i by omega, i_3, pk_mul, i_1, i_2, nI_add, inb_t, cl_s, reduceIte, e1, e2, e3, e4]) n 0 FU (by omega) (by unfold FU; omega)
  simp only [mapN_0] at key
  exact key
theorem laun_48 {n : Nat} (hn : n ≤ 5) {t p mrf mat mfa : Int32} {mrd mrh mik mcl mws mho mtx m : Nat → Int32} : fX10_laundry_48 (nI n) t p mcl mws mho mrd mrh mrf mtx mat mfa mik FU (0 : Int32) m = some (nI n, nI n, t, p, mapN n (fun i => mrd (3 * i + 1)) mcl, mapN n (fun i => mrd (3 * i + 2)) mws, mapN n mrh mho, mapN n (fun i => mrd (3 * i)) (upd (mapN 17 (fun _ => 0) m) 15 (mtx 3 - 48)), mrd, mrh, mrf, mat, mfa, 0, upd (upd mik 0 0) 1 0) := by
  have key := loop_seq (fun fu (s : Nat → Int32) x => fX10_laundry_48 (nI n) t p mcl mws mho mrd mrh mrf mtx mat mfa mik fu x s) (fun i => mapN i (fun _ => 0) m) 17 (some (nI n, nI n, t, p, mapN n (fun i => mrd (3 * i + 1)) mcl, mapN n (fun i => mrd (3 * i + 2)) mws, mapN n mrh mho, mapN n (fun i => mrd (3 * i)) (upd (mapN 17 (fun _ => 0) m) 15 (mtx 3 - 48)), mrd, mrh, mrf, mat, mfa, 0, upd (upd mik 0 0) 1 0)) (fun fu => by
    simp only [fX10_laundry_48, gX10_laundry_48, show (17 : Int32) ≤ nI 17 by decide, reduceIte, laun_85 hn]
    rfl) (fun fu i hi => by
    have e1 := mapN_upd (i := i) (g := fun _ => (0 : Int32)) (f := m) (v := 0) rfl
    simp (disch := omega) only [fX10_laundry_48, gX10_laundry_48, show ¬ (17 : Int32) ≤ nI i by rw [i_17, leS (by omega) (by omega)]; omega, reduceIte, inb_t, cl_s, nI_1, e1]) 17 0 FU (by omega) (by unfold FU; omega)
  simp only [mapN_0] at key
  exact key
/-- LAUNDRY -/
theorem sim_laundry {n tb : Nat} {hm : Nat → Nat} {length mlen first size mac mnx wi ho p pwi : Int32} {awh alf aco kwh klf kco : Nat → Nat → Int32} {awi aho mrow wh lf co m pco pcl phr pho mcl mws mho letters mtx kwi kho kept mik mkp : Nat → Int32} (h : TEXT length mlen letters mtx) (htb : tb ≤ 3) (P : PL n hm pcl phr pho mcl mws mho) (hN : ROW n tb 0 wh lf co wi ho m) (hA : ACT n tb first size awh alf aco awi aho mac mnx mrow) (hS : SLOT n tb kwh klf kco kwi kho kept mik mkp) (rco rcl ron rtubs rpegs rpwi : Int32) (rpco rpcl rphr rpho mrd mrh : Nat → Int32) :
    ∃ (r s1 s2 s3 s4 s5 s6 s7 s8 : Int32) (s9 s10 s11 s12 : Nat → Int32) (n' tb' : Nat) (hm' : Nat → Nat) (p' pwi' : Int32) (pco' pcl' phr' pho' wh' lf' co' : Nat → Int32) (wi' ho' first' size' : Int32) (kept' mcl' mws' mho' m' mrd' mrh' : Nat → Int32) (mrf' mat' mfa' mac' : Int32) (mik' : Nat → Int32), fX9_laundry letters length rco rcl ron rtubs rpegs rpwi rpco rpcl rphr rpho (nI tb) p pwi (nI n) pco pcl phr pho wh lf co wi ho first size kept = some (r, s1, s2, s3, s4, s5, s6, s7, s8, s9, s10, s11, s12, nI tb', p', pwi', nI n', pco', pcl', phr', pho', wh', lf', co', wi', ho', first', size', kept') ∧ fX10_laundry (nI n) (nI tb) p mcl mws mho m mrd mrh mtx mlen mac mik = some (r, nI n', nI tb', p', mcl', mws', mho', m', mrd', mrh', mrf', mat', mfa', mac', mik') ∧ tb' ≤ 3 ∧ PL n' hm' pcl' phr' pho' mcl' mws' mho' ∧ ROW n' tb' 0 wh' lf' co' wi' ho' m' ∧ ACT n' tb' first' size' awh alf aco awi aho mac' mnx mrow ∧ SLOT n' tb' kwh klf kco kwi kho kept' mik' mkp := by
  obtain ⟨len, hl, rfl, rfl, hk⟩ := h
  have bad : ∀ q, q ≤ 48 → (fX5_firstFault (nI len) rco rcl ron rtubs rpegs rpwi rpco rpcl rphr rpho letters).map (fun u => u.1) = some (nI q) → (fX10_readText mrd mrh mtx (nI len)).map (fun u => u.1) = some (nI q) → (∃ (r s1 s2 s3 s4 s5 s6 s7 s8 : Int32) (s9 s10 s11 s12 : Nat → Int32) (n' tb' : Nat) (hm' : Nat → Nat) (p' pwi' : Int32) (pco' pcl' phr' pho' wh' lf' co' : Nat → Int32) (wi' ho' first' size' : Int32) (kept' mcl' mws' mho' m' mrd' mrh' : Nat → Int32) (mrf' mat' mfa' mac' : Int32) (mik' : Nat → Int32), fX9_laundry letters (nI len) rco rcl ron rtubs rpegs rpwi rpco rpcl rphr rpho (nI tb) p pwi (nI n) pco pcl phr pho wh lf co wi ho first size kept = some (r, s1, s2, s3, s4, s5, s6, s7, s8, s9, s10, s11, s12, nI tb', p', pwi', nI n', pco', pcl', phr', pho', wh', lf', co', wi', ho', first', size', kept') ∧ fX10_laundry (nI n) (nI tb) p mcl mws mho m mrd mrh mtx (nI len) mac mik = some (r, nI n', nI tb', p', mcl', mws', mho', m', mrd', mrh', mrf', mat', mfa', mac', mik') ∧ tb' ≤ 3 ∧ PL n' hm' pcl' phr' pho' mcl' mws' mho' ∧ ROW n' tb' 0 wh' lf' co' wi' ho' m' ∧ ACT n' tb' first' size' awh alf aco awi aho mac' mnx mrow ∧ SLOT n' tb' kwh klf kco kwi kho kept' mik' mkp) := by
    intro q hq h1 h2
    obtain ⟨u, hu1, hu2⟩ := Option.map_eq_some_iff.mp h1
    obtain ⟨w, hw1, hw2⟩ := Option.map_eq_some_iff.mp h2
    unfold fX9_laundry fX10_laundry
    rw [hu1, hw1, obind, obind, hu2, hw2, if_neg (nI_9 (by omega)), if_neg (nI_9 (by omega))]
    exact ⟨_, _, _, _, _, _, _, _, _, _, _, _, _, n, tb, hm, _, _, _, _, _, _, _, _, _, _, _, _, _, _, _, _, _, _, _, _, _, _, _, _, _, rfl, rfl, htb, P, hN, hA, hS⟩
  rcases read_sim hl (fun k h => (hk k h).1) rco rcl ron rtubs rpegs rpwi rpco rpcl rphr rpho mrd mrh with ⟨q, hq, h1, h2⟩ | ⟨h4, ht, ⟨q, hq, h1, h2⟩ | ⟨n', hm', a1, a2, a3, a4, a5, a6, a7, a8, a9, a10, h1, h2, hR⟩⟩
  · exact bad q hq h1 h2
  · exact bad q hq h1 h2
  · clear bad
    have hte := (tk14 _).mp ht
    obtain ⟨tb', htb', hte'⟩ := (rng_cases (letters 1 - 48) 3 (by omega)).resolve_right (fun z => z ⟨by omega, by omega⟩)
    obtain ⟨hn', g2, g3, g4, g7⟩ := hR
    have c1 : mtx 1 = letters 1 := (hk 1 (by omega)).1
    have c2 : mtx 2 = letters 2 := (hk 2 (by omega)).1
    have c3 : mtx 3 = letters 3 := (hk 3 (by omega)).1
    have hcp : ∀ (f g : Nat → Int32) j, j < n' → va_cpy f g (0 : Int32).toNatClampNeg (0 : Int32).toNatClampNeg (5 : Int32).toNatClampNeg j = f j := fun f g j hj => cpy_at (by omega)
    obtain ⟨a, f, x, ha, hf, hx, rfl, rfl, rfl, rfl, hE⟩ := hA
    unfold fX9_laundry fX10_laundry
    rw [h1, h2, obind, obind, if_pos (show (-9 : Int32) = -9 from rfl), if_pos (show (-9 : Int32) = -9 from rfl)]
    unfold fX4_copyFrom fX0_forgetAll
    rw [obind]
    simp only [start_spec, obind, laun_c, laun_48 hn', show (1 : Int32).toNatClampNeg = 1 from rfl, show (2 : Int32).toNatClampNeg = 2 from rfl, c1, c2, c3, hte']
    refine ⟨_, _, _, _, _, _, _, _, _, _, _, _, _, n', tb', hm', _, _, _, _, _, _, _, _, _, _, _, _, _, _, _, _, _, _, _, _, _, _, _, _, _, rfl, rfl, htb', ⟨hn', fun i hi => ?_, fun i hi => ?_, fun i hi => ?_, g4.to (fun i hi => hcp _ _ i hi), fun i hi => ?_⟩, ⟨⟨fun j hj => ⟨?_, ?_, ?_⟩, ?_, ?_, fun _ _ => rfl⟩, ?_⟩, ⟨0, 0, x, by omega, by omega, hx, rfl, rfl, rfl, rfl, fun j hj => absurd hj (by omega)⟩, fun s hs => ⟨?_, fun z => ?_⟩⟩
    · rw [hcp _ _ i hi]; exact g3 i hi
    · rw [mapN_lt hi, hcp _ _ i hi]; exact (g2 i hi).2.1
    · rw [mapN_lt hi, hcp _ _ i hi]; exact (g2 i hi).2.2
    · rw [mapN_lt hi, hcp _ _ i hi, (g7 i (by omega)).1, (g4.1 i hi).1]
    · rw [Nat.mul_zero, Nat.zero_add, mapN_lt hj, mapN_lt (by omega), hcp _ _ j hj]; exact (g2 j hj).1
    · rw [show mapN 5 (fun _ => (0 : Int32)) wh j = 0 from mapN_lt (by omega)]
      unfold mapN
      rw [if_neg (by omega), updI, if_neg (by omega), if_pos (by omega)]
    · rw [show mapN 5 (fun _ => (0 : Int32)) lf j = 0 from mapN_lt (by omega)]
      unfold mapN
      rw [if_neg (by omega), updI, if_neg (by omega), if_pos (by omega)]
    · unfold mapN
      rw [if_neg (by omega), updI, if_pos rfl]
    · unfold mapN
      rw [if_neg (by omega), updI, if_neg (by omega), if_pos (by omega)]
    · unfold TUB
      rw [bitsN_cong (g := fun _ => false) (fun i hi => by rw [show mapN 5 (fun _ => (0 : Int32)) wh i = 0 from mapN_lt (by omega)]; decide), bitsN_F]
      show popN 0 ≤ tb'
      exact Nat.zero_le _
    · rw [show mapN 2 (fun _ => (0 : Int32)) kept s = 0 from mapN_lt hs, updI, updI]
      rcases (show s = 0 ∨ s = 1 by omega) with rfl | rfl <;> rfl
    · exact absurd (show mapN 2 (fun _ => (0 : Int32)) kept s = 0 from mapN_lt hs) z
