/-! ===== PURE LAYER: the text is read; fault ===== -/
theorem zero_rh {len : Nat} (mrd mrh mtx : Nat → Int32) : fX10_readText mrd mrh mtx (nI len) = (if nI len = 0 then (some ((0 : Int32), mrd, mapN 5 (fun _ => 0) mrh, (0 : Int32), (0 : Int32), (-9 : Int32)))
 else (if (mtx 0) = (85 : Int32) then ((fX10_takeOf (48 : Int32) (nI 14) mtx (nI len) (nI 1) (-9)).bind fun u4 => ((fX10_takeOf (48 : Int32) (nI 30) mtx (nI len) u4.2.1 u4.2.2).bind fun u5 => ((fX10_takeOf (48 : Int32) (nI 7) mtx (nI len) u5.2.1 u5.2.2).bind fun u6 => (fX10_readText_88 mtx (nI len) FU mrd (mapN 5 (fun _ => 0) mrh) (nI 0) u6.2.1 u6.2.2))))
 else (some ((0 : Int32), mrd, mapN 5 (fun _ => 0) mrh, (0 : Int32), (0 : Int32), (-9 : Int32))))) := by
  have key := loop_seq (fun fu (s : Nat → Int32) x => fX10_readText_18 mrd (0 : Int32) mtx (nI len) (0 : Int32) (-9 : Int32) fu x s) (fun i => mapN i (fun _ => 0) mrh) 5 (if nI len = 0 then (some ((0 : Int32), mrd, mapN 5 (fun _ => 0) mrh, (0 : Int32), (0 : Int32), (-9 : Int32)))
 else (if (mtx 0) = (85 : Int32) then ((fX10_takeOf (48 : Int32) (nI 14) mtx (nI len) (nI 1) (-9)).bind fun u4 => ((fX10_takeOf (48 : Int32) (nI 30) mtx (nI len) u4.2.1 u4.2.2).bind fun u5 => ((fX10_takeOf (48 : Int32) (nI 7) mtx (nI len) u5.2.1 u5.2.2).bind fun u6 => (fX10_readText_88 mtx (nI len) FU mrd (mapN 5 (fun _ => 0) mrh) (nI 0) u6.2.1 u6.2.2))))
 else (some ((0 : Int32), mrd, mapN 5 (fun _ => 0) mrh, (0 : Int32), (0 : Int32), (-9 : Int32))))) (fun fu => by
    show gX10_readText_18 _ _ _ _ _ _ _ _ _ = _
    unfold gX10_readText_18
    rw [if_pos (show (5 : Int32) ≤ nI 5 by decide)]
    rfl) (fun fu i hi => by
    have e := mapN_upd (i := i) (g := fun _ => (0 : Int32)) (f := mrh) (v := 0) rfl
    show gX10_readText_18 _ _ _ _ _ _ _ _ _ = _
    unfold gX10_readText_18
    rw [if_neg (by rw [i_5, leS (by omega) (by omega)]; omega), inb_t (by omega) (by omega), if_pos rfl, cl_s (by omega), e, nI_1]) 5 0 FU (by omega) (by unfold FU; omega)
  simp only [mapN_0] at key
  exact key
/-- the whole text: both readers end alike -/
theorem read_sim {len : Nat} {letters mtx : Nat → Int32} (hl : len ≤ 48) (hT : ∀ k, k < len → mtx k = letters k) (rco rcl ron rtubs rpegs rpwi : Int32) (rpco rpcl rphr rpho mrd mrh : Nat → Int32) :
    (∃ q, q ≤ 48 ∧ (fX5_firstFault (nI len) rco rcl ron rtubs rpegs rpwi rpco rpcl rphr rpho letters).map (fun u => u.1) = some (nI q) ∧ (fX10_readText mrd mrh mtx (nI len)).map (fun u => u.1) = some (nI q)) ∨
    (4 ≤ len ∧ TK 14 (letters 1 - 48) ∧ RDP (letters 1 - 48) (letters 2 - 48) (letters 3 - 48) (fX5_firstFault (nI len) rco rcl ron rtubs rpegs rpwi rpco rpcl rphr rpho letters) (fX10_readText mrd mrh mtx (nI len))) := by
  have hC : fX5_firstFault (nI len) rco rcl ron rtubs rpegs rpwi rpco rpcl rphr rpho letters = fX5_firstFault_15 (nI len) letters (96 + 1 + 1 + 1 + 1) (nI 0) 0 rco rcl ron rtubs rpegs rpwi (nI 0) rpco rpcl rphr rpho := rfl
  rw [hC, zero_rh]
  have h0 : RD 0 (fun _ => 0) rpco rpcl rphr rpho mrd (mapN 5 (fun _ => 0) mrh) := ⟨by omega, fun i hi => absurd hi (by omega), fun i hi => absurd hi (by omega), ⟨fun i hi => absurd hi (by omega), fun i j hi => absurd hi (by omega), fun i hi => absurd hi (by omega)⟩, fun i hi => ⟨mapN_lt hi, show 0 < 32 by omega, fun _ => rfl⟩⟩
  by_cases o0 : 0 < len ∧ letters 0 = 85
  · rw [ff_go hl o0.1 (tk0_y o0.2), if_neg (nI_ne0 o0.1 (by omega)), if_pos (by rw [hT 0 o0.1]; exact o0.2)]
    by_cases o1 : 0 + 1 < len ∧ TK 14 (letters (0 + 1) - 48)
    · have t1 := take_y (M := 14) (x := 48) (mtx := mtx) (by decide) hl o1.1 (by rw [hT _ o1.1]; exact o1.2)
      rw [ff_go hl o1.1 (tk1_y o1.2)]
      by_cases o2 : 0 + 1 + 1 < len ∧ TK 30 (letters (0 + 1 + 1) - 48)
      · have t2 := take_y (M := 30) (x := 48) (mtx := mtx) (by decide) hl o2.1 (by rw [hT _ o2.1]; exact o2.2)
        rw [ff_go hl o2.1 (tk2_y o2.2)]
        by_cases o3 : 0 + 1 + 1 + 1 < len ∧ TK 7 (letters (0 + 1 + 1 + 1) - 48)
        · have t3 := take_y (M := 7) (x := 48) (mtx := mtx) (by decide) hl o3.1 (by rw [hT _ o3.1]; exact o3.2)
          rw [ff_go hl o3.1 (tk3_y o3.2)]
          simp only [Nat.zero_add, Nat.reduceAdd] at t1 t2 t3 o1 o2 o3 ⊢
          simp only [t1, t2, t3, obind]
          exact Or.inr ⟨by omega, o1.2, parts_sim hl hT len 4 96 FU 0 (fun _ => 0) _ _ _ _ _ _ _ _ _ (by omega) (by omega) (by omega) (by unfold FU; omega) h0⟩
        · have t3 := take_n (M := 7) (x := 48) (mtx := mtx) (a := 0 + 1 + 1 + 1) (by decide) hl (by omega) (fun z => o3 ⟨z.1, by rw [← hT _ z.1]; exact z.2⟩)
          refine Or.inl ⟨0 + 1 + 1 + 1, by omega, ff_no hl (by omega) (by decide) (fun q => tk3_n (fun z => o3 ⟨q, z⟩)), ?_⟩
          simp only [Nat.zero_add, Nat.reduceAdd] at t1 t2 t3 ⊢
          simp only [t1, t2, t3, obind]
          exact rt_bad (fu := 99) (by omega)
      · have t2 := take_n (M := 30) (x := 48) (mtx := mtx) (a := 0 + 1 + 1) (by decide) hl (by omega) (fun z => o2 ⟨z.1, by rw [← hT _ z.1]; exact z.2⟩)
        refine Or.inl ⟨0 + 1 + 1, by omega, ff_no hl (by omega) (by decide) (fun q => tk2_n (fun z => o2 ⟨q, z⟩)), ?_⟩
        simp only [Nat.zero_add, Nat.reduceAdd] at t1 t2 ⊢
        simp (disch := omega) only [t1, t2, obind, take_b]
        exact rt_bad (fu := 99) (by omega)
    · have t1 := take_n (M := 14) (x := 48) (mtx := mtx) (a := 0 + 1) (by decide) hl (by omega) (fun z => o1 ⟨z.1, by rw [← hT _ z.1]; exact z.2⟩)
      refine Or.inl ⟨0 + 1, by omega, ff_no hl (by omega) (by decide) (fun q => tk1_n (fun z => o1 ⟨q, z⟩)), ?_⟩
      simp only [Nat.zero_add] at t1 ⊢
      simp (disch := omega) only [t1, obind, take_b]
      exact rt_bad (fu := 99) (by omega)
  · refine Or.inl ⟨0, by omega, ff_no hl (by omega) (by decide) (fun q => tk0_n (fun z => o0 ⟨q, z⟩)), ?_⟩
    by_cases z : len = 0
    · rw [if_pos (by rw [z]; rfl)]; rfl
    · rw [if_neg (nI_ne0 (by omega) (by omega)), if_neg (by rw [hT 0 (by omega)]; exact fun w => o0 ⟨by omega, w⟩)]; rfl
/-- FAULT -/
theorem sim_fault {length mlen : Int32} {letters mtx : Nat → Int32} (h : TEXT length mlen letters mtx) (rco rcl ron rtubs rpegs rpwi : Int32) (rpco rpcl rphr rpho mrd mrh : Nat → Int32) :
    ∃ r A B, fX9_fault letters length rco rcl ron rtubs rpegs rpwi rpco rpcl rphr rpho = some (r, A) ∧ fX10_fault mrd mrh mtx mlen = some (r, B) := by
  obtain ⟨len, hl, rfl, rfl, hk⟩ := h
  unfold fX9_fault fX10_fault
  rcases read_sim hl (fun k h => (hk k h).1) rco rcl ron rtubs rpegs rpwi rpco rpcl rphr rpho mrd mrh with ⟨q, hq, h1, h2⟩ | ⟨-, -, ⟨q, hq, h1, h2⟩ | ⟨n', hm', a1, a2, a3, a4, a5, a6, a7, a8, a9, a10, h1, h2, -⟩⟩
  · obtain ⟨u, hu1, hu2⟩ := Option.map_eq_some_iff.mp h1
    obtain ⟨w, hw1, hw2⟩ := Option.map_eq_some_iff.mp h2
    rw [hu1, hw1, obind, obind, hu2, hw2]
    exact ⟨_, _, _, rfl, rfl⟩
  · obtain ⟨u, hu1, hu2⟩ := Option.map_eq_some_iff.mp h1
    obtain ⟨w, hw1, hw2⟩ := Option.map_eq_some_iff.mp h2
    rw [hu1, hw1, obind, obind, hu2, hw2]
    exact ⟨_, _, _, rfl, rfl⟩
  · rw [h1, h2, obind, obind]
    exact ⟨_, _, _, rfl, rfl⟩
