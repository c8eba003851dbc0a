/-! ===== FlagWash$Game.isRest ===== -/
def fX3_isRest  (x1 : Int32) (x2 : Int32) (x3 : Int32) (x4 : Int32) (flags : Int32) (phr : (Nat → Int32)) (pho : (Nat → Int32)) : Option (Bool) :=
 ((fX3_gain x1 x2 x3 x4 flags phr pho).bind fun u1 => ((fX3_gain x1 x2 ((1 : Int32) - x3) x4 flags phr pho).bind fun u2 => (if u1 < u2 then (some false)
 else ((fX3_gain x2 x1 x4 x3 flags phr pho).bind fun u4 => ((fX3_gain x2 x1 ((1 : Int32) - x4) x3 flags phr pho).bind fun u5 => (if u4 < u5 then (some false)
 else (some true)))))))
theorem hd_X3_isRest : yX3_isRest.cls ≠ "java/lang/invoke/MethodHandle" ∧ yX3_isRest.cls ≠ "java/lang/invoke/VarHandle" ∧ (parseMethodDescriptor yX3_isRest.desc).map (fun d => d.parameters.length) = some 5 := by decide +kernel
set_option maxHeartbeats 4000000 in
set_option maxRecDepth 100000 in
theorem kX3_isRest {l : Launch} {D : va_G} {cyI cyZ cyW : ClassId} {zW zO : Nat} {p0 : Nat} {p1 : Nat} {p2 : Nat} {p3 : Nat} {p4 : Nat} {tubs : Int32} {pegs : Int32} {pwi : Int32} {flags : Int32} {pco : (Nat → Int32)} {pcl : (Nat → Int32)} {phr : (Nat → Int32)} {pho : (Nat → Int32)} {x1 : Int32} {x2 : Int32} {x3 : Int32} {x4 : Int32} {res : Bool} (h : fX3_isRest x1 x2 x3 x4 flags phr pho = some res) : KI l yX3_isRest wsX3_isRest ({ frames := 3, cells := 0, slots := 0, locals := 67 } : Room) D (tyA cyI cyZ cyW) zW zO [.ref p0, .int x1, .int x2, .int x3, .int x4] (wP cyI cyZ cyW p0 p1 p2 p3 p4 tubs pegs pwi flags pco pcl phr pho) (wP cyI cyZ cyW p0 p1 p2 p3 p4 tubs pegs pwi flags pco pcl phr pho) (b2i res) := by
  refine enterI (cc := cX3_isRest) (nL := 5) (ret := (some .boolean)) (by decide) rfl (Nat.le_of_ble_eq_true rfl) (fun p e s m below meth c A C => ?_)
  refine r_lv (lv' := [(0, .ref p0), (1, .int x1), (2, .int x2), (3, .int x3), (4, .int x4)]) [0, 1, 2, 3, 4] rfl ?_
  unfold fX3_isRest at h
  refine r_aload_n C dX3_isRest_0 0 rfl rfl ?_
  refine r_iload_n C dX3_isRest_1 1 rfl rfl ?_
  refine r_iload_n C dX3_isRest_2 2 rfl rfl ?_
  refine r_iload_n C dX3_isRest_3 3 rfl rfl ?_
  refine r_iload C dX3_isRest_4 4 rfl ?_
  obtain ⟨u1, hu1, h⟩ := ob_bind h
  refine r_readSI (As := [.ref p0, .int x1, .int x2, .int x3, .int x4]) (rest := []) C (kX3_gain (p0 := p0) (p1 := p1) (p2 := p2) (p3 := p3) (p4 := p4) (tubs := tubs) (pegs := pegs) (pwi := pwi) (flags := flags) (pco := pco) (pcl := pcl) (phr := phr) (pho := pho) (x1 := x1) (x2 := x2) (x3 := x3) (x4 := x4) hu1) gX3_isRest_X3_gain rfl rfl rfl hd_X3_gain ⟨by decide, by decide⟩ rfl [0, 1, 2, 3, 4] (by decide) in_40 rfl (Nat.le_of_ble_eq_true rfl) dX3_isRest_6 ⟨Nat.zero_le _, Nat.zero_le _⟩ ?_
  refine r_aload_n C dX3_isRest_9 0 rfl rfl ?_
  refine r_iload_n C dX3_isRest_10 1 rfl rfl ?_
  refine r_iload_n C dX3_isRest_11 2 rfl rfl ?_
  refine r_iconst (v := 1) C dX3_isRest_12 ic_1 ?_
  refine r_iload_n C dX3_isRest_13 3 rfl rfl ?_
  refine r_isub C dX3_isRest_14 ?_
  refine r_iload C dX3_isRest_15 4 rfl ?_
  obtain ⟨u2, hu2, h⟩ := ob_bind h
  refine r_readSI (As := [.ref p0, .int x1, .int x2, .int ((1 : Int32) - x3), .int x4]) (rest := [.int u1]) C (kX3_gain (p0 := p0) (p1 := p1) (p2 := p2) (p3 := p3) (p4 := p4) (tubs := tubs) (pegs := pegs) (pwi := pwi) (flags := flags) (pco := pco) (pcl := pcl) (phr := phr) (pho := pho) (x1 := x1) (x2 := x2) (x3 := ((1 : Int32) - x3)) (x4 := x4) hu2) gX3_isRest_X3_gain rfl rfl rfl hd_X3_gain ⟨by decide, by decide⟩ rfl [0, 1, 2, 3, 4] (by decide) in_40 rfl (Nat.le_of_ble_eq_true rfl) dX3_isRest_17 ⟨Nat.zero_le _, Nat.zero_le _⟩ ?_
  refine r_icmp_lt (tgt := 50) C dX3_isRest_20 (by decide) (fun c3 => ?_) (fun c3 => ?_)
  · replace h := ob_t h c3
    refine r_iconst (v := 0) C dX3_isRest_50 ic_0 ?_
    have h9 := Option.some.inj h
    subst h9
    exact r_zret (b := false) C rfl dX3_isRest_51
  · replace h := ob_f h c3
    refine r_aload_n C dX3_isRest_23 0 rfl rfl ?_
    refine r_iload_n C dX3_isRest_24 2 rfl rfl ?_
    refine r_iload_n C dX3_isRest_25 1 rfl rfl ?_
    refine r_iload C dX3_isRest_26 4 rfl ?_
    refine r_iload_n C dX3_isRest_28 3 rfl rfl ?_
    obtain ⟨u4, hu4, h⟩ := ob_bind h
    refine r_readSI (As := [.ref p0, .int x2, .int x1, .int x4, .int x3]) (rest := []) C (kX3_gain (p0 := p0) (p1 := p1) (p2 := p2) (p3 := p3) (p4 := p4) (tubs := tubs) (pegs := pegs) (pwi := pwi) (flags := flags) (pco := pco) (pcl := pcl) (phr := phr) (pho := pho) (x1 := x2) (x2 := x1) (x3 := x4) (x4 := x3) hu4) gX3_isRest_X3_gain rfl rfl rfl hd_X3_gain ⟨by decide, by decide⟩ rfl [0, 1, 2, 3, 4] (by decide) in_40 rfl (Nat.le_of_ble_eq_true rfl) dX3_isRest_29 ⟨Nat.zero_le _, Nat.zero_le _⟩ ?_
    refine r_aload_n C dX3_isRest_32 0 rfl rfl ?_
    refine r_iload_n C dX3_isRest_33 2 rfl rfl ?_
    refine r_iload_n C dX3_isRest_34 1 rfl rfl ?_
    refine r_iconst (v := 1) C dX3_isRest_35 ic_1 ?_
    refine r_iload C dX3_isRest_36 4 rfl ?_
    refine r_isub C dX3_isRest_38 ?_
    refine r_iload_n C dX3_isRest_39 3 rfl rfl ?_
    obtain ⟨u5, hu5, h⟩ := ob_bind h
    refine r_readSI (As := [.ref p0, .int x2, .int x1, .int ((1 : Int32) - x4), .int x3]) (rest := [.int u4]) C (kX3_gain (p0 := p0) (p1 := p1) (p2 := p2) (p3 := p3) (p4 := p4) (tubs := tubs) (pegs := pegs) (pwi := pwi) (flags := flags) (pco := pco) (pcl := pcl) (phr := phr) (pho := pho) (x1 := x2) (x2 := x1) (x3 := ((1 : Int32) - x4)) (x4 := x3) hu5) gX3_isRest_X3_gain rfl rfl rfl hd_X3_gain ⟨by decide, by decide⟩ rfl [0, 1, 2, 3, 4] (by decide) in_40 rfl (Nat.le_of_ble_eq_true rfl) dX3_isRest_40 ⟨Nat.zero_le _, Nat.zero_le _⟩ ?_
    refine r_icmp_lt (tgt := 50) C dX3_isRest_43 (by decide) (fun c6 => ?_) (fun c6 => ?_)
    · replace h := ob_t h c6
      refine r_iconst (v := 0) C dX3_isRest_50 ic_0 ?_
      have h9 := Option.some.inj h
      subst h9
      exact r_zret (b := false) C rfl dX3_isRest_51
    · replace h := ob_f h c6
      refine r_iconst (v := 1) C dX3_isRest_46 ic_1 ?_
      refine r_goto (tgt := 51) C dX3_isRest_47 (by decide) ?_
      have h9 := Option.some.inj h
      subst h9
      exact r_zret (b := true) C rfl dX3_isRest_51

/-! ===== FlagWash$Game.howManyRests ===== -/
def fX3_howManyRests_36 (rec5 : Int32 → Int32 → Option (Int32)) (rec14 : Int32 → Int32 → Option (Int32)) (x1 : Int32) (x2 : Int32) (x3 : Int32) (x4 : Int32) (x5 : Int32) (flags : Int32) (phr : (Nat → Int32)) (pho : (Nat → Int32)) : Option (Int32) :=
 (rec14 x3 (x5 + (1 : Int32)))
def gX3_howManyRests_14 (rec5 : Int32 → Int32 → Option (Int32)) (rec14 : Int32 → Int32 → Option (Int32)) (x1 : Int32) (x2 : Int32) (x3 : Int32) (x4 : Int32) (x5 : Int32) (flags : Int32) (phr : (Nat → Int32)) (pho : (Nat → Int32)) : Option (Int32) :=
 (if (1 : Int32) < x5 then (rec5 x3 (x4 + (1 : Int32)))
 else ((fX3_isRest x1 x2 x4 x5 flags phr pho).bind fun u3 => (if u3 = true then (fX3_howManyRests_36 rec5 rec14 x1 x2 (x3 + (1 : Int32)) x4 x5 flags phr pho)
 else (fX3_howManyRests_36 rec5 rec14 x1 x2 x3 x4 x5 flags phr pho))))
def fX3_howManyRests_14 (rec5 : Int32 → Int32 → Option (Int32)) (x1 : Int32) (x2 : Int32) (x4 : Int32) (flags : Int32) (phr : (Nat → Int32)) (pho : (Nat → Int32)) : Nat → Int32 → Int32 → Option (Int32)
  | 0 => fun _ _ => none
  | n + 1 => fun x3 x5 => gX3_howManyRests_14 rec5 (fX3_howManyRests_14 rec5 x1 x2 x4 flags phr pho n) x1 x2 x3 x4 x5 flags phr pho
def gX3_howManyRests_5 (rec5 : Int32 → Int32 → Option (Int32)) (x1 : Int32) (x2 : Int32) (x3 : Int32) (x4 : Int32) (flags : Int32) (phr : (Nat → Int32)) (pho : (Nat → Int32)) : Option (Int32) :=
 (if (1 : Int32) < x4 then (some x3)
 else (fX3_howManyRests_14 rec5 x1 x2 x4 flags phr pho FU x3 (0 : Int32)))
def fX3_howManyRests_5  (x1 : Int32) (x2 : Int32) (flags : Int32) (phr : (Nat → Int32)) (pho : (Nat → Int32)) : Nat → Int32 → Int32 → Option (Int32)
  | 0 => fun _ _ => none
  | n + 1 => fun x3 x4 => gX3_howManyRests_5 (fX3_howManyRests_5  x1 x2 flags phr pho n) x1 x2 x3 x4 flags phr pho
def fX3_howManyRests  (x1 : Int32) (x2 : Int32) (flags : Int32) (phr : (Nat → Int32)) (pho : (Nat → Int32)) : Option (Int32) :=
 (fX3_howManyRests_5  x1 x2 flags phr pho FU (0 : Int32) (0 : Int32))
theorem hd_X3_howManyRests : yX3_howManyRests.cls ≠ "java/lang/invoke/MethodHandle" ∧ yX3_howManyRests.cls ≠ "java/lang/invoke/VarHandle" ∧ (parseMethodDescriptor yX3_howManyRests.desc).map (fun d => d.parameters.length) = some 3 := by decide +kernel
set_option maxHeartbeats 4000000 in
set_option maxRecDepth 100000 in
theorem LX3_howManyRests_36 {p : Program} {l : Launch} {e : Env} {s : State} {m : MethodId} {args : Array Value} {below : List Frame} {meth : Method} {c : Code} {D : va_G} {cyI cyZ cyW : ClassId} {zW zO : Nat} {A : Nat → Prop} (C : Cx p s m args meth c cX3_howManyRests RX3 "howManyRests" wsX3_howManyRests (some .int) 6 D (tyA cyI cyZ cyW) zW zO A) {p0 : Nat} {p1 : Nat} {p2 : Nat} {p3 : Nat} {p4 : Nat} {tubs : Int32} {pegs : Int32} {pwi : Int32} {flags : Int32} {pco : (Nat → Int32)} {pcl : (Nat → Int32)} {phr : (Nat → Int32)} {pho : (Nat → Int32)} {x1 : Int32} {x2 : Int32} {x3 : Int32} {x4 : Int32} {x5 : Int32} {rec5 : Int32 → Int32 → Option (Int32)} {rec14 : Int32 → Int32 → Option (Int32)} {res : Int32} (hrec5 : ∀ (x3 : Int32) (x4 : Int32), rec5 x3 x4 = some res → Mx p l e ({ frames := 4, cells := 0, slots := 0, locals := 91 } : Room) s m args below meth c (MQ below (QI D (tyA cyI cyZ cyW) A (wP cyI cyZ cyW p0 p1 p2 p3 p4 tubs pegs pwi flags pco pcl phr pho) res) args s 0 0 A) 6 D A 0 0 (wP cyI cyZ cyW p0 p1 p2 p3 p4 tubs pegs pwi flags pco pcl phr pho) 5 [(0, .ref p0), (1, .int x1), (2, .int x2), (3, .int x3), (4, .int x4)] []) (hrec14 : ∀ (x3 : Int32) (x5 : Int32), rec14 x3 x5 = some res → Mx p l e ({ frames := 4, cells := 0, slots := 0, locals := 91 } : Room) s m args below meth c (MQ below (QI D (tyA cyI cyZ cyW) A (wP cyI cyZ cyW p0 p1 p2 p3 p4 tubs pegs pwi flags pco pcl phr pho) res) args s 0 0 A) 6 D A 0 0 (wP cyI cyZ cyW p0 p1 p2 p3 p4 tubs pegs pwi flags pco pcl phr pho) 14 [(0, .ref p0), (1, .int x1), (2, .int x2), (3, .int x3), (4, .int x4), (5, .int x5)] []) (h : fX3_howManyRests_36 rec5 rec14 x1 x2 x3 x4 x5 flags phr pho = some res) : Mx p l e ({ frames := 4, cells := 0, slots := 0, locals := 91 } : Room) s m args below meth c (MQ below (QI D (tyA cyI cyZ cyW) A (wP cyI cyZ cyW p0 p1 p2 p3 p4 tubs pegs pwi flags pco pcl phr pho) res) args s 0 0 A) 6 D A 0 0 (wP cyI cyZ cyW p0 p1 p2 p3 p4 tubs pegs pwi flags pco pcl phr pho) 36 [(0, .ref p0), (1, .int x1), (2, .int x2), (3, .int x3), (4, .int x4), (5, .int x5)] [] := by
  unfold fX3_howManyRests_36 at h
  refine r_iinc (v := 1) (lv' := [(5, .int (x5 + (1 : Int32))), (0, .ref p0), (1, .int x1), (2, .int x2), (3, .int x3), (4, .int x4)]) C dX3_howManyRests_36 5 rfl ic_1 (by decide) rfl ?_
  refine r_goto (tgt := 14) C dX3_howManyRests_39 (by decide) ?_
  refine r_lv (lv' := [(0, .ref p0), (1, .int x1), (2, .int x2), (3, .int x3), (4, .int x4), (5, .int (x5 + (1 : Int32)))]) [1, 2, 3, 4, 5, 0] rfl ?_
  exact hrec14 x3 (x5 + (1 : Int32)) h
set_option maxHeartbeats 4000000 in
set_option maxRecDepth 100000 in
theorem LGX3_howManyRests_14 {p : Program} {l : Launch} {e : Env} {s : State} {m : MethodId} {args : Array Value} {below : List Frame} {meth : Method} {c : Code} {D : va_G} {cyI cyZ cyW : ClassId} {zW zO : Nat} {A : Nat → Prop} (C : Cx p s m args meth c cX3_howManyRests RX3 "howManyRests" wsX3_howManyRests (some .int) 6 D (tyA cyI cyZ cyW) zW zO A) {p0 : Nat} {p1 : Nat} {p2 : Nat} {p3 : Nat} {p4 : Nat} {tubs : Int32} {pegs : Int32} {pwi : Int32} {flags : Int32} {pco : (Nat → Int32)} {pcl : (Nat → Int32)} {phr : (Nat → Int32)} {pho : (Nat → Int32)} {x1 : Int32} {x2 : Int32} {x3 : Int32} {x4 : Int32} {x5 : Int32} {rec5 : Int32 → Int32 → Option (Int32)} {rec14 : Int32 → Int32 → Option (Int32)} {res : Int32} (hrec5 : ∀ (x3 : Int32) (x4 : Int32), rec5 x3 x4 = some res → Mx p l e ({ frames := 4, cells := 0, slots := 0, locals := 91 } : Room) s m args below meth c (MQ below (QI D (tyA cyI cyZ cyW) A (wP cyI cyZ cyW p0 p1 p2 p3 p4 tubs pegs pwi flags pco pcl phr pho) res) args s 0 0 A) 6 D A 0 0 (wP cyI cyZ cyW p0 p1 p2 p3 p4 tubs pegs pwi flags pco pcl phr pho) 5 [(0, .ref p0), (1, .int x1), (2, .int x2), (3, .int x3), (4, .int x4)] []) (hrec14 : ∀ (x3 : Int32) (x5 : Int32), rec14 x3 x5 = some res → Mx p l e ({ frames := 4, cells := 0, slots := 0, locals := 91 } : Room) s m args below meth c (MQ below (QI D (tyA cyI cyZ cyW) A (wP cyI cyZ cyW p0 p1 p2 p3 p4 tubs pegs pwi flags pco pcl phr pho) res) args s 0 0 A) 6 D A 0 0 (wP cyI cyZ cyW p0 p1 p2 p3 p4 tubs pegs pwi flags pco pcl phr pho) 14 [(0, .ref p0), (1, .int x1), (2, .int x2), (3, .int x3), (4, .int x4), (5, .int x5)] []) (h : gX3_howManyRests_14 rec5 rec14 x1 x2 x3 x4 x5 flags phr pho = some res) : Mx p l e ({ frames := 4, cells := 0, slots := 0, locals := 91 } : Room) s m args below meth c (MQ below (QI D (tyA cyI cyZ cyW) A (wP cyI cyZ cyW p0 p1 p2 p3 p4 tubs pegs pwi flags pco pcl phr pho) res) args s 0 0 A) 6 D A 0 0 (wP cyI cyZ cyW p0 p1 p2 p3 p4 tubs pegs pwi flags pco pcl phr pho) 14 [(0, .ref p0), (1, .int x1), (2, .int x2), (3, .int x3), (4, .int x4), (5, .int x5)] [] := by
  unfold gX3_howManyRests_14 at h
  refine r_iload C dX3_howManyRests_14 5 rfl ?_
  refine r_iconst (v := 1) C dX3_howManyRests_16 ic_1 ?_
  refine r_icmp_gt (tgt := 42) C dX3_howManyRests_17 (by decide) (fun c2 => ?_) (fun c2 => ?_)
  · replace h := ob_t h c2
    refine r_iinc (v := 1) (lv' := [(4, .int (x4 + (1 : Int32))), (0, .ref p0), (1, .int x1), (2, .int x2), (3, .int x3), (5, .int x5)]) C dX3_howManyRests_42 4 rfl ic_1 (by decide) rfl ?_
    refine r_goto (tgt := 5) C dX3_howManyRests_45 (by decide) ?_
    refine r_lv (lv' := [(0, .ref p0), (1, .int x1), (2, .int x2), (3, .int x3), (4, .int (x4 + (1 : Int32)))]) [1, 2, 3, 4, 0] rfl ?_
    exact hrec5 x3 (x4 + (1 : Int32)) h
  · replace h := ob_f h c2
    refine r_aload_n C dX3_howManyRests_20 0 rfl rfl ?_
    refine r_iload_n C dX3_howManyRests_21 1 rfl rfl ?_
    refine r_iload_n C dX3_howManyRests_22 2 rfl rfl ?_
    refine r_iload C dX3_howManyRests_23 4 rfl ?_
    refine r_iload C dX3_howManyRests_25 5 rfl ?_
    obtain ⟨u3, hu3, h⟩ := ob_bind h
    refine r_readSI (As := [.ref p0, .int x1, .int x2, .int x4, .int x5]) (rest := []) C (kX3_isRest (p0 := p0) (p1 := p1) (p2 := p2) (p3 := p3) (p4 := p4) (tubs := tubs) (pegs := pegs) (pwi := pwi) (flags := flags) (pco := pco) (pcl := pcl) (phr := phr) (pho := pho) (x1 := x1) (x2 := x2) (x3 := x4) (x4 := x5) hu3) gX3_howManyRests_X3_isRest rfl rfl rfl hd_X3_isRest ⟨by decide, by decide⟩ rfl [0, 1, 2, 3, 4] (by decide) in_40 rfl (Nat.le_of_ble_eq_true rfl) dX3_howManyRests_27 ⟨Nat.zero_le _, Nat.zero_le _⟩ ?_
    refine r_ifb_eq (tgt := 36) C dX3_howManyRests_30 (by decide) (fun c4 => ?_) (fun c4 => ?_)
    · replace h := ob_bf h c4
      refine r_lv (lv' := [(0, .ref p0), (1, .int x1), (2, .int x2), (3, .int x3), (4, .int x4), (5, .int x5)]) [0, 1, 2, 3, 4, 5] rfl ?_
      exact LX3_howManyRests_36 C (x1 := x1) (x2 := x2) (x3 := x3) (x4 := x4) (x5 := x5) (tubs := tubs) (pegs := pegs) (pwi := pwi) (flags := flags) (pco := pco) (pcl := pcl) (phr := phr) (pho := pho) hrec5 hrec14 h
    · replace h := ob_t h c4
      refine r_iinc (v := 1) (lv' := [(3, .int (x3 + (1 : Int32))), (0, .ref p0), (1, .int x1), (2, .int x2), (4, .int x4), (5, .int x5)]) C dX3_howManyRests_33 3 rfl ic_1 (by decide) rfl ?_
      refine r_lv (lv' := [(0, .ref p0), (1, .int x1), (2, .int x2), (3, .int (x3 + (1 : Int32))), (4, .int x4), (5, .int x5)]) [1, 2, 3, 0, 4, 5] rfl ?_
      exact LX3_howManyRests_36 C (x1 := x1) (x2 := x2) (x3 := (x3 + (1 : Int32))) (x4 := x4) (x5 := x5) (tubs := tubs) (pegs := pegs) (pwi := pwi) (flags := flags) (pco := pco) (pcl := pcl) (phr := phr) (pho := pho) hrec5 hrec14 h
set_option maxHeartbeats 4000000 in
set_option maxRecDepth 100000 in
theorem LX3_howManyRests_14 {p : Program} {l : Launch} {e : Env} {s : State} {m : MethodId} {args : Array Value} {below : List Frame} {meth : Method} {c : Code} {D : va_G} {cyI cyZ cyW : ClassId} {zW zO : Nat} {A : Nat → Prop} (C : Cx p s m args meth c cX3_howManyRests RX3 "howManyRests" wsX3_howManyRests (some .int) 6 D (tyA cyI cyZ cyW) zW zO A) {p0 : Nat} {p1 : Nat} {p2 : Nat} {p3 : Nat} {p4 : Nat} {x1 : Int32} {x2 : Int32} {x4 : Int32} {tubs : Int32} {pegs : Int32} {pwi : Int32} {flags : Int32} {pco : (Nat → Int32)} {pcl : (Nat → Int32)} {phr : (Nat → Int32)} {pho : (Nat → Int32)} {rec5 : Int32 → Int32 → Option (Int32)} {res : Int32} (hrec5 : ∀ (x3 : Int32) (x4 : Int32), rec5 x3 x4 = some res → Mx p l e ({ frames := 4, cells := 0, slots := 0, locals := 91 } : Room) s m args below meth c (MQ below (QI D (tyA cyI cyZ cyW) A (wP cyI cyZ cyW p0 p1 p2 p3 p4 tubs pegs pwi flags pco pcl phr pho) res) args s 0 0 A) 6 D A 0 0 (wP cyI cyZ cyW p0 p1 p2 p3 p4 tubs pegs pwi flags pco pcl phr pho) 5 [(0, .ref p0), (1, .int x1), (2, .int x2), (3, .int x3), (4, .int x4)] []) : ∀ (n : Nat) (x3 : Int32) (x5 : Int32), fX3_howManyRests_14 rec5 x1 x2 x4 flags phr pho n x3 x5 = some res → Mx p l e ({ frames := 4, cells := 0, slots := 0, locals := 91 } : Room) s m args below meth c (MQ below (QI D (tyA cyI cyZ cyW) A (wP cyI cyZ cyW p0 p1 p2 p3 p4 tubs pegs pwi flags pco pcl phr pho) res) args s 0 0 A) 6 D A 0 0 (wP cyI cyZ cyW p0 p1 p2 p3 p4 tubs pegs pwi flags pco pcl phr pho) 14 [(0, .ref p0), (1, .int x1), (2, .int x2), (3, .int x3), (4, .int x4), (5, .int x5)] [] := by
  intro n
  induction n with
  | zero => intro x3 x5 h; cases h
  | succ n ih => intro x3 x5 h; exact LGX3_howManyRests_14 C hrec5 ih h
set_option maxHeartbeats 4000000 in
set_option maxRecDepth 100000 in
theorem LGX3_howManyRests_5 {p : Program} {l : Launch} {e : Env} {s : State} {m : MethodId} {args : Array Value} {below : List Frame} {meth : Method} {c : Code} {D : va_G} {cyI cyZ cyW : ClassId} {zW zO : Nat} {A : Nat → Prop} (C : Cx p s m args meth c cX3_howManyRests RX3 "howManyRests" wsX3_howManyRests (some .int) 6 D (tyA cyI cyZ cyW) zW zO A) {p0 : Nat} {p1 : Nat} {p2 : Nat} {p3 : Nat} {p4 : Nat} {tubs : Int32} {pegs : Int32} {pwi : Int32} {flags : Int32} {pco : (Nat → Int32)} {pcl : (Nat → Int32)} {phr : (Nat → Int32)} {pho : (Nat → Int32)} {x1 : Int32} {x2 : Int32} {x3 : Int32} {x4 : Int32} {rec5 : Int32 → Int32 → Option (Int32)} {res : Int32} (hrec5 : ∀ (x3 : Int32) (x4 : Int32), rec5 x3 x4 = some res → Mx p l e ({ frames := 4, cells := 0, slots := 0, locals := 91 } : Room) s m args below meth c (MQ below (QI D (tyA cyI cyZ cyW) A (wP cyI cyZ cyW p0 p1 p2 p3 p4 tubs pegs pwi flags pco pcl phr pho) res) args s 0 0 A) 6 D A 0 0 (wP cyI cyZ cyW p0 p1 p2 p3 p4 tubs pegs pwi flags pco pcl phr pho) 5 [(0, .ref p0), (1, .int x1), (2, .int x2), (3, .int x3), (4, .int x4)] []) (h : gX3_howManyRests_5 rec5 x1 x2 x3 x4 flags phr pho = some res) : Mx p l e ({ frames := 4, cells := 0, slots := 0, locals := 91 } : Room) s m args below meth c (MQ below (QI D (tyA cyI cyZ cyW) A (wP cyI cyZ cyW p0 p1 p2 p3 p4 tubs pegs pwi flags pco pcl phr pho) res) args s 0 0 A) 6 D A 0 0 (wP cyI cyZ cyW p0 p1 p2 p3 p4 tubs pegs pwi flags pco pcl phr pho) 5 [(0, .ref p0), (1, .int x1), (2, .int x2), (3, .int x3), (4, .int x4)] [] := by
  unfold gX3_howManyRests_5 at h
  refine r_iload C dX3_howManyRests_5 4 rfl ?_
  refine r_iconst (v := 1) C dX3_howManyRests_7 ic_1 ?_
  refine r_icmp_gt (tgt := 48) C dX3_howManyRests_8 (by decide) (fun c1 => ?_) (fun c1 => ?_)
  · replace h := ob_t h c1
    refine r_iload_n C dX3_howManyRests_48 3 rfl rfl ?_
    have h9 := Option.some.inj h
    subst h9
    exact r_iret C rfl dX3_howManyRests_49
  · replace h := ob_f h c1
    refine r_iconst (v := 0) C dX3_howManyRests_11 ic_0 ?_
    refine r_istore (lv' := [(5, .int (0 : Int32)), (0, .ref p0), (1, .int x1), (2, .int x2), (3, .int x3), (4, .int x4)]) C dX3_howManyRests_12 (by decide) rfl ?_
    refine r_lv (lv' := [(0, .ref p0), (1, .int x1), (2, .int x2), (3, .int x3), (4, .int x4), (5, .int (0 : Int32))]) [1, 2, 3, 4, 5, 0] rfl ?_
    exact LX3_howManyRests_14 C (x1 := x1) (x2 := x2) (x4 := x4) (tubs := tubs) (pegs := pegs) (pwi := pwi) (flags := flags) (pco := pco) (pcl := pcl) (phr := phr) (pho := pho) hrec5 FU x3 (0 : Int32) h
set_option maxHeartbeats 4000000 in
set_option maxRecDepth 100000 in
theorem LX3_howManyRests_5 {p : Program} {l : Launch} {e : Env} {s : State} {m : MethodId} {args : Array Value} {below : List Frame} {meth : Method} {c : Code} {D : va_G} {cyI cyZ cyW : ClassId} {zW zO : Nat} {A : Nat → Prop} (C : Cx p s m args meth c cX3_howManyRests RX3 "howManyRests" wsX3_howManyRests (some .int) 6 D (tyA cyI cyZ cyW) zW zO A) {p0 : Nat} {p1 : Nat} {p2 : Nat} {p3 : Nat} {p4 : Nat} {x1 : Int32} {x2 : Int32} {tubs : Int32} {pegs : Int32} {pwi : Int32} {flags : Int32} {pco : (Nat → Int32)} {pcl : (Nat → Int32)} {phr : (Nat → Int32)} {pho : (Nat → Int32)}  {res : Int32}  : ∀ (n : Nat) (x3 : Int32) (x4 : Int32), fX3_howManyRests_5  x1 x2 flags phr pho n x3 x4 = some res → Mx p l e ({ frames := 4, cells := 0, slots := 0, locals := 91 } : Room) s m args below meth c (MQ below (QI D (tyA cyI cyZ cyW) A (wP cyI cyZ cyW p0 p1 p2 p3 p4 tubs pegs pwi flags pco pcl phr pho) res) args s 0 0 A) 6 D A 0 0 (wP cyI cyZ cyW p0 p1 p2 p3 p4 tubs pegs pwi flags pco pcl phr pho) 5 [(0, .ref p0), (1, .int x1), (2, .int x2), (3, .int x3), (4, .int x4)] [] := by
  intro n
  induction n with
  | zero => intro x3 x4 h; cases h
  | succ n ih => intro x3 x4 h; exact LGX3_howManyRests_5 C ih h
set_option maxHeartbeats 4000000 in
set_option maxRecDepth 100000 in
theorem kX3_howManyRests {l : Launch} {D : va_G} {cyI cyZ cyW : ClassId} {zW zO : Nat} {p0 : Nat} {p1 : Nat} {p2 : Nat} {p3 : Nat} {p4 : Nat} {tubs : Int32} {pegs : Int32} {pwi : Int32} {flags : Int32} {pco : (Nat → Int32)} {pcl : (Nat → Int32)} {phr : (Nat → Int32)} {pho : (Nat → Int32)} {x1 : Int32} {x2 : Int32} {res : Int32} (h : fX3_howManyRests x1 x2 flags phr pho = some res) : KI l yX3_howManyRests wsX3_howManyRests ({ frames := 4, cells := 0, slots := 0, locals := 91 } : Room) D (tyA cyI cyZ cyW) zW zO [.ref p0, .int x1, .int x2] (wP cyI cyZ cyW p0 p1 p2 p3 p4 tubs pegs pwi flags pco pcl phr pho) (wP cyI cyZ cyW p0 p1 p2 p3 p4 tubs pegs pwi flags pco pcl phr pho) res := by
  refine enterI (cc := cX3_howManyRests) (nL := 6) (ret := (some .int)) (by decide) rfl (Nat.le_of_ble_eq_true rfl) (fun p e s m below meth c A C => ?_)
  refine r_lv (lv' := [(0, .ref p0), (1, .int x1), (2, .int x2)]) [0, 1, 2] rfl ?_
  unfold fX3_howManyRests at h
  refine r_iconst (v := 0) C dX3_howManyRests_0 ic_0 ?_
  refine r_istore_n (lv' := [(3, .int (0 : Int32)), (0, .ref p0), (1, .int x1), (2, .int x2)]) C dX3_howManyRests_1 rfl (by decide) rfl ?_
  refine r_iconst (v := 0) C dX3_howManyRests_2 ic_0 ?_
  refine r_istore (lv' := [(4, .int (0 : Int32)), (3, .int (0 : Int32)), (0, .ref p0), (1, .int x1), (2, .int x2)]) C dX3_howManyRests_3 (by decide) rfl ?_
  refine r_lv (lv' := [(0, .ref p0), (1, .int x1), (2, .int x2), (3, .int (0 : Int32)), (4, .int (0 : Int32))]) [2, 3, 4, 1, 0] rfl ?_
  exact LX3_howManyRests_5 C (x1 := x1) (x2 := x2) (tubs := tubs) (pegs := pegs) (pwi := pwi) (flags := flags) (pco := pco) (pcl := pcl) (phr := phr) (pho := pho)  FU (0 : Int32) (0 : Int32) h

/-! ===== FlagWash$Game.firstRest ===== -/
def gX3_firstRest_10 (rec2 : Int32 → Option (Int32)) (rec10 : Int32 → Option (Int32)) (x1 : Int32) (x2 : Int32) (x3 : Int32) (x4 : Int32) (flags : Int32) (phr : (Nat → Int32)) (pho : (Nat → Int32)) : Option (Int32) :=
 (if (1 : Int32) < x4 then (rec2 (x3 + (1 : Int32)))
 else ((fX3_isRest x1 x2 x3 x4 flags phr pho).bind fun u3 => (if u3 = true then (some (((10 : Int32) * x3) + x4))
 else (rec10 (x4 + (1 : Int32))))))
def fX3_firstRest_10 (rec2 : Int32 → Option (Int32)) (x1 : Int32) (x2 : Int32) (x3 : Int32) (flags : Int32) (phr : (Nat → Int32)) (pho : (Nat → Int32)) : Nat → Int32 → Option (Int32)
  | 0 => fun _ => none
  | n + 1 => fun x4 => gX3_firstRest_10 rec2 (fX3_firstRest_10 rec2 x1 x2 x3 flags phr pho n) x1 x2 x3 x4 flags phr pho
def gX3_firstRest_2 (rec2 : Int32 → Option (Int32)) (x1 : Int32) (x2 : Int32) (x3 : Int32) (flags : Int32) (phr : (Nat → Int32)) (pho : (Nat → Int32)) : Option (Int32) :=
 (if (1 : Int32) < x3 then (some (-9 : Int32))
 else (fX3_firstRest_10 rec2 x1 x2 x3 flags phr pho FU (0 : Int32)))
def fX3_firstRest_2  (x1 : Int32) (x2 : Int32) (flags : Int32) (phr : (Nat → Int32)) (pho : (Nat → Int32)) : Nat → Int32 → Option (Int32)
  | 0 => fun _ => none
  | n + 1 => fun x3 => gX3_firstRest_2 (fX3_firstRest_2  x1 x2 flags phr pho n) x1 x2 x3 flags phr pho
def fX3_firstRest  (x1 : Int32) (x2 : Int32) (flags : Int32) (phr : (Nat → Int32)) (pho : (Nat → Int32)) : Option (Int32) :=
 (fX3_firstRest_2  x1 x2 flags phr pho FU (0 : Int32))
theorem hd_X3_firstRest : yX3_firstRest.cls ≠ "java/lang/invoke/MethodHandle" ∧ yX3_firstRest.cls ≠ "java/lang/invoke/VarHandle" ∧ (parseMethodDescriptor yX3_firstRest.desc).map (fun d => d.parameters.length) = some 3 := by decide +kernel
set_option maxHeartbeats 4000000 in
set_option maxRecDepth 100000 in
theorem LGX3_firstRest_10 {p : Program} {l : Launch} {e : Env} {s : State} {m : MethodId} {args : Array Value} {below : List Frame} {meth : Method} {c : Code} {D : va_G} {cyI cyZ cyW : ClassId} {zW zO : Nat} {A : Nat → Prop} (C : Cx p s m args meth c cX3_firstRest RX3 "firstRest" wsX3_firstRest (some .int) 5 D (tyA cyI cyZ cyW) zW zO A) {p0 : Nat} {p1 : Nat} {p2 : Nat} {p3 : Nat} {p4 : Nat} {tubs : Int32} {pegs : Int32} {pwi : Int32} {flags : Int32} {pco : (Nat → Int32)} {pcl : (Nat → Int32)} {phr : (Nat → Int32)} {pho : (Nat → Int32)} {x1 : Int32} {x2 : Int32} {x3 : Int32} {x4 : Int32} {rec2 : Int32 → Option (Int32)} {rec10 : Int32 → Option (Int32)} {res : Int32} (hrec2 : ∀ (x3 : Int32), rec2 x3 = some res → Mx p l e ({ frames := 4, cells := 0, slots := 0, locals := 91 } : Room) s m args below meth c (MQ below (QI D (tyA cyI cyZ cyW) A (wP cyI cyZ cyW p0 p1 p2 p3 p4 tubs pegs pwi flags pco pcl phr pho) res) args s 0 0 A) 5 D A 0 0 (wP cyI cyZ cyW p0 p1 p2 p3 p4 tubs pegs pwi flags pco pcl phr pho) 2 [(0, .ref p0), (1, .int x1), (2, .int x2), (3, .int x3)] []) (hrec10 : ∀ (x4 : Int32), rec10 x4 = some res → Mx p l e ({ frames := 4, cells := 0, slots := 0, locals := 91 } : Room) s m args below meth c (MQ below (QI D (tyA cyI cyZ cyW) A (wP cyI cyZ cyW p0 p1 p2 p3 p4 tubs pegs pwi flags pco pcl phr pho) res) args s 0 0 A) 5 D A 0 0 (wP cyI cyZ cyW p0 p1 p2 p3 p4 tubs pegs pwi flags pco pcl phr pho) 10 [(0, .ref p0), (1, .int x1), (2, .int x2), (3, .int x3), (4, .int x4)] []) (h : gX3_firstRest_10 rec2 rec10 x1 x2 x3 x4 flags phr pho = some res) : Mx p l e ({ frames := 4, cells := 0, slots := 0, locals := 91 } : Room) s m args below meth c (MQ below (QI D (tyA cyI cyZ cyW) A (wP cyI cyZ cyW p0 p1 p2 p3 p4 tubs pegs pwi flags pco pcl phr pho) res) args s 0 0 A) 5 D A 0 0 (wP cyI cyZ cyW p0 p1 p2 p3 p4 tubs pegs pwi flags pco pcl phr pho) 10 [(0, .ref p0), (1, .int x1), (2, .int x2), (3, .int x3), (4, .int x4)] [] := by
  unfold gX3_firstRest_10 at h
  refine r_iload C dX3_firstRest_10 4 rfl ?_
  refine r_iconst (v := 1) C dX3_firstRest_12 ic_1 ?_
  refine r_icmp_gt (tgt := 42) C dX3_firstRest_13 (by decide) (fun c2 => ?_) (fun c2 => ?_)
  · replace h := ob_t h c2
    refine r_iinc (v := 1) (lv' := [(3, .int (x3 + (1 : Int32))), (0, .ref p0), (1, .int x1), (2, .int x2), (4, .int x4)]) C dX3_firstRest_42 3 rfl ic_1 (by decide) rfl ?_
    refine r_goto (tgt := 2) C dX3_firstRest_45 (by decide) ?_
    refine r_lv (lv' := [(0, .ref p0), (1, .int x1), (2, .int x2), (3, .int (x3 + (1 : Int32)))]) [1, 2, 3, 0] rfl ?_
    exact hrec2 (x3 + (1 : Int32)) h
  · replace h := ob_f h c2
    refine r_aload_n C dX3_firstRest_16 0 rfl rfl ?_
    refine r_iload_n C dX3_firstRest_17 1 rfl rfl ?_
    refine r_iload_n C dX3_firstRest_18 2 rfl rfl ?_
    refine r_iload_n C dX3_firstRest_19 3 rfl rfl ?_
    refine r_iload C dX3_firstRest_20 4 rfl ?_
    obtain ⟨u3, hu3, h⟩ := ob_bind h
    refine r_readSI (As := [.ref p0, .int x1, .int x2, .int x3, .int x4]) (rest := []) C (kX3_isRest (p0 := p0) (p1 := p1) (p2 := p2) (p3 := p3) (p4 := p4) (tubs := tubs) (pegs := pegs) (pwi := pwi) (flags := flags) (pco := pco) (pcl := pcl) (phr := phr) (pho := pho) (x1 := x1) (x2 := x2) (x3 := x3) (x4 := x4) hu3) gX3_firstRest_X3_isRest rfl rfl rfl hd_X3_isRest ⟨by decide, by decide⟩ rfl [0, 1, 2, 3, 4] (by decide) in_40 rfl (Nat.le_of_ble_eq_true rfl) dX3_firstRest_22 ⟨Nat.zero_le _, Nat.zero_le _⟩ ?_
    refine r_ifb_eq (tgt := 36) C dX3_firstRest_25 (by decide) (fun c4 => ?_) (fun c4 => ?_)
    · replace h := ob_bf h c4
      refine r_iinc (v := 1) (lv' := [(4, .int (x4 + (1 : Int32))), (0, .ref p0), (1, .int x1), (2, .int x2), (3, .int x3)]) C dX3_firstRest_36 4 rfl ic_1 (by decide) rfl ?_
      refine r_goto (tgt := 10) C dX3_firstRest_39 (by decide) ?_
      refine r_lv (lv' := [(0, .ref p0), (1, .int x1), (2, .int x2), (3, .int x3), (4, .int (x4 + (1 : Int32)))]) [1, 2, 3, 4, 0] rfl ?_
      exact hrec10 (x4 + (1 : Int32)) h
    · replace h := ob_t h c4
      refine r_bipush (v := 10) C dX3_firstRest_28 bp_10 ?_
      refine r_iload_n C dX3_firstRest_30 3 rfl rfl ?_
      refine r_imul C dX3_firstRest_31 ?_
      refine r_iload C dX3_firstRest_32 4 rfl ?_
      refine r_iadd C dX3_firstRest_34 ?_
      have h9 := Option.some.inj h
      subst h9
      exact r_iret C rfl dX3_firstRest_35
set_option maxHeartbeats 4000000 in
set_option maxRecDepth 100000 in
theorem LX3_firstRest_10 {p : Program} {l : Launch} {e : Env} {s : State} {m : MethodId} {args : Array Value} {below : List Frame} {meth : Method} {c : Code} {D : va_G} {cyI cyZ cyW : ClassId} {zW zO : Nat} {A : Nat → Prop} (C : Cx p s m args meth c cX3_firstRest RX3 "firstRest" wsX3_firstRest (some .int) 5 D (tyA cyI cyZ cyW) zW zO A) {p0 : Nat} {p1 : Nat} {p2 : Nat} {p3 : Nat} {p4 : Nat} {x1 : Int32} {x2 : Int32} {x3 : Int32} {tubs : Int32} {pegs : Int32} {pwi : Int32} {flags : Int32} {pco : (Nat → Int32)} {pcl : (Nat → Int32)} {phr : (Nat → Int32)} {pho : (Nat → Int32)} {rec2 : Int32 → Option (Int32)} {res : Int32} (hrec2 : ∀ (x3 : Int32), rec2 x3 = some res → Mx p l e ({ frames := 4, cells := 0, slots := 0, locals := 91 } : Room) s m args below meth c (MQ below (QI D (tyA cyI cyZ cyW) A (wP cyI cyZ cyW p0 p1 p2 p3 p4 tubs pegs pwi flags pco pcl phr pho) res) args s 0 0 A) 5 D A 0 0 (wP cyI cyZ cyW p0 p1 p2 p3 p4 tubs pegs pwi flags pco pcl phr pho) 2 [(0, .ref p0), (1, .int x1), (2, .int x2), (3, .int x3)] []) : ∀ (n : Nat) (x4 : Int32), fX3_firstRest_10 rec2 x1 x2 x3 flags phr pho n x4 = some res → Mx p l e ({ frames := 4, cells := 0, slots := 0, locals := 91 } : Room) s m args below meth c (MQ below (QI D (tyA cyI cyZ cyW) A (wP cyI cyZ cyW p0 p1 p2 p3 p4 tubs pegs pwi flags pco pcl phr pho) res) args s 0 0 A) 5 D A 0 0 (wP cyI cyZ cyW p0 p1 p2 p3 p4 tubs pegs pwi flags pco pcl phr pho) 10 [(0, .ref p0), (1, .int x1), (2, .int x2), (3, .int x3), (4, .int x4)] [] := by
  intro n
  induction n with
  | zero => intro x4 h; cases h
  | succ n ih => intro x4 h; exact LGX3_firstRest_10 C hrec2 ih h
set_option maxHeartbeats 4000000 in
set_option maxRecDepth 100000 in
theorem LGX3_firstRest_2 {p : Program} {l : Launch} {e : Env} {s : State} {m : MethodId} {args : Array Value} {below : List Frame} {meth : Method} {c : Code} {D : va_G} {cyI cyZ cyW : ClassId} {zW zO : Nat} {A : Nat → Prop} (C : Cx p s m args meth c cX3_firstRest RX3 "firstRest" wsX3_firstRest (some .int) 5 D (tyA cyI cyZ cyW) zW zO A) {p0 : Nat} {p1 : Nat} {p2 : Nat} {p3 : Nat} {p4 : Nat} {tubs : Int32} {pegs : Int32} {pwi : Int32} {flags : Int32} {pco : (Nat → Int32)} {pcl : (Nat → Int32)} {phr : (Nat → Int32)} {pho : (Nat → Int32)} {x1 : Int32} {x2 : Int32} {x3 : Int32} {rec2 : Int32 → Option (Int32)} {res : Int32} (hrec2 : ∀ (x3 : Int32), rec2 x3 = some res → Mx p l e ({ frames := 4, cells := 0, slots := 0, locals := 91 } : Room) s m args below meth c (MQ below (QI D (tyA cyI cyZ cyW) A (wP cyI cyZ cyW p0 p1 p2 p3 p4 tubs pegs pwi flags pco pcl phr pho) res) args s 0 0 A) 5 D A 0 0 (wP cyI cyZ cyW p0 p1 p2 p3 p4 tubs pegs pwi flags pco pcl phr pho) 2 [(0, .ref p0), (1, .int x1), (2, .int x2), (3, .int x3)] []) (h : gX3_firstRest_2 rec2 x1 x2 x3 flags phr pho = some res) : Mx p l e ({ frames := 4, cells := 0, slots := 0, locals := 91 } : Room) s m args below meth c (MQ below (QI D (tyA cyI cyZ cyW) A (wP cyI cyZ cyW p0 p1 p2 p3 p4 tubs pegs pwi flags pco pcl phr pho) res) args s 0 0 A) 5 D A 0 0 (wP cyI cyZ cyW p0 p1 p2 p3 p4 tubs pegs pwi flags pco pcl phr pho) 2 [(0, .ref p0), (1, .int x1), (2, .int x2), (3, .int x3)] [] := by
  unfold gX3_firstRest_2 at h
  refine r_iload_n C dX3_firstRest_2 3 rfl rfl ?_
  refine r_iconst (v := 1) C dX3_firstRest_3 ic_1 ?_
  refine r_icmp_gt (tgt := 48) C dX3_firstRest_4 (by decide) (fun c1 => ?_) (fun c1 => ?_)
  · replace h := ob_t h c1
    refine r_bipush (v := -9) C dX3_firstRest_48 bp_m9 ?_
    have h9 := Option.some.inj h
    subst h9
    exact r_iret C rfl dX3_firstRest_50
  · replace h := ob_f h c1
    refine r_iconst (v := 0) C dX3_firstRest_7 ic_0 ?_
    refine r_istore (lv' := [(4, .int (0 : Int32)), (0, .ref p0), (1, .int x1), (2, .int x2), (3, .int x3)]) C dX3_firstRest_8 (by decide) rfl ?_
    refine r_lv (lv' := [(0, .ref p0), (1, .int x1), (2, .int x2), (3, .int x3), (4, .int (0 : Int32))]) [1, 2, 3, 4, 0] rfl ?_
    exact LX3_firstRest_10 C (x1 := x1) (x2 := x2) (x3 := x3) (tubs := tubs) (pegs := pegs) (pwi := pwi) (flags := flags) (pco := pco) (pcl := pcl) (phr := phr) (pho := pho) hrec2 FU (0 : Int32) h
set_option maxHeartbeats 4000000 in
set_option maxRecDepth 100000 in
theorem LX3_firstRest_2 {p : Program} {l : Launch} {e : Env} {s : State} {m : MethodId} {args : Array Value} {below : List Frame} {meth : Method} {c : Code} {D : va_G} {cyI cyZ cyW : ClassId} {zW zO : Nat} {A : Nat → Prop} (C : Cx p s m args meth c cX3_firstRest RX3 "firstRest" wsX3_firstRest (some .int) 5 D (tyA cyI cyZ cyW) zW zO A) {p0 : Nat} {p1 : Nat} {p2 : Nat} {p3 : Nat} {p4 : Nat} {x1 : Int32} {x2 : Int32} {tubs : Int32} {pegs : Int32} {pwi : Int32} {flags : Int32} {pco : (Nat → Int32)} {pcl : (Nat → Int32)} {phr : (Nat → Int32)} {pho : (Nat → Int32)}  {res : Int32}  : ∀ (n : Nat) (x3 : Int32), fX3_firstRest_2  x1 x2 flags phr pho n x3 = some res → Mx p l e ({ frames := 4, cells := 0, slots := 0, locals := 91 } : Room) s m args below meth c (MQ below (QI D (tyA cyI cyZ cyW) A (wP cyI cyZ cyW p0 p1 p2 p3 p4 tubs pegs pwi flags pco pcl phr pho) res) args s 0 0 A) 5 D A 0 0 (wP cyI cyZ cyW p0 p1 p2 p3 p4 tubs pegs pwi flags pco pcl phr pho) 2 [(0, .ref p0), (1, .int x1), (2, .int x2), (3, .int x3)] [] := by
  intro n
  induction n with
  | zero => intro x3 h; cases h
  | succ n ih => intro x3 h; exact LGX3_firstRest_2 C ih h
set_option maxHeartbeats 4000000 in
set_option maxRecDepth 100000 in
theorem kX3_firstRest {l : Launch} {D : va_G} {cyI cyZ cyW : ClassId} {zW zO : Nat} {p0 : Nat} {p1 : Nat} {p2 : Nat} {p3 : Nat} {p4 : Nat} {tubs : Int32} {pegs : Int32} {pwi : Int32} {flags : Int32} {pco : (Nat → Int32)} {pcl : (Nat → Int32)} {phr : (Nat → Int32)} {pho : (Nat → Int32)} {x1 : Int32} {x2 : Int32} {res : Int32} (h : fX3_firstRest x1 x2 flags phr pho = some res) : KI l yX3_firstRest wsX3_firstRest ({ frames := 4, cells := 0, slots := 0, locals := 91 } : Room) D (tyA cyI cyZ cyW) zW zO [.ref p0, .int x1, .int x2] (wP cyI cyZ cyW p0 p1 p2 p3 p4 tubs pegs pwi flags pco pcl phr pho) (wP cyI cyZ cyW p0 p1 p2 p3 p4 tubs pegs pwi flags pco pcl phr pho) res := by
  refine enterI (cc := cX3_firstRest) (nL := 5) (ret := (some .int)) (by decide) rfl (Nat.le_of_ble_eq_true rfl) (fun p e s m below meth c A C => ?_)
  refine r_lv (lv' := [(0, .ref p0), (1, .int x1), (2, .int x2)]) [0, 1, 2] rfl ?_
  unfold fX3_firstRest at h
  refine r_iconst (v := 0) C dX3_firstRest_0 ic_0 ?_
  refine r_istore_n (lv' := [(3, .int (0 : Int32)), (0, .ref p0), (1, .int x1), (2, .int x2)]) C dX3_firstRest_1 rfl (by decide) rfl ?_
  refine r_lv (lv' := [(0, .ref p0), (1, .int x1), (2, .int x2), (3, .int (0 : Int32))]) [1, 2, 3, 0] rfl ?_
  exact LX3_firstRest_2 C (x1 := x1) (x2 := x2) (tubs := tubs) (pegs := pegs) (pwi := pwi) (flags := flags) (pco := pco) (pcl := pcl) (phr := phr) (pho := pho)  FU (0 : Int32) h

/-! ===== FlagWash$Plan.copyFrom ===== -/
def fX4_copyFrom  (pco : (Nat → Int32)) (pcl : (Nat → Int32)) (phr : (Nat → Int32)) (pho : (Nat → Int32)) (otubs : Int32) (opegs : Int32) (opwi : Int32) (oflags : Int32) (opco : (Nat → Int32)) (opcl : (Nat → Int32)) (ophr : (Nat → Int32)) (opho : (Nat → Int32)) : Option (Int32 × Int32 × Int32 × Int32 × (Nat → Int32) × (Nat → Int32) × (Nat → Int32) × (Nat → Int32)) :=
 (some (otubs, opegs, opwi, oflags, (va_cpy opco pco (0 : Int32).toNatClampNeg (0 : Int32).toNatClampNeg (5 : Int32).toNatClampNeg), (va_cpy opcl pcl (0 : Int32).toNatClampNeg (0 : Int32).toNatClampNeg (5 : Int32).toNatClampNeg), (va_cpy ophr phr (0 : Int32).toNatClampNeg (0 : Int32).toNatClampNeg (5 : Int32).toNatClampNeg), (va_cpy opho pho (0 : Int32).toNatClampNeg (0 : Int32).toNatClampNeg (5 : Int32).toNatClampNeg)))
theorem hinX4_copyFrom_X4 : ∀ w ∈ u_ws RX4 TX4 8, w ∈ wsX4_copyFrom := fun w h => List.mem_cons_of_mem _ (List.mem_append_right _ h)
theorem mX4_copyFrom_1 : Cond.fieldLink RX4 9 "FlagWash$Plan" "tubs" "I" ∈ wsX4_copyFrom := List.mem_of_getElem? (i := 1) rfl
theorem mX4_copyFrom_2 : Cond.fieldLink RX4 15 "FlagWash$Plan" "pegs" "I" ∈ wsX4_copyFrom := List.mem_of_getElem? (i := 2) rfl
theorem mX4_copyFrom_3 : Cond.fieldLink RX4 18 "FlagWash$Plan" "wind" "I" ∈ wsX4_copyFrom := List.mem_of_getElem? (i := 3) rfl
theorem mX4_copyFrom_4 : Cond.fieldLink RX4 21 "FlagWash$Plan" "flags" "I" ∈ wsX4_copyFrom := List.mem_of_getElem? (i := 4) rfl
theorem mX4_copyFrom_5 : Cond.fieldLink RX4 24 "FlagWash$Plan" "colours" "[I" ∈ wsX4_copyFrom := List.mem_of_getElem? (i := 5) rfl
theorem mX4_copyFrom_6 : Cond.methodLink RX4 37 arraycopyName ∈ wsX4_copyFrom := List.mem_of_getElem? (i := 6) rfl
theorem mX4_copyFrom_7 : Cond.native arraycopyName ∈ wsX4_copyFrom := List.mem_of_getElem? (i := 7) rfl
theorem mX4_copyFrom_8 : Cond.static arraycopyName ∈ wsX4_copyFrom := List.mem_of_getElem? (i := 8) rfl
theorem mX4_copyFrom_9 : Cond.initialized "java/lang/System" ∈ wsX4_copyFrom := List.mem_of_getElem? (i := 9) rfl
theorem mX4_copyFrom_10 : Cond.fieldLink RX4 28 "FlagWash$Plan" "cloth" "[I" ∈ wsX4_copyFrom := List.mem_of_getElem? (i := 10) rfl
theorem mX4_copyFrom_11 : Cond.fieldLink RX4 31 "FlagWash$Plan" "hours" "[I" ∈ wsX4_copyFrom := List.mem_of_getElem? (i := 11) rfl
theorem mX4_copyFrom_12 : Cond.fieldLink RX4 34 "FlagWash$Plan" "hostile" "[I" ∈ wsX4_copyFrom := List.mem_of_getElem? (i := 12) rfl
theorem hd_X4_copyFrom : yX4_copyFrom.cls ≠ "java/lang/invoke/MethodHandle" ∧ yX4_copyFrom.cls ≠ "java/lang/invoke/VarHandle" ∧ (parseMethodDescriptor yX4_copyFrom.desc).map (fun d => d.parameters.length) = some 1 := by decide +kernel
set_option maxHeartbeats 4000000 in
set_option maxRecDepth 100000 in
theorem kX4_copyFrom {l : Launch} {D : va_G} {cyI cyZ cyW : ClassId} {zW zO : Nat} {p0 : Nat} {p1 : Nat} {p2 : Nat} {p3 : Nat} {p4 : Nat} {q0 : Nat} {q1 : Nat} {q2 : Nat} {q3 : Nat} {q4 : Nat} {tubs : Int32} {pegs : Int32} {pwi : Int32} {flags : Int32} {pco : (Nat → Int32)} {pcl : (Nat → Int32)} {phr : (Nat → Int32)} {pho : (Nat → Int32)} {otubs : Int32} {opegs : Int32} {opwi : Int32} {oflags : Int32} {opco : (Nat → Int32)} {opcl : (Nat → Int32)} {ophr : (Nat → Int32)} {opho : (Nat → Int32)}  {res : Int32 × Int32 × Int32 × Int32 × (Nat → Int32) × (Nat → Int32) × (Nat → Int32) × (Nat → Int32)} (h : fX4_copyFrom pco pcl phr pho otubs opegs opwi oflags opco opcl ophr opho = some res) : KV l yX4_copyFrom wsX4_copyFrom ({ frames := 1, cells := 0, slots := 0, locals := 18 } : Room) D (tyA cyI cyZ cyW) zW zO [.ref p0, .ref q0] (wPP cyI cyZ cyW p0 p1 p2 p3 p4 q0 q1 q2 q3 q4 tubs pegs pwi flags pco pcl phr pho otubs opegs opwi oflags opco opcl ophr opho) (wPP cyI cyZ cyW p0 p1 p2 p3 p4 q0 q1 q2 q3 q4 res.1 res.2.1 res.2.2.1 res.2.2.2.1 res.2.2.2.2.1 res.2.2.2.2.2.1 res.2.2.2.2.2.2.1 res.2.2.2.2.2.2.2 otubs opegs opwi oflags opco opcl ophr opho) := by
  refine enterV (cc := cX4_copyFrom) (nL := 2) (ret := none) (by decide) rfl (Nat.le_of_ble_eq_true rfl) (fun p e s m below meth c A C => ?_)
  refine r_lv (lv' := [(0, .ref p0), (1, .ref q0)]) [0, 1] rfl ?_
  unfold fX4_copyFrom at h
  refine r_aload_n C dX4_copyFrom_0 0 rfl rfl ?_
  refine r_aload_n C dX4_copyFrom_1 1 rfl rfl ?_
  refine r_get (ci := 2) (CC := RX4) (T := TX4) (N := 8) (v := .int otubs) C hinX4_copyFrom_X4 5 rfl rfl 0 (by decide) mX4_copyFrom_1 rfl rfl dX4_copyFrom_2 ?_
  refine r_put (ci := 2) (CC := RX4) (T := TX4) (N := 8) (v := .int otubs) (ws1 := (wPP cyI cyZ cyW p0 p1 p2 p3 p4 q0 q1 q2 q3 q4 otubs pegs pwi flags pco pcl phr pho otubs opegs opwi oflags opco opcl ophr opho)) (ty := .int) C hinX4_copyFrom_X4 tyX4 tyX4_ok nmX4 0 rfl rfl 0 (by decide) mX4_copyFrom_1 rfl rfl rfl rfl rfl (Nat.le_of_ble_eq_true rfl) rfl dX4_copyFrom_5 ?_
  refine r_aload_n C dX4_copyFrom_8 0 rfl rfl ?_
  refine r_aload_n C dX4_copyFrom_9 1 rfl rfl ?_
  refine r_get (ci := 2) (CC := RX4) (T := TX4) (N := 8) (v := .int opegs) C hinX4_copyFrom_X4 5 rfl rfl 1 (by decide) mX4_copyFrom_2 rfl rfl dX4_copyFrom_10 ?_
  refine r_put (ci := 2) (CC := RX4) (T := TX4) (N := 8) (v := .int opegs) (ws1 := (wPP cyI cyZ cyW p0 p1 p2 p3 p4 q0 q1 q2 q3 q4 otubs opegs pwi flags pco pcl phr pho otubs opegs opwi oflags opco opcl ophr opho)) (ty := .int) C hinX4_copyFrom_X4 tyX4 tyX4_ok nmX4 0 rfl rfl 1 (by decide) mX4_copyFrom_2 rfl rfl rfl rfl rfl (Nat.le_of_ble_eq_true rfl) rfl dX4_copyFrom_13 ?_
  refine r_aload_n C dX4_copyFrom_16 0 rfl rfl ?_
  refine r_aload_n C dX4_copyFrom_17 1 rfl rfl ?_
  refine r_get (ci := 2) (CC := RX4) (T := TX4) (N := 8) (v := .int opwi) C hinX4_copyFrom_X4 5 rfl rfl 2 (by decide) mX4_copyFrom_3 rfl rfl dX4_copyFrom_18 ?_
  refine r_put (ci := 2) (CC := RX4) (T := TX4) (N := 8) (v := .int opwi) (ws1 := (wPP cyI cyZ cyW p0 p1 p2 p3 p4 q0 q1 q2 q3 q4 otubs opegs opwi flags pco pcl phr pho otubs opegs opwi oflags opco opcl ophr opho)) (ty := .int) C hinX4_copyFrom_X4 tyX4 tyX4_ok nmX4 0 rfl rfl 2 (by decide) mX4_copyFrom_3 rfl rfl rfl rfl rfl (Nat.le_of_ble_eq_true rfl) rfl dX4_copyFrom_21 ?_
  refine r_aload_n C dX4_copyFrom_24 0 rfl rfl ?_
  refine r_aload_n C dX4_copyFrom_25 1 rfl rfl ?_
  refine r_get (ci := 2) (CC := RX4) (T := TX4) (N := 8) (v := .int oflags) C hinX4_copyFrom_X4 5 rfl rfl 3 (by decide) mX4_copyFrom_4 rfl rfl dX4_copyFrom_26 ?_
  refine r_put (ci := 2) (CC := RX4) (T := TX4) (N := 8) (v := .int oflags) (ws1 := (wPP cyI cyZ cyW p0 p1 p2 p3 p4 q0 q1 q2 q3 q4 otubs opegs opwi oflags pco pcl phr pho otubs opegs opwi oflags opco opcl ophr opho)) (ty := .int) C hinX4_copyFrom_X4 tyX4 tyX4_ok nmX4 0 rfl rfl 3 (by decide) mX4_copyFrom_4 rfl rfl rfl rfl rfl (Nat.le_of_ble_eq_true rfl) rfl dX4_copyFrom_29 ?_
  refine r_aload_n C dX4_copyFrom_32 1 rfl rfl ?_
  refine r_get (ci := 2) (CC := RX4) (T := TX4) (N := 8) (v := .ref q1) C hinX4_copyFrom_X4 5 rfl rfl 4 (by decide) mX4_copyFrom_5 rfl rfl dX4_copyFrom_33 ?_
  refine r_iconst (v := 0) C dX4_copyFrom_36 ic_0 ?_
  refine r_aload_n C dX4_copyFrom_37 0 rfl rfl ?_
  refine r_get (ci := 2) (CC := RX4) (T := TX4) (N := 8) (v := .ref p1) C hinX4_copyFrom_X4 0 rfl rfl 4 (by decide) mX4_copyFrom_5 rfl rfl dX4_copyFrom_38 ?_
  refine r_iconst (v := 0) C dX4_copyFrom_41 ic_0 ?_
  refine r_iconst (v := 5) C dX4_copyFrom_42 ic_5 ?_
  refine r_copy (ws1 := (wPP cyI cyZ cyW p0 p1 p2 p3 p4 q0 q1 q2 q3 q4 otubs opegs opwi oflags (va_cpy opco pco (0 : Int32).toNatClampNeg (0 : Int32).toNatClampNeg (5 : Int32).toNatClampNeg) pcl phr pho otubs opegs opwi oflags opco opcl ophr opho)) C mX4_copyFrom_6 mX4_copyFrom_7 mX4_copyFrom_8 mX4_copyFrom_9 6 1 0 rfl rfl rfl (by decide) (by decide) (by decide) (by decide) (by decide) (by decide) (by decide) rfl dX4_copyFrom_43 ?_
  refine r_aload_n C dX4_copyFrom_46 1 rfl rfl ?_
  refine r_get (ci := 2) (CC := RX4) (T := TX4) (N := 8) (v := .ref q2) C hinX4_copyFrom_X4 5 rfl rfl 5 (by decide) mX4_copyFrom_10 rfl rfl dX4_copyFrom_47 ?_
  refine r_iconst (v := 0) C dX4_copyFrom_50 ic_0 ?_
  refine r_aload_n C dX4_copyFrom_51 0 rfl rfl ?_
  refine r_get (ci := 2) (CC := RX4) (T := TX4) (N := 8) (v := .ref p2) C hinX4_copyFrom_X4 0 rfl rfl 5 (by decide) mX4_copyFrom_10 rfl rfl dX4_copyFrom_52 ?_
  refine r_iconst (v := 0) C dX4_copyFrom_55 ic_0 ?_
  refine r_iconst (v := 5) C dX4_copyFrom_56 ic_5 ?_
  refine r_copy (ws1 := (wPP cyI cyZ cyW p0 p1 p2 p3 p4 q0 q1 q2 q3 q4 otubs opegs opwi oflags (va_cpy opco pco (0 : Int32).toNatClampNeg (0 : Int32).toNatClampNeg (5 : Int32).toNatClampNeg) (va_cpy opcl pcl (0 : Int32).toNatClampNeg (0 : Int32).toNatClampNeg (5 : Int32).toNatClampNeg) phr pho otubs opegs opwi oflags opco opcl ophr opho)) C mX4_copyFrom_6 mX4_copyFrom_7 mX4_copyFrom_8 mX4_copyFrom_9 7 2 0 rfl rfl rfl (by decide) (by decide) (by decide) (by decide) (by decide) (by decide) (by decide) rfl dX4_copyFrom_57 ?_
  refine r_aload_n C dX4_copyFrom_60 1 rfl rfl ?_
  refine r_get (ci := 2) (CC := RX4) (T := TX4) (N := 8) (v := .ref q3) C hinX4_copyFrom_X4 5 rfl rfl 6 (by decide) mX4_copyFrom_11 rfl rfl dX4_copyFrom_61 ?_
  refine r_iconst (v := 0) C dX4_copyFrom_64 ic_0 ?_
  refine r_aload_n C dX4_copyFrom_65 0 rfl rfl ?_
  refine r_get (ci := 2) (CC := RX4) (T := TX4) (N := 8) (v := .ref p3) C hinX4_copyFrom_X4 0 rfl rfl 6 (by decide) mX4_copyFrom_11 rfl rfl dX4_copyFrom_66 ?_
  refine r_iconst (v := 0) C dX4_copyFrom_69 ic_0 ?_
  refine r_iconst (v := 5) C dX4_copyFrom_70 ic_5 ?_
  refine r_copy (ws1 := (wPP cyI cyZ cyW p0 p1 p2 p3 p4 q0 q1 q2 q3 q4 otubs opegs opwi oflags (va_cpy opco pco (0 : Int32).toNatClampNeg (0 : Int32).toNatClampNeg (5 : Int32).toNatClampNeg) (va_cpy opcl pcl (0 : Int32).toNatClampNeg (0 : Int32).toNatClampNeg (5 : Int32).toNatClampNeg) (va_cpy ophr phr (0 : Int32).toNatClampNeg (0 : Int32).toNatClampNeg (5 : Int32).toNatClampNeg) pho otubs opegs opwi oflags opco opcl ophr opho)) C mX4_copyFrom_6 mX4_copyFrom_7 mX4_copyFrom_8 mX4_copyFrom_9 8 3 0 rfl rfl rfl (by decide) (by decide) (by decide) (by decide) (by decide) (by decide) (by decide) rfl dX4_copyFrom_71 ?_
  refine r_aload_n C dX4_copyFrom_74 1 rfl rfl ?_
  refine r_get (ci := 2) (CC := RX4) (T := TX4) (N := 8) (v := .ref q4) C hinX4_copyFrom_X4 5 rfl rfl 7 (by decide) mX4_copyFrom_12 rfl rfl dX4_copyFrom_75 ?_
  refine r_iconst (v := 0) C dX4_copyFrom_78 ic_0 ?_
  refine r_aload_n C dX4_copyFrom_79 0 rfl rfl ?_
  refine r_get (ci := 2) (CC := RX4) (T := TX4) (N := 8) (v := .ref p4) C hinX4_copyFrom_X4 0 rfl rfl 7 (by decide) mX4_copyFrom_12 rfl rfl dX4_copyFrom_80 ?_
  refine r_iconst (v := 0) C dX4_copyFrom_83 ic_0 ?_
  refine r_iconst (v := 5) C dX4_copyFrom_84 ic_5 ?_
  refine r_copy (ws1 := (wPP cyI cyZ cyW p0 p1 p2 p3 p4 q0 q1 q2 q3 q4 otubs opegs opwi oflags (va_cpy opco pco (0 : Int32).toNatClampNeg (0 : Int32).toNatClampNeg (5 : Int32).toNatClampNeg) (va_cpy opcl pcl (0 : Int32).toNatClampNeg (0 : Int32).toNatClampNeg (5 : Int32).toNatClampNeg) (va_cpy ophr phr (0 : Int32).toNatClampNeg (0 : Int32).toNatClampNeg (5 : Int32).toNatClampNeg) (va_cpy opho pho (0 : Int32).toNatClampNeg (0 : Int32).toNatClampNeg (5 : Int32).toNatClampNeg) otubs opegs opwi oflags opco opcl ophr opho)) C mX4_copyFrom_6 mX4_copyFrom_7 mX4_copyFrom_8 mX4_copyFrom_9 9 4 0 rfl rfl rfl (by decide) (by decide) (by decide) (by decide) (by decide) (by decide) (by decide) rfl dX4_copyFrom_85 ?_
  have h9 := Option.some.inj h
  subst h9
  exact r_vret C rfl dX4_copyFrom_88

/-! ===== FlagWash$Plan.allBits ===== -/
def fX4_allBits  (flags : Int32) : Option (Int32) :=
 (some (((1 : Int32) <<< (flags &&& 31)) - (1 : Int32)))
theorem hinX4_allBits_X4 : ∀ w ∈ u_ws RX4 TX4 8, w ∈ wsX4_allBits := fun w h => List.mem_cons_of_mem _ (List.mem_append_right _ h)
theorem mX4_allBits_1 : Cond.fieldLink RX4 21 "FlagWash$Plan" "flags" "I" ∈ wsX4_allBits := List.mem_of_getElem? (i := 1) rfl
theorem hd_X4_allBits : yX4_allBits.cls ≠ "java/lang/invoke/MethodHandle" ∧ yX4_allBits.cls ≠ "java/lang/invoke/VarHandle" ∧ (parseMethodDescriptor yX4_allBits.desc).map (fun d => d.parameters.length) = some 0 := by decide +kernel
set_option maxHeartbeats 4000000 in
set_option maxRecDepth 100000 in
theorem kX4_allBits {l : Launch} {D : va_G} {cyI cyZ cyW : ClassId} {zW zO : Nat} {p0 : Nat} {p1 : Nat} {p2 : Nat} {p3 : Nat} {p4 : Nat} {tubs : Int32} {pegs : Int32} {pwi : Int32} {flags : Int32} {pco : (Nat → Int32)} {pcl : (Nat → Int32)} {phr : (Nat → Int32)} {pho : (Nat → Int32)}  {res : Int32} (h : fX4_allBits flags = some res) : KI l yX4_allBits wsX4_allBits ({ frames := 0, cells := 0, slots := 0, locals := 0 } : Room) D (tyA cyI cyZ cyW) zW zO [.ref p0] (wP cyI cyZ cyW p0 p1 p2 p3 p4 tubs pegs pwi flags pco pcl phr pho) (wP cyI cyZ cyW p0 p1 p2 p3 p4 tubs pegs pwi flags pco pcl phr pho) res := by
  refine enterI (cc := cX4_allBits) (nL := 1) (ret := (some .int)) (by decide) rfl (Nat.le_of_ble_eq_true rfl) (fun p e s m below meth c A C => ?_)
  refine r_lv (lv' := [(0, .ref p0)]) [0] rfl ?_
  unfold fX4_allBits at h
  refine r_iconst (v := 1) C dX4_allBits_0 ic_1 ?_
  refine r_aload_n C dX4_allBits_1 0 rfl rfl ?_
  refine r_get (ci := 2) (CC := RX4) (T := TX4) (N := 8) (v := .int flags) C hinX4_allBits_X4 0 rfl rfl 3 (by decide) mX4_allBits_1 rfl rfl dX4_allBits_2 ?_
  refine r_ishl C dX4_allBits_5 ?_
  refine r_iconst (v := 1) C dX4_allBits_6 ic_1 ?_
  refine r_isub C dX4_allBits_7 ?_
  have h9 := Option.some.inj h
  subst h9
  exact r_iret C rfl dX4_allBits_8

/-! ===== FlagWash$Plan.addFlag ===== -/
def fX4_addFlag  (x1 : Int32) (x2 : Int32) (x3 : Int32) (flags : Int32) (pco : (Nat → Int32)) (pcl : (Nat → Int32)) (phr : (Nat → Int32)) (pho : (Nat → Int32)) : Option (Int32 × (Nat → Int32) × (Nat → Int32) × (Nat → Int32) × (Nat → Int32)) :=
 (if (5 : Int32) ≤ flags then (some (flags, pco, pcl, phr, pho))
 else (if inb flags 5 = true then (if inb flags 5 = true then (if inb flags 5 = true then (if inb flags 5 = true then (some ((flags + (1 : Int32)), (upd pco flags.toNatClampNeg x1), (upd pcl flags.toNatClampNeg x2), (upd phr flags.toNatClampNeg x3), (upd pho flags.toNatClampNeg (0 : Int32)))) else none) else none) else none) else none))
theorem hinX4_addFlag_X4 : ∀ w ∈ u_ws RX4 TX4 8, w ∈ wsX4_addFlag := fun w h => List.mem_cons_of_mem _ (List.mem_append_right _ h)
theorem mX4_addFlag_1 : Cond.fieldLink RX4 21 "FlagWash$Plan" "flags" "I" ∈ wsX4_addFlag := List.mem_of_getElem? (i := 1) rfl
theorem mX4_addFlag_2 : Cond.fieldLink RX4 24 "FlagWash$Plan" "colours" "[I" ∈ wsX4_addFlag := List.mem_of_getElem? (i := 2) rfl
theorem mX4_addFlag_3 : Cond.fieldLink RX4 28 "FlagWash$Plan" "cloth" "[I" ∈ wsX4_addFlag := List.mem_of_getElem? (i := 3) rfl
theorem mX4_addFlag_4 : Cond.fieldLink RX4 31 "FlagWash$Plan" "hours" "[I" ∈ wsX4_addFlag := List.mem_of_getElem? (i := 4) rfl
theorem mX4_addFlag_5 : Cond.fieldLink RX4 34 "FlagWash$Plan" "hostile" "[I" ∈ wsX4_addFlag := List.mem_of_getElem? (i := 5) rfl
theorem hd_X4_addFlag : yX4_addFlag.cls ≠ "java/lang/invoke/MethodHandle" ∧ yX4_addFlag.cls ≠ "java/lang/invoke/VarHandle" ∧ (parseMethodDescriptor yX4_addFlag.desc).map (fun d => d.parameters.length) = some 3 := by decide +kernel
set_option maxHeartbeats 4000000 in
set_option maxRecDepth 100000 in
theorem kX4_addFlag {l : Launch} {D : va_G} {cyI cyZ cyW : ClassId} {zW zO : Nat} {p0 : Nat} {p1 : Nat} {p2 : Nat} {p3 : Nat} {p4 : Nat} {tubs : Int32} {pegs : Int32} {pwi : Int32} {flags : Int32} {pco : (Nat → Int32)} {pcl : (Nat → Int32)} {phr : (Nat → Int32)} {pho : (Nat → Int32)} {x1 : Int32} {x2 : Int32} {x3 : Int32} {res : Int32 × (Nat → Int32) × (Nat → Int32) × (Nat → Int32) × (Nat → Int32)} (h : fX4_addFlag x1 x2 x3 flags pco pcl phr pho = some res) : KV l yX4_addFlag wsX4_addFlag ({ frames := 0, cells := 0, slots := 0, locals := 0 } : Room) D (tyA cyI cyZ cyW) zW zO [.ref p0, .int x1, .int x2, .int x3] (wP cyI cyZ cyW p0 p1 p2 p3 p4 tubs pegs pwi flags pco pcl phr pho) (wP cyI cyZ cyW p0 p1 p2 p3 p4 tubs pegs pwi res.1 res.2.1 res.2.2.1 res.2.2.2.1 res.2.2.2.2) := by
  refine enterV (cc := cX4_addFlag) (nL := 4) (ret := none) (by decide) rfl (Nat.le_of_ble_eq_true rfl) (fun p e s m below meth c A C => ?_)
  refine r_lv (lv' := [(0, .ref p0), (1, .int x1), (2, .int x2), (3, .int x3)]) [0, 1, 2, 3] rfl ?_
  unfold fX4_addFlag at h
  refine r_aload_n C dX4_addFlag_0 0 rfl rfl ?_
  refine r_get (ci := 2) (CC := RX4) (T := TX4) (N := 8) (v := .int flags) C hinX4_addFlag_X4 0 rfl rfl 3 (by decide) mX4_addFlag_1 rfl rfl dX4_addFlag_1 ?_
  refine r_iconst (v := 5) C dX4_addFlag_4 ic_5 ?_
  refine r_icmp_ge (tgt := 58) C dX4_addFlag_5 (by decide) (fun c1 => ?_) (fun c1 => ?_)
  · replace h := ob_t h c1
    have h9 := Option.some.inj h
    subst h9
    exact r_vret C rfl dX4_addFlag_58
  · replace h := ob_f h c1
    refine r_aload_n C dX4_addFlag_8 0 rfl rfl ?_
    refine r_get (ci := 2) (CC := RX4) (T := TX4) (N := 8) (v := .ref p1) C hinX4_addFlag_X4 0 rfl rfl 4 (by decide) mX4_addFlag_2 rfl rfl dX4_addFlag_9 ?_
    refine r_aload_n C dX4_addFlag_12 0 rfl rfl ?_
    refine r_get (ci := 2) (CC := RX4) (T := TX4) (N := 8) (v := .int flags) C hinX4_addFlag_X4 0 rfl rfl 3 (by decide) mX4_addFlag_1 rfl rfl dX4_addFlag_13 ?_
    refine r_iload_n C dX4_addFlag_16 1 rfl rfl ?_
    obtain ⟨hu2, h⟩ := ob_if h
    refine r_iast (ws1 := (wP cyI cyZ cyW p0 p1 p2 p3 p4 tubs pegs pwi flags (upd pco flags.toNatClampNeg x1) pcl phr pho)) C 1 0 rfl rfl (inb_vp hu2) rfl dX4_addFlag_17 ?_
    refine r_aload_n C dX4_addFlag_18 0 rfl rfl ?_
    refine r_get (ci := 2) (CC := RX4) (T := TX4) (N := 8) (v := .ref p2) C hinX4_addFlag_X4 0 rfl rfl 5 (by decide) mX4_addFlag_3 rfl rfl dX4_addFlag_19 ?_
    refine r_aload_n C dX4_addFlag_22 0 rfl rfl ?_
    refine r_get (ci := 2) (CC := RX4) (T := TX4) (N := 8) (v := .int flags) C hinX4_addFlag_X4 0 rfl rfl 3 (by decide) mX4_addFlag_1 rfl rfl dX4_addFlag_23 ?_
    refine r_iload_n C dX4_addFlag_26 2 rfl rfl ?_
    obtain ⟨hu3, h⟩ := ob_if h
    refine r_iast (ws1 := (wP cyI cyZ cyW p0 p1 p2 p3 p4 tubs pegs pwi flags (upd pco flags.toNatClampNeg x1) (upd pcl flags.toNatClampNeg x2) phr pho)) C 2 0 rfl rfl (inb_vp hu3) rfl dX4_addFlag_27 ?_
    refine r_aload_n C dX4_addFlag_28 0 rfl rfl ?_
    refine r_get (ci := 2) (CC := RX4) (T := TX4) (N := 8) (v := .ref p3) C hinX4_addFlag_X4 0 rfl rfl 6 (by decide) mX4_addFlag_4 rfl rfl dX4_addFlag_29 ?_
    refine r_aload_n C dX4_addFlag_32 0 rfl rfl ?_
    refine r_get (ci := 2) (CC := RX4) (T := TX4) (N := 8) (v := .int flags) C hinX4_addFlag_X4 0 rfl rfl 3 (by decide) mX4_addFlag_1 rfl rfl dX4_addFlag_33 ?_
    refine r_iload_n C dX4_addFlag_36 3 rfl rfl ?_
    obtain ⟨hu4, h⟩ := ob_if h
    refine r_iast (ws1 := (wP cyI cyZ cyW p0 p1 p2 p3 p4 tubs pegs pwi flags (upd pco flags.toNatClampNeg x1) (upd pcl flags.toNatClampNeg x2) (upd phr flags.toNatClampNeg x3) pho)) C 3 0 rfl rfl (inb_vp hu4) rfl dX4_addFlag_37 ?_
    refine r_aload_n C dX4_addFlag_38 0 rfl rfl ?_
    refine r_get (ci := 2) (CC := RX4) (T := TX4) (N := 8) (v := .ref p4) C hinX4_addFlag_X4 0 rfl rfl 7 (by decide) mX4_addFlag_5 rfl rfl dX4_addFlag_39 ?_
    refine r_aload_n C dX4_addFlag_42 0 rfl rfl ?_
    refine r_get (ci := 2) (CC := RX4) (T := TX4) (N := 8) (v := .int flags) C hinX4_addFlag_X4 0 rfl rfl 3 (by decide) mX4_addFlag_1 rfl rfl dX4_addFlag_43 ?_
    refine r_iconst (v := 0) C dX4_addFlag_46 ic_0 ?_
    obtain ⟨hu5, h⟩ := ob_if h
    refine r_iast (ws1 := (wP cyI cyZ cyW p0 p1 p2 p3 p4 tubs pegs pwi flags (upd pco flags.toNatClampNeg x1) (upd pcl flags.toNatClampNeg x2) (upd phr flags.toNatClampNeg x3) (upd pho flags.toNatClampNeg (0 : Int32)))) C 4 0 rfl rfl (inb_vp hu5) rfl dX4_addFlag_47 ?_
    refine r_aload_n C dX4_addFlag_48 0 rfl rfl ?_
    refine r_dup C dX4_addFlag_49 rfl ?_
    refine r_get (ci := 2) (CC := RX4) (T := TX4) (N := 8) (v := .int flags) C hinX4_addFlag_X4 0 rfl rfl 3 (by decide) mX4_addFlag_1 rfl rfl dX4_addFlag_50 ?_
    refine r_iconst (v := 1) C dX4_addFlag_53 ic_1 ?_
    refine r_iadd C dX4_addFlag_54 ?_
    refine r_put (ci := 2) (CC := RX4) (T := TX4) (N := 8) (v := .int (flags + (1 : Int32))) (ws1 := (wP cyI cyZ cyW p0 p1 p2 p3 p4 tubs pegs pwi (flags + (1 : Int32)) (upd pco flags.toNatClampNeg x1) (upd pcl flags.toNatClampNeg x2) (upd phr flags.toNatClampNeg x3) (upd pho flags.toNatClampNeg (0 : Int32)))) (ty := .int) C hinX4_addFlag_X4 tyX4 tyX4_ok nmX4 0 rfl rfl 3 (by decide) mX4_addFlag_1 rfl rfl rfl rfl rfl (Nat.le_of_ble_eq_true rfl) rfl dX4_addFlag_55 ?_
    have h9 := Option.some.inj h
    subst h9
    exact r_vret C rfl dX4_addFlag_58
