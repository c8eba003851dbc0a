/-! ===== FlagWash$Reader.goOn ===== -/
def fX5_goOn  (x1 : Bool) (x2 : Int32) (stage : Int32) : Option (Bool × Int32) :=
 (if x1 = true then (some (x1, x2))
 else (some (x1, stage)))
theorem hinX5_goOn_X5 : ∀ w ∈ u_ws RX5 TX5 5, w ∈ wsX5_goOn := fun w h => List.mem_cons_of_mem _ (List.mem_append_right _ h)
theorem mX5_goOn_1 : Cond.fieldLink RX5 18 "FlagWash$Reader" "stage" "I" ∈ wsX5_goOn := List.mem_of_getElem? (i := 1) rfl
theorem hd_X5_goOn : yX5_goOn.cls ≠ "java/lang/invoke/MethodHandle" ∧ yX5_goOn.cls ≠ "java/lang/invoke/VarHandle" ∧ (parseMethodDescriptor yX5_goOn.desc).map (fun d => d.parameters.length) = some 2 := by decide +kernel
set_option maxHeartbeats 4000000 in
set_option maxRecDepth 100000 in
theorem kX5_goOn {l : Launch} {D : va_G} {cyI cyZ cyW : ClassId} {zW zO : Nat} {r0 : Nat} {p0 : Nat} {stage : Int32} {rco : Int32} {rcl : Int32} {ron : Int32} {x1 : Bool} {x2 : Int32} {res : Bool × Int32} (h : fX5_goOn x1 x2 stage = some res) : KI l yX5_goOn wsX5_goOn ({ frames := 0, cells := 0, slots := 0, locals := 0 } : Room) D (tyA cyI cyZ cyW) zW zO [.ref r0, .int (b2i x1), .int x2] (wR cyI cyZ cyW r0 p0 stage rco rcl ron) (wR cyI cyZ cyW r0 p0 res.2 rco rcl ron) (b2i res.1) := by
  refine enterI (cc := cX5_goOn) (nL := 3) (ret := (some .boolean)) (by decide) rfl (Nat.le_of_ble_eq_true rfl) (fun p e s m below meth c A C => ?_)
  refine r_lv (lv' := [(0, .ref r0), (1, .int (b2i x1)), (2, .int x2)]) [0, 1, 2] rfl ?_
  unfold fX5_goOn at h
  refine r_iload_n C dX5_goOn_0 1 rfl rfl ?_
  refine r_ifb_eq (tgt := 9) C dX5_goOn_1 (by decide) (fun c1 => ?_) (fun c1 => ?_)
  · replace h := ob_bf h c1
    refine r_iload_n C dX5_goOn_9 1 rfl rfl ?_
    have h9 := Option.some.inj h
    subst h9
    exact r_zret (b := x1) C rfl dX5_goOn_10
  · replace h := ob_t h c1
    refine r_aload_n C dX5_goOn_4 0 rfl rfl ?_
    refine r_iload_n C dX5_goOn_5 2 rfl rfl ?_
    refine r_put (ci := 3) (CC := RX5) (T := TX5) (N := 5) (v := .int x2) (ws1 := (wR cyI cyZ cyW r0 p0 x2 rco rcl ron)) (ty := .int) C hinX5_goOn_X5 tyX5 tyX5_ok nmX5 0 rfl rfl 1 (by decide) mX5_goOn_1 rfl rfl rfl rfl rfl (Nat.le_of_ble_eq_true rfl) rfl dX5_goOn_6 ?_
    refine r_iload_n C dX5_goOn_9 1 rfl rfl ?_
    have h9 := Option.some.inj h
    subst h9
    exact r_zret (b := x1) C rfl dX5_goOn_10

/-! ===== FlagWash$Reader.takesPart ===== -/
def fX5_takesPart_50  (y0 : Bool) (stage : Int32) : Option (Bool × Int32) :=
 ((fX5_goOn y0 (8 : Int32) stage).bind fun u6 => (some (u6.1, u6.2)))
def fX5_takesPart_49  (stage : Int32) : Option (Bool × Int32) :=
 (fX5_takesPart_50  false stage)
def fX5_takesPart_23  (y0 : Bool) (stage : Int32) : Option (Bool × Int32) :=
 ((fX5_goOn y0 (5 : Int32) stage).bind fun u7 => (some (u7.1, u7.2)))
def fX5_takesPart  (x1 : Int32) (stage : Int32) (flags : Int32) (pho : (Nat → Int32)) : Option (Bool × Int32) :=
 (if x1 = (70 : Int32) then (if (5 : Int32) ≤ flags then (fX5_takesPart_23  false stage)
 else (fX5_takesPart_23  true stage))
 else (if x1 = (72 : Int32) then ((fX4_anyNotYetHostile flags pho).bind fun u3 => (if u3 = true then (fX5_takesPart_50  true stage)
 else (fX5_takesPart_49  stage)))
 else (fX5_takesPart_49  stage)))
theorem hinX5_takesPart_X5 : ∀ w ∈ u_ws RX5 TX5 5, w ∈ wsX5_takesPart := fun w h => List.mem_cons_of_mem _ (List.mem_append_left _ (List.mem_append_right _ h))
theorem mX5_takesPart_1 : Cond.fieldLink RX5 12 "FlagWash$Reader" "plan" "LFlagWash$Plan;" ∈ wsX5_takesPart := List.mem_of_getElem? (i := 1) rfl
theorem hinX5_takesPart_X4 : ∀ w ∈ u_ws RX4 TX4 8, w ∈ wsX5_takesPart := fun w h => List.mem_cons_of_mem _ (List.mem_append_right _ h)
theorem mX5_takesPart_2 : Cond.fieldLink RX5 31 "FlagWash$Plan" "flags" "I" ∈ wsX5_takesPart := List.mem_of_getElem? (i := 2) rfl
theorem hd_X5_takesPart : yX5_takesPart.cls ≠ "java/lang/invoke/MethodHandle" ∧ yX5_takesPart.cls ≠ "java/lang/invoke/VarHandle" ∧ (parseMethodDescriptor yX5_takesPart.desc).map (fun d => d.parameters.length) = some 1 := by decide +kernel
set_option maxHeartbeats 4000000 in
set_option maxRecDepth 100000 in
theorem LX5_takesPart_50 {p : Program} {l : Launch} {e : Env} {s : State} {m : MethodId} {args : Array Value} {below : List Frame} {meth : Method} {c : Code} {D : va_G} {cyI cyZ cyW : ClassId} {zW zO : Nat} {A : Nat → Prop} (C : Cx p s m args meth c cX5_takesPart RX5 "takesPart" wsX5_takesPart (some .boolean) 2 D (tyA cyI cyZ cyW) zW zO A) {r0 : Nat} {p0 : Nat} {p1 : Nat} {p2 : Nat} {p3 : Nat} {p4 : Nat} {stage : Int32} {rco : Int32} {rcl : Int32} {ron : Int32} {tubs : Int32} {pegs : Int32} {pwi : Int32} {flags : Int32} {pco : (Nat → Int32)} {pcl : (Nat → Int32)} {phr : (Nat → Int32)} {pho : (Nat → Int32)} {y0 : Bool}  {res : Bool × Int32}  (h : fX5_takesPart_50  y0 stage = some res) : Mx p l e ({ frames := 3, cells := 0, slots := 0, locals := 63 } : Room) s m args below meth c (MQ below (QI D (tyA cyI cyZ cyW) A (wRP cyI cyZ cyW r0 p0 p1 p2 p3 p4 res.2 rco rcl ron tubs pegs pwi flags pco pcl phr pho) (b2i res.1)) args s 0 0 A) 2 D A 0 0 (wRP cyI cyZ cyW r0 p0 p1 p2 p3 p4 stage rco rcl ron tubs pegs pwi flags pco pcl phr pho) 50 [] [.int (b2i y0), .ref r0] := by
  unfold fX5_takesPart_50 at h
  refine r_bipush (v := 8) C dX5_takesPart_50 bp_8 ?_
  obtain ⟨u6, hu6, h⟩ := ob_bind h
  refine r_callVI (q0 := 0) (As := [.int (b2i y0), .int (8 : Int32)]) (rest := []) (ws1 := (wRP cyI cyZ cyW r0 p0 p1 p2 p3 p4 u6.2 rco rcl ron tubs pegs pwi flags pco pcl phr pho)) C (kX5_goOn (r0 := r0) (p0 := p0) (stage := stage) (rco := rco) (rcl := rcl) (ron := ron) (x1 := y0) (x2 := (8 : Int32)) hu6) gX5_takesPart_X5_goOn rfl rfl rfl ⟨rfl, hd_X5_goOn⟩ ⟨by decide, by decide⟩ rfl rfl rfl rfl [0] (by decide) in_42 se_42 (adrRP.trans adrRP.symm) rfl (Nat.le_of_ble_eq_true rfl) dX5_takesPart_52 ⟨Nat.zero_le _, Nat.zero_le _⟩ ?_
  have h9 := Option.some.inj h
  subst h9
  exact r_zret (b := u6.1) C rfl dX5_takesPart_55
set_option maxHeartbeats 4000000 in
set_option maxRecDepth 100000 in
theorem LX5_takesPart_49 {p : Program} {l : Launch} {e : Env} {s : State} {m : MethodId} {args : Array Value} {below : List Frame} {meth : Method} {c : Code} {D : va_G} {cyI cyZ cyW : ClassId} {zW zO : Nat} {A : Nat → Prop} (C : Cx p s m args meth c cX5_takesPart RX5 "takesPart" wsX5_takesPart (some .boolean) 2 D (tyA cyI cyZ cyW) zW zO A) {r0 : Nat} {p0 : Nat} {p1 : Nat} {p2 : Nat} {p3 : Nat} {p4 : Nat} {stage : Int32} {rco : Int32} {rcl : Int32} {ron : Int32} {tubs : Int32} {pegs : Int32} {pwi : Int32} {flags : Int32} {pco : (Nat → Int32)} {pcl : (Nat → Int32)} {phr : (Nat → Int32)} {pho : (Nat → Int32)}   {res : Bool × Int32}  (h : fX5_takesPart_49  stage = some res) : Mx p l e ({ frames := 3, cells := 0, slots := 0, locals := 63 } : Room) s m args below meth c (MQ below (QI D (tyA cyI cyZ cyW) A (wRP cyI cyZ cyW r0 p0 p1 p2 p3 p4 res.2 rco rcl ron tubs pegs pwi flags pco pcl phr pho) (b2i res.1)) args s 0 0 A) 2 D A 0 0 (wRP cyI cyZ cyW r0 p0 p1 p2 p3 p4 stage rco rcl ron tubs pegs pwi flags pco pcl phr pho) 49 [] [.ref r0] := by
  unfold fX5_takesPart_49 at h
  refine r_iconst (v := 0) C dX5_takesPart_49 ic_0 ?_
  refine r_lv (lv' := []) [] rfl ?_
  exact LX5_takesPart_50 C (y0 := false) (stage := stage) (rco := rco) (rcl := rcl) (ron := ron) (tubs := tubs) (pegs := pegs) (pwi := pwi) (flags := flags) (pco := pco) (pcl := pcl) (phr := phr) (pho := pho)  h
set_option maxHeartbeats 4000000 in
set_option maxRecDepth 100000 in
theorem LX5_takesPart_23 {p : Program} {l : Launch} {e : Env} {s : State} {m : MethodId} {args : Array Value} {below : List Frame} {meth : Method} {c : Code} {D : va_G} {cyI cyZ cyW : ClassId} {zW zO : Nat} {A : Nat → Prop} (C : Cx p s m args meth c cX5_takesPart RX5 "takesPart" wsX5_takesPart (some .boolean) 2 D (tyA cyI cyZ cyW) zW zO A) {r0 : Nat} {p0 : Nat} {p1 : Nat} {p2 : Nat} {p3 : Nat} {p4 : Nat} {stage : Int32} {rco : Int32} {rcl : Int32} {ron : Int32} {tubs : Int32} {pegs : Int32} {pwi : Int32} {flags : Int32} {pco : (Nat → Int32)} {pcl : (Nat → Int32)} {phr : (Nat → Int32)} {pho : (Nat → Int32)} {y0 : Bool}  {res : Bool × Int32}  (h : fX5_takesPart_23  y0 stage = some res) : Mx p l e ({ frames := 3, cells := 0, slots := 0, locals := 63 } : Room) s m args below meth c (MQ below (QI D (tyA cyI cyZ cyW) A (wRP cyI cyZ cyW r0 p0 p1 p2 p3 p4 res.2 rco rcl ron tubs pegs pwi flags pco pcl phr pho) (b2i res.1)) args s 0 0 A) 2 D A 0 0 (wRP cyI cyZ cyW r0 p0 p1 p2 p3 p4 stage rco rcl ron tubs pegs pwi flags pco pcl phr pho) 23 [] [.int (b2i y0), .ref r0] := by
  unfold fX5_takesPart_23 at h
  refine r_iconst (v := 5) C dX5_takesPart_23 ic_5 ?_
  obtain ⟨u7, hu7, h⟩ := ob_bind h
  refine r_callVI (q0 := 0) (As := [.int (b2i y0), .int (5 : Int32)]) (rest := []) (ws1 := (wRP cyI cyZ cyW r0 p0 p1 p2 p3 p4 u7.2 rco rcl ron tubs pegs pwi flags pco pcl phr pho)) C (kX5_goOn (r0 := r0) (p0 := p0) (stage := stage) (rco := rco) (rcl := rcl) (ron := ron) (x1 := y0) (x2 := (5 : Int32)) hu7) gX5_takesPart_X5_goOn rfl rfl rfl ⟨rfl, hd_X5_goOn⟩ ⟨by decide, by decide⟩ rfl rfl rfl rfl [0] (by decide) in_42 se_42 (adrRP.trans adrRP.symm) rfl (Nat.le_of_ble_eq_true rfl) dX5_takesPart_24 ⟨Nat.zero_le _, Nat.zero_le _⟩ ?_
  have h9 := Option.some.inj h
  subst h9
  exact r_zret (b := u7.1) C rfl dX5_takesPart_27
set_option maxHeartbeats 4000000 in
set_option maxRecDepth 100000 in
theorem kX5_takesPart {l : Launch} {D : va_G} {cyI cyZ cyW : ClassId} {zW zO : Nat} {r0 : Nat} {p0 : Nat} {p1 : Nat} {p2 : Nat} {p3 : Nat} {p4 : Nat} {stage : Int32} {rco : Int32} {rcl : Int32} {ron : Int32} {tubs : Int32} {pegs : Int32} {pwi : Int32} {flags : Int32} {pco : (Nat → Int32)} {pcl : (Nat → Int32)} {phr : (Nat → Int32)} {pho : (Nat → Int32)} {x1 : Int32} {res : Bool × Int32} (h : fX5_takesPart x1 stage flags pho = some res) : KI l yX5_takesPart wsX5_takesPart ({ frames := 3, cells := 0, slots := 0, locals := 63 } : Room) D (tyA cyI cyZ cyW) zW zO [.ref r0, .int x1] (wRP cyI cyZ cyW r0 p0 p1 p2 p3 p4 stage rco rcl ron tubs pegs pwi flags pco pcl phr pho) (wRP cyI cyZ cyW r0 p0 p1 p2 p3 p4 res.2 rco rcl ron tubs pegs pwi flags pco pcl phr pho) (b2i res.1) := by
  refine enterI (cc := cX5_takesPart) (nL := 2) (ret := (some .boolean)) (by decide) rfl (Nat.le_of_ble_eq_true rfl) (fun p e s m below meth c A C => ?_)
  refine r_lv (lv' := [(0, .ref r0), (1, .int x1)]) [0, 1] rfl ?_
  unfold fX5_takesPart at h
  refine r_iload_n C dX5_takesPart_0 1 rfl rfl ?_
  refine r_bipush (v := 70) C dX5_takesPart_1 bp_70 ?_
  refine r_icmp_ne (tgt := 28) C dX5_takesPart_3 (by decide) (fun c1 => ?_) (fun c1 => ?_)
  · replace h := ob_f h c1
    refine r_aload_n C dX5_takesPart_28 0 rfl rfl ?_
    refine r_iload_n C dX5_takesPart_29 1 rfl rfl ?_
    refine r_bipush (v := 72) C dX5_takesPart_30 bp_72 ?_
    refine r_icmp_ne (tgt := 49) C dX5_takesPart_32 (by decide) (fun c2 => ?_) (fun c2 => ?_)
    · replace h := ob_f h c2
      refine r_lv (lv' := []) [] rfl ?_
      exact LX5_takesPart_49 C (stage := stage) (rco := rco) (rcl := rcl) (ron := ron) (tubs := tubs) (pegs := pegs) (pwi := pwi) (flags := flags) (pco := pco) (pcl := pcl) (phr := phr) (pho := pho)  h
    · replace h := ob_t h c2
      refine r_aload_n C dX5_takesPart_35 0 rfl rfl ?_
      refine r_get (ci := 3) (CC := RX5) (T := TX5) (N := 5) (v := .ref p0) C hinX5_takesPart_X5 0 rfl rfl 0 (by decide) mX5_takesPart_1 rfl rfl dX5_takesPart_36 ?_
      obtain ⟨u3, hu3, h⟩ := ob_bind h
      refine r_readVI (q0 := 0) (As := []) (rest := [.ref r0]) C (kX4_anyNotYetHostile (p0 := p0) (p1 := p1) (p2 := p2) (p3 := p3) (p4 := p4) (tubs := tubs) (pegs := pegs) (pwi := pwi) (flags := flags) (pco := pco) (pcl := pcl) (phr := phr) (pho := pho)  hu3) gX5_takesPart_X4_anyNotYetHostile rfl rfl rfl ⟨rfl, hd_X4_anyNotYetHostile⟩ ⟨by decide, by decide⟩ rfl rfl rfl rfl [1, 2, 3, 4, 5] (by decide) in_41 rfl (Nat.le_of_ble_eq_true rfl) dX5_takesPart_39 ⟨Nat.zero_le _, Nat.zero_le _⟩ ?_
      refine r_ifb_eq (tgt := 49) C dX5_takesPart_42 (by decide) (fun c4 => ?_) (fun c4 => ?_)
      · replace h := ob_bf h c4
        refine r_lv (lv' := []) [] rfl ?_
        exact LX5_takesPart_49 C (stage := stage) (rco := rco) (rcl := rcl) (ron := ron) (tubs := tubs) (pegs := pegs) (pwi := pwi) (flags := flags) (pco := pco) (pcl := pcl) (phr := phr) (pho := pho)  h
      · replace h := ob_t h c4
        refine r_iconst (v := 1) C dX5_takesPart_45 ic_1 ?_
        refine r_goto (tgt := 50) C dX5_takesPart_46 (by decide) ?_
        refine r_lv (lv' := []) [] rfl ?_
        exact LX5_takesPart_50 C (y0 := true) (stage := stage) (rco := rco) (rcl := rcl) (ron := ron) (tubs := tubs) (pegs := pegs) (pwi := pwi) (flags := flags) (pco := pco) (pcl := pcl) (phr := phr) (pho := pho)  h
  · replace h := ob_t h c1
    refine r_aload_n C dX5_takesPart_6 0 rfl rfl ?_
    refine r_aload_n C dX5_takesPart_7 0 rfl rfl ?_
    refine r_get (ci := 3) (CC := RX5) (T := TX5) (N := 5) (v := .ref p0) C hinX5_takesPart_X5 0 rfl rfl 0 (by decide) mX5_takesPart_1 rfl rfl dX5_takesPart_8 ?_
    refine r_get (ci := 2) (CC := RX4) (T := TX4) (N := 8) (v := .int flags) C hinX5_takesPart_X4 1 rfl rfl 3 (by decide) mX5_takesPart_2 rfl rfl dX5_takesPart_11 ?_
    refine r_iconst (v := 5) C dX5_takesPart_14 ic_5 ?_
    refine r_icmp_ge (tgt := 22) C dX5_takesPart_15 (by decide) (fun c5 => ?_) (fun c5 => ?_)
    · replace h := ob_t h c5
      refine r_iconst (v := 0) C dX5_takesPart_22 ic_0 ?_
      refine r_lv (lv' := []) [] rfl ?_
      exact LX5_takesPart_23 C (y0 := false) (stage := stage) (rco := rco) (rcl := rcl) (ron := ron) (tubs := tubs) (pegs := pegs) (pwi := pwi) (flags := flags) (pco := pco) (pcl := pcl) (phr := phr) (pho := pho)  h
    · replace h := ob_f h c5
      refine r_iconst (v := 1) C dX5_takesPart_18 ic_1 ?_
      refine r_goto (tgt := 23) C dX5_takesPart_19 (by decide) ?_
      refine r_lv (lv' := []) [] rfl ?_
      exact LX5_takesPart_23 C (y0 := true) (stage := stage) (rco := rco) (rcl := rcl) (ron := ron) (tubs := tubs) (pegs := pegs) (pwi := pwi) (flags := flags) (pco := pco) (pcl := pcl) (phr := phr) (pho := pho)  h

/-! ===== FlagWash$Reader.takesOfFlag ===== -/
def fX5_takesOfFlag_64  (y0 : Bool) (stage : Int32) (rco : Int32) (rcl : Int32) (flags : Int32) (pco : (Nat → Int32)) (pcl : (Nat → Int32)) (phr : (Nat → Int32)) (pho : (Nat → Int32)) : Option (Bool × Int32 × Int32 × Int32 × Int32 × (Nat → Int32) × (Nat → Int32) × (Nat → Int32) × (Nat → Int32)) :=
 ((fX5_goOn y0 (7 : Int32) stage).bind fun u11 => (some (u11.1, u11.2, rco, rcl, flags, pco, pcl, phr, pho)))
def fX5_takesOfFlag_63  (stage : Int32) (rco : Int32) (rcl : Int32) (flags : Int32) (pco : (Nat → Int32)) (pcl : (Nat → Int32)) (phr : (Nat → Int32)) (pho : (Nat → Int32)) : Option (Bool × Int32 × Int32 × Int32 × Int32 × (Nat → Int32) × (Nat → Int32) × (Nat → Int32) × (Nat → Int32)) :=
 (fX5_takesOfFlag_64  false stage rco rcl flags pco pcl phr pho)
def fX5_takesOfFlag  (x1 : Int32) (stage : Int32) (rco : Int32) (rcl : Int32) (flags : Int32) (pco : (Nat → Int32)) (pcl : (Nat → Int32)) (phr : (Nat → Int32)) (pho : (Nat → Int32)) : Option (Bool × Int32 × Int32 × Int32 × Int32 × (Nat → Int32) × (Nat → Int32) × (Nat → Int32) × (Nat → Int32)) :=
 (if stage = (5 : Int32) then ((fX9_areColours (x1 - (97 : Int32))).bind fun u9 => ((fX5_goOn u9 (6 : Int32) stage).bind fun u10 => (some (u10.1, u10.2, (x1 - (97 : Int32)), rcl, flags, pco, pcl, phr, pho))))
 else (if stage = (6 : Int32) then (if (x1 - (48 : Int32)) < 0 then (fX5_takesOfFlag_63  stage rco (x1 - (48 : Int32)) flags pco pcl phr pho)
 else (if (3 : Int32) < (x1 - (48 : Int32)) then (fX5_takesOfFlag_63  stage rco (x1 - (48 : Int32)) flags pco pcl phr pho)
 else (fX5_takesOfFlag_64  true stage rco (x1 - (48 : Int32)) flags pco pcl phr pho)))
 else (if (x1 - (48 : Int32)) < (1 : Int32) then (some (false, stage, rco, rcl, flags, pco, pcl, phr, pho))
 else (if (x1 - (48 : Int32)) ≤ (4 : Int32) then ((fX4_addFlag rco rcl (x1 - (48 : Int32)) flags pco pcl phr pho).bind fun u5 => ((fX5_goOn true (4 : Int32) stage).bind fun u6 => (some (u6.1, u6.2, rco, rcl, u5.1, u5.2.1, u5.2.2.1, u5.2.2.2.1, u5.2.2.2.2))))
 else (some (false, stage, rco, rcl, flags, pco, pcl, phr, pho))))))
theorem hinX5_takesOfFlag_X5 : ∀ w ∈ u_ws RX5 TX5 5, w ∈ wsX5_takesOfFlag := fun w h => List.mem_cons_of_mem _ (List.mem_append_left _ (List.mem_append_right _ h))
theorem mX5_takesOfFlag_1 : Cond.fieldLink RX5 18 "FlagWash$Reader" "stage" "I" ∈ wsX5_takesOfFlag := List.mem_of_getElem? (i := 1) rfl
theorem mX5_takesOfFlag_4 : Cond.fieldLink RX5 12 "FlagWash$Reader" "plan" "LFlagWash$Plan;" ∈ wsX5_takesOfFlag := List.mem_of_getElem? (i := 4) rfl
theorem mX5_takesOfFlag_2 : Cond.fieldLink RX5 22 "FlagWash$Reader" "colours" "I" ∈ wsX5_takesOfFlag := List.mem_of_getElem? (i := 2) rfl
theorem mX5_takesOfFlag_3 : Cond.fieldLink RX5 25 "FlagWash$Reader" "cloth" "I" ∈ wsX5_takesOfFlag := List.mem_of_getElem? (i := 3) rfl
theorem mX5_takesOfFlag_6 : Cond.initialized RX9 ∈ wsX5_takesOfFlag := List.mem_of_getElem? (i := 6) rfl
theorem mX5_takesOfFlag_5 : Cond.static yX9_areColours ∈ wsX5_takesOfFlag := List.mem_of_getElem? (i := 5) rfl
theorem hd_X5_takesOfFlag : yX5_takesOfFlag.cls ≠ "java/lang/invoke/MethodHandle" ∧ yX5_takesOfFlag.cls ≠ "java/lang/invoke/VarHandle" ∧ (parseMethodDescriptor yX5_takesOfFlag.desc).map (fun d => d.parameters.length) = some 1 := by decide +kernel
set_option maxHeartbeats 4000000 in
set_option maxRecDepth 100000 in
theorem LX5_takesOfFlag_64 {p : Program} {l : Launch} {e : Env} {s : State} {m : MethodId} {args : Array Value} {below : List Frame} {meth : Method} {c : Code} {D : va_G} {cyI cyZ cyW : ClassId} {zW zO : Nat} {A : Nat → Prop} (C : Cx p s m args meth c cX5_takesOfFlag RX5 "takesOfFlag" wsX5_takesOfFlag (some .boolean) 3 D (tyA cyI cyZ cyW) zW zO A) {r0 : Nat} {p0 : Nat} {p1 : Nat} {p2 : Nat} {p3 : Nat} {p4 : Nat} {stage : Int32} {rco : Int32} {rcl : Int32} {ron : Int32} {tubs : Int32} {pegs : Int32} {pwi : Int32} {flags : Int32} {pco : (Nat → Int32)} {pcl : (Nat → Int32)} {phr : (Nat → Int32)} {pho : (Nat → Int32)} {y0 : Bool}  {res : Bool × Int32 × Int32 × Int32 × Int32 × (Nat → Int32) × (Nat → Int32) × (Nat → Int32) × (Nat → Int32)}  (h : fX5_takesOfFlag_64  y0 stage rco rcl flags pco pcl phr pho = some res) : Mx p l e ({ frames := 1, cells := 0, slots := 0, locals := 23 } : Room) s m args below meth c (MQ below (QI D (tyA cyI cyZ cyW) A (wRP cyI cyZ cyW r0 p0 p1 p2 p3 p4 res.2.1 res.2.2.1 res.2.2.2.1 ron tubs pegs pwi res.2.2.2.2.1 res.2.2.2.2.2.1 res.2.2.2.2.2.2.1 res.2.2.2.2.2.2.2.1 res.2.2.2.2.2.2.2.2) (b2i res.1)) args s 0 0 A) 3 D A 0 0 (wRP cyI cyZ cyW r0 p0 p1 p2 p3 p4 stage rco rcl ron tubs pegs pwi flags pco pcl phr pho) 64 [] [.int (b2i y0), .ref r0] := by
  unfold fX5_takesOfFlag_64 at h
  refine r_bipush (v := 7) C dX5_takesOfFlag_64 bp_7 ?_
  obtain ⟨u11, hu11, h⟩ := ob_bind h
  refine r_callVI (q0 := 0) (As := [.int (b2i y0), .int (7 : Int32)]) (rest := []) (ws1 := (wRP cyI cyZ cyW r0 p0 p1 p2 p3 p4 u11.2 rco rcl ron tubs pegs pwi flags pco pcl phr pho)) C (kX5_goOn (r0 := r0) (p0 := p0) (stage := stage) (rco := rco) (rcl := rcl) (ron := ron) (x1 := y0) (x2 := (7 : Int32)) hu11) gX5_takesOfFlag_X5_goOn rfl rfl rfl ⟨rfl, hd_X5_goOn⟩ ⟨by decide, by decide⟩ rfl rfl rfl rfl [0] (by decide) in_42 se_42 (adrRP.trans adrRP.symm) rfl (Nat.le_of_ble_eq_true rfl) dX5_takesOfFlag_66 ⟨Nat.zero_le _, Nat.zero_le _⟩ ?_
  have h9 := Option.some.inj h
  subst h9
  exact r_zret (b := u11.1) C rfl dX5_takesOfFlag_69
set_option maxHeartbeats 4000000 in
set_option maxRecDepth 100000 in
theorem LX5_takesOfFlag_63 {p : Program} {l : Launch} {e : Env} {s : State} {m : MethodId} {args : Array Value} {below : List Frame} {meth : Method} {c : Code} {D : va_G} {cyI cyZ cyW : ClassId} {zW zO : Nat} {A : Nat → Prop} (C : Cx p s m args meth c cX5_takesOfFlag RX5 "takesOfFlag" wsX5_takesOfFlag (some .boolean) 3 D (tyA cyI cyZ cyW) zW zO A) {r0 : Nat} {p0 : Nat} {p1 : Nat} {p2 : Nat} {p3 : Nat} {p4 : Nat} {stage : Int32} {rco : Int32} {rcl : Int32} {ron : Int32} {tubs : Int32} {pegs : Int32} {pwi : Int32} {flags : Int32} {pco : (Nat → Int32)} {pcl : (Nat → Int32)} {phr : (Nat → Int32)} {pho : (Nat → Int32)}   {res : Bool × Int32 × Int32 × Int32 × Int32 × (Nat → Int32) × (Nat → Int32) × (Nat → Int32) × (Nat → Int32)}  (h : fX5_takesOfFlag_63  stage rco rcl flags pco pcl phr pho = some res) : Mx p l e ({ frames := 1, cells := 0, slots := 0, locals := 23 } : Room) s m args below meth c (MQ below (QI D (tyA cyI cyZ cyW) A (wRP cyI cyZ cyW r0 p0 p1 p2 p3 p4 res.2.1 res.2.2.1 res.2.2.2.1 ron tubs pegs pwi res.2.2.2.2.1 res.2.2.2.2.2.1 res.2.2.2.2.2.2.1 res.2.2.2.2.2.2.2.1 res.2.2.2.2.2.2.2.2) (b2i res.1)) args s 0 0 A) 3 D A 0 0 (wRP cyI cyZ cyW r0 p0 p1 p2 p3 p4 stage rco rcl ron tubs pegs pwi flags pco pcl phr pho) 63 [] [.ref r0] := by
  unfold fX5_takesOfFlag_63 at h
  refine r_iconst (v := 0) C dX5_takesOfFlag_63 ic_0 ?_
  refine r_lv (lv' := []) [] rfl ?_
  exact LX5_takesOfFlag_64 C (y0 := false) (stage := stage) (rco := rco) (rcl := rcl) (ron := ron) (tubs := tubs) (pegs := pegs) (pwi := pwi) (flags := flags) (pco := pco) (pcl := pcl) (phr := phr) (pho := pho)  h
set_option maxHeartbeats 4000000 in
set_option maxRecDepth 100000 in
theorem kX5_takesOfFlag {l : Launch} {D : va_G} {cyI cyZ cyW : ClassId} {zW zO : Nat} {r0 : Nat} {p0 : Nat} {p1 : Nat} {p2 : Nat} {p3 : Nat} {p4 : Nat} {stage : Int32} {rco : Int32} {rcl : Int32} {ron : Int32} {tubs : Int32} {pegs : Int32} {pwi : Int32} {flags : Int32} {pco : (Nat → Int32)} {pcl : (Nat → Int32)} {phr : (Nat → Int32)} {pho : (Nat → Int32)} {x1 : Int32} {res : Bool × Int32 × Int32 × Int32 × Int32 × (Nat → Int32) × (Nat → Int32) × (Nat → Int32) × (Nat → Int32)} (h : fX5_takesOfFlag x1 stage rco rcl flags pco pcl phr pho = some res) : KI l yX5_takesOfFlag wsX5_takesOfFlag ({ frames := 1, cells := 0, slots := 0, locals := 23 } : Room) D (tyA cyI cyZ cyW) zW zO [.ref r0, .int x1] (wRP cyI cyZ cyW r0 p0 p1 p2 p3 p4 stage rco rcl ron tubs pegs pwi flags pco pcl phr pho) (wRP cyI cyZ cyW r0 p0 p1 p2 p3 p4 res.2.1 res.2.2.1 res.2.2.2.1 ron tubs pegs pwi res.2.2.2.2.1 res.2.2.2.2.2.1 res.2.2.2.2.2.2.1 res.2.2.2.2.2.2.2.1 res.2.2.2.2.2.2.2.2) (b2i res.1) := by
  refine enterI (cc := cX5_takesOfFlag) (nL := 3) (ret := (some .boolean)) (by decide) rfl (Nat.le_of_ble_eq_true rfl) (fun p e s m below meth c A C => ?_)
  refine r_lv (lv' := [(0, .ref r0), (1, .int x1)]) [0, 1] rfl ?_
  unfold fX5_takesOfFlag at h
  refine r_iload_n C dX5_takesOfFlag_0 1 rfl rfl ?_
  refine r_bipush (v := 48) C dX5_takesOfFlag_1 bp_48 ?_
  refine r_isub C dX5_takesOfFlag_3 ?_
  refine r_istore_n (lv' := [(2, .int (x1 - (48 : Int32))), (0, .ref r0), (1, .int x1)]) C dX5_takesOfFlag_4 rfl (by decide) rfl ?_
  refine r_aload_n C dX5_takesOfFlag_5 1 rfl rfl ?_
  refine r_get (ci := 3) (CC := RX5) (T := TX5) (N := 5) (v := .int stage) C hinX5_takesOfFlag_X5 0 rfl rfl 1 (by decide) mX5_takesOfFlag_1 rfl rfl dX5_takesOfFlag_6 ?_
  refine r_iconst (v := 5) C dX5_takesOfFlag_9 ic_5 ?_
  refine r_icmp_ne (tgt := 35) C dX5_takesOfFlag_10 (by decide) (fun c1 => ?_) (fun c1 => ?_)
  · replace h := ob_f h c1
    refine r_aload_n C dX5_takesOfFlag_35 1 rfl rfl ?_
    refine r_get (ci := 3) (CC := RX5) (T := TX5) (N := 5) (v := .int stage) C hinX5_takesOfFlag_X5 0 rfl rfl 1 (by decide) mX5_takesOfFlag_1 rfl rfl dX5_takesOfFlag_36 ?_
    refine r_bipush (v := 6) C dX5_takesOfFlag_39 bp_6 ?_
    refine r_icmp_ne (tgt := 70) C dX5_takesOfFlag_41 (by decide) (fun c2 => ?_) (fun c2 => ?_)
    · replace h := ob_f h c2
      refine r_iload_n C dX5_takesOfFlag_70 0 rfl rfl ?_
      refine r_iconst (v := 1) C dX5_takesOfFlag_71 ic_1 ?_
      refine r_icmp_lt (tgt := 80) C dX5_takesOfFlag_72 (by decide) (fun c3 => ?_) (fun c3 => ?_)
      · replace h := ob_t h c3
        refine r_iconst (v := 0) C dX5_takesOfFlag_80 ic_0 ?_
        have h9 := Option.some.inj h
        subst h9
        exact r_zret (b := false) C rfl dX5_takesOfFlag_81
      · replace h := ob_f h c3
        refine r_iload_n C dX5_takesOfFlag_75 0 rfl rfl ?_
        refine r_iconst (v := 4) C dX5_takesOfFlag_76 ic_4 ?_
        refine r_icmp_le (tgt := 82) C dX5_takesOfFlag_77 (by decide) (fun c4 => ?_) (fun c4 => ?_)
        · replace h := ob_t h c4
          refine r_aload_n C dX5_takesOfFlag_82 1 rfl rfl ?_
          refine r_get (ci := 3) (CC := RX5) (T := TX5) (N := 5) (v := .ref p0) C hinX5_takesOfFlag_X5 0 rfl rfl 0 (by decide) mX5_takesOfFlag_4 rfl rfl dX5_takesOfFlag_83 ?_
          refine r_aload_n C dX5_takesOfFlag_86 1 rfl rfl ?_
          refine r_get (ci := 3) (CC := RX5) (T := TX5) (N := 5) (v := .int rco) C hinX5_takesOfFlag_X5 0 rfl rfl 2 (by decide) mX5_takesOfFlag_2 rfl rfl dX5_takesOfFlag_87 ?_
          refine r_aload_n C dX5_takesOfFlag_90 1 rfl rfl ?_
          refine r_get (ci := 3) (CC := RX5) (T := TX5) (N := 5) (v := .int rcl) C hinX5_takesOfFlag_X5 0 rfl rfl 3 (by decide) mX5_takesOfFlag_3 rfl rfl dX5_takesOfFlag_91 ?_
          refine r_iload_n C dX5_takesOfFlag_94 0 rfl rfl ?_
          obtain ⟨u5, hu5, h⟩ := ob_bind h
          refine r_callVV (q0 := 0) (As := [.int rco, .int rcl, .int (x1 - (48 : Int32))]) (rest := []) (ws1 := (wRP cyI cyZ cyW r0 p0 p1 p2 p3 p4 stage rco rcl ron tubs pegs pwi u5.1 u5.2.1 u5.2.2.1 u5.2.2.2.1 u5.2.2.2.2)) C (kX4_addFlag (p0 := p0) (p1 := p1) (p2 := p2) (p3 := p3) (p4 := p4) (tubs := tubs) (pegs := pegs) (pwi := pwi) (flags := flags) (pco := pco) (pcl := pcl) (phr := phr) (pho := pho) (x1 := rco) (x2 := rcl) (x3 := (x1 - (48 : Int32))) hu5) gX5_takesOfFlag_X4_addFlag rfl rfl rfl ⟨rfl, hd_X4_addFlag⟩ ⟨by decide, by decide⟩ rfl rfl rfl rfl [1, 2, 3, 4, 5] (by decide) in_43 se_43 (adrRP.trans adrRP.symm) rfl (Nat.le_of_ble_eq_true rfl) dX5_takesOfFlag_95 ⟨Nat.zero_le _, Nat.zero_le _⟩ ?_
          refine r_aload_n C dX5_takesOfFlag_98 1 rfl rfl ?_
          refine r_iconst (v := 1) C dX5_takesOfFlag_99 ic_1 ?_
          refine r_iconst (v := 4) C dX5_takesOfFlag_100 ic_4 ?_
          obtain ⟨u6, hu6, h⟩ := ob_bind h
          refine r_callVI (q0 := 0) (As := [.int (1 : Int32), .int (4 : Int32)]) (rest := []) (ws1 := (wRP cyI cyZ cyW r0 p0 p1 p2 p3 p4 u6.2 rco rcl ron tubs pegs pwi u5.1 u5.2.1 u5.2.2.1 u5.2.2.2.1 u5.2.2.2.2)) C (kX5_goOn (r0 := r0) (p0 := p0) (stage := stage) (rco := rco) (rcl := rcl) (ron := ron) (x1 := true) (x2 := (4 : Int32)) hu6) gX5_takesOfFlag_X5_goOn rfl rfl rfl ⟨rfl, hd_X5_goOn⟩ ⟨by decide, by decide⟩ rfl rfl rfl rfl [0] (by decide) in_42 se_42 (adrRP.trans adrRP.symm) rfl (Nat.le_of_ble_eq_true rfl) dX5_takesOfFlag_101 ⟨Nat.zero_le _, Nat.zero_le _⟩ ?_
          have h9 := Option.some.inj h
          subst h9
          exact r_zret (b := u6.1) C rfl dX5_takesOfFlag_104
        · replace h := ob_f h c4
          refine r_iconst (v := 0) C dX5_takesOfFlag_80 ic_0 ?_
          have h9 := Option.some.inj h
          subst h9
          exact r_zret (b := false) C rfl dX5_takesOfFlag_81
    · replace h := ob_t h c2
      refine r_aload_n C dX5_takesOfFlag_44 1 rfl rfl ?_
      refine r_iload_n C dX5_takesOfFlag_45 0 rfl rfl ?_
      refine r_put (ci := 3) (CC := RX5) (T := TX5) (N := 5) (v := .int (x1 - (48 : Int32))) (ws1 := (wRP cyI cyZ cyW r0 p0 p1 p2 p3 p4 stage rco (x1 - (48 : Int32)) ron tubs pegs pwi flags pco pcl phr pho)) (ty := .int) C hinX5_takesOfFlag_X5 tyX5 tyX5_ok nmX5 0 rfl rfl 3 (by decide) mX5_takesOfFlag_3 rfl rfl rfl rfl rfl (Nat.le_of_ble_eq_true rfl) rfl dX5_takesOfFlag_46 ?_
      refine r_aload_n C dX5_takesOfFlag_49 1 rfl rfl ?_
      refine r_iload_n C dX5_takesOfFlag_50 0 rfl rfl ?_
      refine r_if_lt (tgt := 63) C dX5_takesOfFlag_51 (by decide) (fun c7 => ?_) (fun c7 => ?_)
      · replace h := ob_t h c7
        refine r_lv (lv' := []) [] rfl ?_
        exact LX5_takesOfFlag_63 C (stage := stage) (rco := rco) (rcl := (x1 - (48 : Int32))) (ron := ron) (tubs := tubs) (pegs := pegs) (pwi := pwi) (flags := flags) (pco := pco) (pcl := pcl) (phr := phr) (pho := pho)  h
      · replace h := ob_f h c7
        refine r_iload_n C dX5_takesOfFlag_54 0 rfl rfl ?_
        refine r_iconst (v := 3) C dX5_takesOfFlag_55 ic_3 ?_
        refine r_icmp_gt (tgt := 63) C dX5_takesOfFlag_56 (by decide) (fun c8 => ?_) (fun c8 => ?_)
        · replace h := ob_t h c8
          refine r_lv (lv' := []) [] rfl ?_
          exact LX5_takesOfFlag_63 C (stage := stage) (rco := rco) (rcl := (x1 - (48 : Int32))) (ron := ron) (tubs := tubs) (pegs := pegs) (pwi := pwi) (flags := flags) (pco := pco) (pcl := pcl) (phr := phr) (pho := pho)  h
        · replace h := ob_f h c8
          refine r_iconst (v := 1) C dX5_takesOfFlag_59 ic_1 ?_
          refine r_goto (tgt := 64) C dX5_takesOfFlag_60 (by decide) ?_
          refine r_lv (lv' := []) [] rfl ?_
          exact LX5_takesOfFlag_64 C (y0 := true) (stage := stage) (rco := rco) (rcl := (x1 - (48 : Int32))) (ron := ron) (tubs := tubs) (pegs := pegs) (pwi := pwi) (flags := flags) (pco := pco) (pcl := pcl) (phr := phr) (pho := pho)  h
  · replace h := ob_t h c1
    refine r_aload_n C dX5_takesOfFlag_13 1 rfl rfl ?_
    refine r_iload_n C dX5_takesOfFlag_14 2 rfl rfl ?_
    refine r_bipush (v := 97) C dX5_takesOfFlag_15 bp_97 ?_
    refine r_isub C dX5_takesOfFlag_17 ?_
    refine r_put (ci := 3) (CC := RX5) (T := TX5) (N := 5) (v := .int (x1 - (97 : Int32))) (ws1 := (wRP cyI cyZ cyW r0 p0 p1 p2 p3 p4 stage (x1 - (97 : Int32)) rcl ron tubs pegs pwi flags pco pcl phr pho)) (ty := .int) C hinX5_takesOfFlag_X5 tyX5 tyX5_ok nmX5 0 rfl rfl 2 (by decide) mX5_takesOfFlag_2 rfl rfl rfl rfl rfl (Nat.le_of_ble_eq_true rfl) rfl dX5_takesOfFlag_18 ?_
    refine r_aload_n C dX5_takesOfFlag_21 1 rfl rfl ?_
    refine r_aload_n C dX5_takesOfFlag_22 1 rfl rfl ?_
    refine r_get (ci := 3) (CC := RX5) (T := TX5) (N := 5) (v := .int (x1 - (97 : Int32))) C hinX5_takesOfFlag_X5 0 rfl rfl 2 (by decide) mX5_takesOfFlag_2 rfl rfl dX5_takesOfFlag_23 ?_
    obtain ⟨u9, hu9, h⟩ := ob_bind h
    refine r_readSNI (host := RX9) (As := [.int (x1 - (97 : Int32))]) (rest := [.ref r0]) C (kX9_areColours   (x0 := (x1 - (97 : Int32))) hu9) gX5_takesOfFlag_X9_areColours_n67 rfl rfl rfl (by decide +kernel) mX5_takesOfFlag_6 mX5_takesOfFlag_5 hd_X9_areColours ⟨by decide, by decide⟩ rfl [] (by decide) rfl rfl (Nat.le_of_ble_eq_true rfl) dX5_takesOfFlag_26 ⟨Nat.zero_le _, Nat.zero_le _⟩ ?_
    refine r_bipush (v := 6) C dX5_takesOfFlag_29 bp_6 ?_
    obtain ⟨u10, hu10, h⟩ := ob_bind h
    refine r_callVI (q0 := 0) (As := [.int (b2i u9), .int (6 : Int32)]) (rest := []) (ws1 := (wRP cyI cyZ cyW r0 p0 p1 p2 p3 p4 u10.2 (x1 - (97 : Int32)) rcl ron tubs pegs pwi flags pco pcl phr pho)) C (kX5_goOn (r0 := r0) (p0 := p0) (stage := stage) (rco := (x1 - (97 : Int32))) (rcl := rcl) (ron := ron) (x1 := u9) (x2 := (6 : Int32)) hu10) gX5_takesOfFlag_X5_goOn rfl rfl rfl ⟨rfl, hd_X5_goOn⟩ ⟨by decide, by decide⟩ rfl rfl rfl rfl [0] (by decide) in_42 se_42 (adrRP.trans adrRP.symm) rfl (Nat.le_of_ble_eq_true rfl) dX5_takesOfFlag_31 ⟨Nat.zero_le _, Nat.zero_le _⟩ ?_
    have h9 := Option.some.inj h
    subst h9
    exact r_zret (b := u10.1) C rfl dX5_takesOfFlag_34

/-! ===== FlagWash$Reader.takesOfHostile ===== -/
def fX5_takesOfHostile_31  (y0 : Bool) (stage : Int32) (ron : Int32) (pho : (Nat → Int32)) : Option (Bool × Int32 × Int32 × (Nat → Int32)) :=
 ((fX5_goOn y0 (9 : Int32) stage).bind fun u10 => (some (u10.1, u10.2, ron, pho)))
def fX5_takesOfHostile  (x1 : Int32) (stage : Int32) (ron : Int32) (flags : Int32) (pho : (Nat → Int32)) : Option (Bool × Int32 × Int32 × (Nat → Int32)) :=
 (if stage = (8 : Int32) then ((fX4_notYetHostile x1 flags pho).bind fun u8 => (if u8 = 0 then (fX5_takesOfHostile_31  false stage x1 pho)
 else (fX5_takesOfHostile_31  true stage x1 pho)))
 else ((fX4_has x1 flags).bind fun u2 => (if u2 = true then ((fX4_notYetHostile ron flags pho).bind fun u4 => (if ((u4 >>> (x1 &&& 31)) &&& (1 : Int32)) = 0 then (some (false, stage, ron, pho))
 else ((fX4_makeHostile ron x1 flags pho).bind fun u6 => ((fX5_goOn true (4 : Int32) stage).bind fun u7 => (some (u7.1, u7.2, ron, u6))))))
 else (some (false, stage, ron, pho)))))
theorem hinX5_takesOfHostile_X5 : ∀ w ∈ u_ws RX5 TX5 5, w ∈ wsX5_takesOfHostile := fun w h => List.mem_cons_of_mem _ (List.mem_append_left _ (List.mem_append_right _ h))
theorem mX5_takesOfHostile_1 : Cond.fieldLink RX5 18 "FlagWash$Reader" "stage" "I" ∈ wsX5_takesOfHostile := List.mem_of_getElem? (i := 1) rfl
theorem mX5_takesOfHostile_3 : Cond.fieldLink RX5 12 "FlagWash$Reader" "plan" "LFlagWash$Plan;" ∈ wsX5_takesOfHostile := List.mem_of_getElem? (i := 3) rfl
theorem mX5_takesOfHostile_2 : Cond.fieldLink RX5 28 "FlagWash$Reader" "one" "I" ∈ wsX5_takesOfHostile := List.mem_of_getElem? (i := 2) rfl
theorem hd_X5_takesOfHostile : yX5_takesOfHostile.cls ≠ "java/lang/invoke/MethodHandle" ∧ yX5_takesOfHostile.cls ≠ "java/lang/invoke/VarHandle" ∧ (parseMethodDescriptor yX5_takesOfHostile.desc).map (fun d => d.parameters.length) = some 1 := by decide +kernel
set_option maxHeartbeats 4000000 in
set_option maxRecDepth 100000 in
theorem LX5_takesOfHostile_31 {p : Program} {l : Launch} {e : Env} {s : State} {m : MethodId} {args : Array Value} {below : List Frame} {meth : Method} {c : Code} {D : va_G} {cyI cyZ cyW : ClassId} {zW zO : Nat} {A : Nat → Prop} (C : Cx p s m args meth c cX5_takesOfHostile RX5 "takesOfHostile" wsX5_takesOfHostile (some .boolean) 2 D (tyA cyI cyZ cyW) zW zO A) {r0 : Nat} {p0 : Nat} {p1 : Nat} {p2 : Nat} {p3 : Nat} {p4 : Nat} {stage : Int32} {rco : Int32} {rcl : Int32} {ron : Int32} {tubs : Int32} {pegs : Int32} {pwi : Int32} {flags : Int32} {pco : (Nat → Int32)} {pcl : (Nat → Int32)} {phr : (Nat → Int32)} {pho : (Nat → Int32)} {y0 : Bool}  {res : Bool × Int32 × Int32 × (Nat → Int32)}  (h : fX5_takesOfHostile_31  y0 stage ron pho = some res) : Mx p l e ({ frames := 2, cells := 0, slots := 0, locals := 43 } : Room) s m args below meth c (MQ below (QI D (tyA cyI cyZ cyW) A (wRP cyI cyZ cyW r0 p0 p1 p2 p3 p4 res.2.1 rco rcl res.2.2.1 tubs pegs pwi flags pco pcl phr res.2.2.2) (b2i res.1)) args s 0 0 A) 2 D A 0 0 (wRP cyI cyZ cyW r0 p0 p1 p2 p3 p4 stage rco rcl ron tubs pegs pwi flags pco pcl phr pho) 31 [] [.int (b2i y0), .ref r0] := by
  unfold fX5_takesOfHostile_31 at h
  refine r_bipush (v := 9) C dX5_takesOfHostile_31 bp_9 ?_
  obtain ⟨u10, hu10, h⟩ := ob_bind h
  refine r_callVI (q0 := 0) (As := [.int (b2i y0), .int (9 : Int32)]) (rest := []) (ws1 := (wRP cyI cyZ cyW r0 p0 p1 p2 p3 p4 u10.2 rco rcl ron tubs pegs pwi flags pco pcl phr pho)) C (kX5_goOn (r0 := r0) (p0 := p0) (stage := stage) (rco := rco) (rcl := rcl) (ron := ron) (x1 := y0) (x2 := (9 : Int32)) hu10) gX5_takesOfHostile_X5_goOn rfl rfl rfl ⟨rfl, hd_X5_goOn⟩ ⟨by decide, by decide⟩ rfl rfl rfl rfl [0] (by decide) in_42 se_42 (adrRP.trans adrRP.symm) rfl (Nat.le_of_ble_eq_true rfl) dX5_takesOfHostile_33 ⟨Nat.zero_le _, Nat.zero_le _⟩ ?_
  have h9 := Option.some.inj h
  subst h9
  exact r_zret (b := u10.1) C rfl dX5_takesOfHostile_36
set_option maxHeartbeats 4000000 in
set_option maxRecDepth 100000 in
theorem kX5_takesOfHostile {l : Launch} {D : va_G} {cyI cyZ cyW : ClassId} {zW zO : Nat} {r0 : Nat} {p0 : Nat} {p1 : Nat} {p2 : Nat} {p3 : Nat} {p4 : Nat} {stage : Int32} {rco : Int32} {rcl : Int32} {ron : Int32} {tubs : Int32} {pegs : Int32} {pwi : Int32} {flags : Int32} {pco : (Nat → Int32)} {pcl : (Nat → Int32)} {phr : (Nat → Int32)} {pho : (Nat → Int32)} {x1 : Int32} {res : Bool × Int32 × Int32 × (Nat → Int32)} (h : fX5_takesOfHostile x1 stage ron flags pho = some res) : KI l yX5_takesOfHostile wsX5_takesOfHostile ({ frames := 2, cells := 0, slots := 0, locals := 43 } : Room) D (tyA cyI cyZ cyW) zW zO [.ref r0, .int x1] (wRP cyI cyZ cyW r0 p0 p1 p2 p3 p4 stage rco rcl ron tubs pegs pwi flags pco pcl phr pho) (wRP cyI cyZ cyW r0 p0 p1 p2 p3 p4 res.2.1 rco rcl res.2.2.1 tubs pegs pwi flags pco pcl phr res.2.2.2) (b2i res.1) := by
  refine enterI (cc := cX5_takesOfHostile) (nL := 2) (ret := (some .boolean)) (by decide) rfl (Nat.le_of_ble_eq_true rfl) (fun p e s m below meth c A C => ?_)
  refine r_lv (lv' := [(0, .ref r0), (1, .int x1)]) [0, 1] rfl ?_
  unfold fX5_takesOfHostile at h
  refine r_aload_n C dX5_takesOfHostile_0 0 rfl rfl ?_
  refine r_get (ci := 3) (CC := RX5) (T := TX5) (N := 5) (v := .int stage) C hinX5_takesOfHostile_X5 0 rfl rfl 1 (by decide) mX5_takesOfHostile_1 rfl rfl dX5_takesOfHostile_1 ?_
  refine r_bipush (v := 8) C dX5_takesOfHostile_4 bp_8 ?_
  refine r_icmp_ne (tgt := 37) C dX5_takesOfHostile_6 (by decide) (fun c1 => ?_) (fun c1 => ?_)
  · replace h := ob_f h c1
    refine r_aload_n C dX5_takesOfHostile_37 0 rfl rfl ?_
    refine r_get (ci := 3) (CC := RX5) (T := TX5) (N := 5) (v := .ref p0) C hinX5_takesOfHostile_X5 0 rfl rfl 0 (by decide) mX5_takesOfHostile_3 rfl rfl dX5_takesOfHostile_38 ?_
    refine r_iload_n C dX5_takesOfHostile_41 1 rfl rfl ?_
    obtain ⟨u2, hu2, h⟩ := ob_bind h
    refine r_readVI (q0 := 0) (As := [.int x1]) (rest := []) C (kX4_has (p0 := p0) (p1 := p1) (p2 := p2) (p3 := p3) (p4 := p4) (tubs := tubs) (pegs := pegs) (pwi := pwi) (flags := flags) (pco := pco) (pcl := pcl) (phr := phr) (pho := pho) (x1 := x1) hu2) gX5_takesOfHostile_X4_has rfl rfl rfl ⟨rfl, hd_X4_has⟩ ⟨by decide, by decide⟩ rfl rfl rfl rfl [1, 2, 3, 4, 5] (by decide) in_41 rfl (Nat.le_of_ble_eq_true rfl) dX5_takesOfHostile_42 ⟨Nat.zero_le _, Nat.zero_le _⟩ ?_
    refine r_ifb_eq (tgt := 66) C dX5_takesOfHostile_45 (by decide) (fun c3 => ?_) (fun c3 => ?_)
    · replace h := ob_bf h c3
      refine r_iconst (v := 0) C dX5_takesOfHostile_66 ic_0 ?_
      have h9 := Option.some.inj h
      subst h9
      exact r_zret (b := false) C rfl dX5_takesOfHostile_67
    · replace h := ob_t h c3
      refine r_aload_n C dX5_takesOfHostile_48 0 rfl rfl ?_
      refine r_get (ci := 3) (CC := RX5) (T := TX5) (N := 5) (v := .ref p0) C hinX5_takesOfHostile_X5 0 rfl rfl 0 (by decide) mX5_takesOfHostile_3 rfl rfl dX5_takesOfHostile_49 ?_
      refine r_aload_n C dX5_takesOfHostile_52 0 rfl rfl ?_
      refine r_get (ci := 3) (CC := RX5) (T := TX5) (N := 5) (v := .int ron) C hinX5_takesOfHostile_X5 0 rfl rfl 4 (by decide) mX5_takesOfHostile_2 rfl rfl dX5_takesOfHostile_53 ?_
      obtain ⟨u4, hu4, h⟩ := ob_bind h
      refine r_readVI (q0 := 0) (As := [.int ron]) (rest := []) C (kX4_notYetHostile (p0 := p0) (p1 := p1) (p2 := p2) (p3 := p3) (p4 := p4) (tubs := tubs) (pegs := pegs) (pwi := pwi) (flags := flags) (pco := pco) (pcl := pcl) (phr := phr) (pho := pho) (x1 := ron) hu4) gX5_takesOfHostile_X4_notYetHostile rfl rfl rfl ⟨rfl, hd_X4_notYetHostile⟩ ⟨by decide, by decide⟩ rfl rfl rfl rfl [1, 2, 3, 4, 5] (by decide) in_41 rfl (Nat.le_of_ble_eq_true rfl) dX5_takesOfHostile_56 ⟨Nat.zero_le _, Nat.zero_le _⟩ ?_
      refine r_iload_n C dX5_takesOfHostile_59 1 rfl rfl ?_
      refine r_ishr C dX5_takesOfHostile_60 ?_
      refine r_iconst (v := 1) C dX5_takesOfHostile_61 ic_1 ?_
      refine r_iand C dX5_takesOfHostile_62 ?_
      refine r_if_ne (tgt := 68) C dX5_takesOfHostile_63 (by decide) (fun c5 => ?_) (fun c5 => ?_)
      · replace h := ob_f h c5
        refine r_aload_n C dX5_takesOfHostile_68 0 rfl rfl ?_
        refine r_get (ci := 3) (CC := RX5) (T := TX5) (N := 5) (v := .ref p0) C hinX5_takesOfHostile_X5 0 rfl rfl 0 (by decide) mX5_takesOfHostile_3 rfl rfl dX5_takesOfHostile_69 ?_
        refine r_aload_n C dX5_takesOfHostile_72 0 rfl rfl ?_
        refine r_get (ci := 3) (CC := RX5) (T := TX5) (N := 5) (v := .int ron) C hinX5_takesOfHostile_X5 0 rfl rfl 4 (by decide) mX5_takesOfHostile_2 rfl rfl dX5_takesOfHostile_73 ?_
        refine r_iload_n C dX5_takesOfHostile_76 1 rfl rfl ?_
        obtain ⟨u6, hu6, h⟩ := ob_bind h
        refine r_callVV (q0 := 0) (As := [.int ron, .int x1]) (rest := []) (ws1 := (wRP cyI cyZ cyW r0 p0 p1 p2 p3 p4 stage rco rcl ron tubs pegs pwi flags pco pcl phr u6)) C (kX4_makeHostile (p0 := p0) (p1 := p1) (p2 := p2) (p3 := p3) (p4 := p4) (tubs := tubs) (pegs := pegs) (pwi := pwi) (flags := flags) (pco := pco) (pcl := pcl) (phr := phr) (pho := pho) (x1 := ron) (x2 := x1) hu6) gX5_takesOfHostile_X4_makeHostile rfl rfl rfl ⟨rfl, hd_X4_makeHostile⟩ ⟨by decide, by decide⟩ rfl rfl rfl rfl [1, 2, 3, 4, 5] (by decide) in_44 se_44 (adrRP.trans adrRP.symm) rfl (Nat.le_of_ble_eq_true rfl) dX5_takesOfHostile_77 ⟨Nat.zero_le _, Nat.zero_le _⟩ ?_
        refine r_aload_n C dX5_takesOfHostile_80 0 rfl rfl ?_
        refine r_iconst (v := 1) C dX5_takesOfHostile_81 ic_1 ?_
        refine r_iconst (v := 4) C dX5_takesOfHostile_82 ic_4 ?_
        obtain ⟨u7, hu7, h⟩ := ob_bind h
        refine r_callVI (q0 := 0) (As := [.int (1 : Int32), .int (4 : Int32)]) (rest := []) (ws1 := (wRP cyI cyZ cyW r0 p0 p1 p2 p3 p4 u7.2 rco rcl ron tubs pegs pwi flags pco pcl phr u6)) C (kX5_goOn (r0 := r0) (p0 := p0) (stage := stage) (rco := rco) (rcl := rcl) (ron := ron) (x1 := true) (x2 := (4 : Int32)) hu7) gX5_takesOfHostile_X5_goOn rfl rfl rfl ⟨rfl, hd_X5_goOn⟩ ⟨by decide, by decide⟩ rfl rfl rfl rfl [0] (by decide) in_42 se_42 (adrRP.trans adrRP.symm) rfl (Nat.le_of_ble_eq_true rfl) dX5_takesOfHostile_83 ⟨Nat.zero_le _, Nat.zero_le _⟩ ?_
        have h9 := Option.some.inj h
        subst h9
        exact r_zret (b := u7.1) C rfl dX5_takesOfHostile_86
      · replace h := ob_t h c5
        refine r_iconst (v := 0) C dX5_takesOfHostile_66 ic_0 ?_
        have h9 := Option.some.inj h
        subst h9
        exact r_zret (b := false) C rfl dX5_takesOfHostile_67
  · replace h := ob_t h c1
    refine r_aload_n C dX5_takesOfHostile_9 0 rfl rfl ?_
    refine r_iload_n C dX5_takesOfHostile_10 1 rfl rfl ?_
    refine r_put (ci := 3) (CC := RX5) (T := TX5) (N := 5) (v := .int x1) (ws1 := (wRP cyI cyZ cyW r0 p0 p1 p2 p3 p4 stage rco rcl x1 tubs pegs pwi flags pco pcl phr pho)) (ty := .int) C hinX5_takesOfHostile_X5 tyX5 tyX5_ok nmX5 0 rfl rfl 4 (by decide) mX5_takesOfHostile_2 rfl rfl rfl rfl rfl (Nat.le_of_ble_eq_true rfl) rfl dX5_takesOfHostile_11 ?_
    refine r_aload_n C dX5_takesOfHostile_14 0 rfl rfl ?_
    refine r_aload_n C dX5_takesOfHostile_15 0 rfl rfl ?_
    refine r_get (ci := 3) (CC := RX5) (T := TX5) (N := 5) (v := .ref p0) C hinX5_takesOfHostile_X5 0 rfl rfl 0 (by decide) mX5_takesOfHostile_3 rfl rfl dX5_takesOfHostile_16 ?_
    refine r_iload_n C dX5_takesOfHostile_19 1 rfl rfl ?_
    obtain ⟨u8, hu8, h⟩ := ob_bind h
    refine r_readVI (q0 := 0) (As := [.int x1]) (rest := [.ref r0]) C (kX4_notYetHostile (p0 := p0) (p1 := p1) (p2 := p2) (p3 := p3) (p4 := p4) (tubs := tubs) (pegs := pegs) (pwi := pwi) (flags := flags) (pco := pco) (pcl := pcl) (phr := phr) (pho := pho) (x1 := x1) hu8) gX5_takesOfHostile_X4_notYetHostile rfl rfl rfl ⟨rfl, hd_X4_notYetHostile⟩ ⟨by decide, by decide⟩ rfl rfl rfl rfl [1, 2, 3, 4, 5] (by decide) in_41 rfl (Nat.le_of_ble_eq_true rfl) dX5_takesOfHostile_20 ⟨Nat.zero_le _, Nat.zero_le _⟩ ?_
    refine r_if_eq (tgt := 30) C dX5_takesOfHostile_23 (by decide) (fun c9 => ?_) (fun c9 => ?_)
    · replace h := ob_t h c9
      refine r_iconst (v := 0) C dX5_takesOfHostile_30 ic_0 ?_
      refine r_lv (lv' := []) [] rfl ?_
      exact LX5_takesOfHostile_31 C (y0 := false) (stage := stage) (rco := rco) (rcl := rcl) (ron := x1) (tubs := tubs) (pegs := pegs) (pwi := pwi) (flags := flags) (pco := pco) (pcl := pcl) (phr := phr) (pho := pho)  h
    · replace h := ob_f h c9
      refine r_iconst (v := 1) C dX5_takesOfHostile_26 ic_1 ?_
      refine r_goto (tgt := 31) C dX5_takesOfHostile_27 (by decide) ?_
      refine r_lv (lv' := []) [] rfl ?_
      exact LX5_takesOfHostile_31 C (y0 := true) (stage := stage) (rco := rco) (rcl := rcl) (ron := x1) (tubs := tubs) (pegs := pegs) (pwi := pwi) (flags := flags) (pco := pco) (pcl := pcl) (phr := phr) (pho := pho)  h
