/-! ===== FlagWash$Reader.takesOfHead ===== -/
def fX5_takesOfHead_126  (y0 : Bool) (stage : Int32) (tubs : Int32) (pegs : Int32) (pwi : Int32) : Option (Bool × Int32 × Int32 × Int32 × Int32) :=
 ((fX5_goOn y0 (4 : Int32) stage).bind fun u11 => (some (u11.1, u11.2, tubs, pegs, pwi)))
def fX5_takesOfHead_125  (stage : Int32) (tubs : Int32) (pegs : Int32) (pwi : Int32) : Option (Bool × Int32 × Int32 × Int32 × Int32) :=
 (fX5_takesOfHead_126  false stage tubs pegs pwi)
def fX5_takesOfHead_98  (y0 : Bool) (stage : Int32) (tubs : Int32) (pegs : Int32) (pwi : Int32) : Option (Bool × Int32 × Int32 × Int32 × Int32) :=
 ((fX5_goOn y0 (3 : Int32) stage).bind fun u12 => (some (u12.1, u12.2, tubs, pegs, pwi)))
def fX5_takesOfHead_97  (stage : Int32) (tubs : Int32) (pegs : Int32) (pwi : Int32) : Option (Bool × Int32 × Int32 × Int32 × Int32) :=
 (fX5_takesOfHead_98  false stage tubs pegs pwi)
def fX5_takesOfHead_61  (y0 : Bool) (stage : Int32) (tubs : Int32) (pegs : Int32) (pwi : Int32) : Option (Bool × Int32 × Int32 × Int32 × Int32) :=
 ((fX5_goOn y0 (2 : Int32) stage).bind fun u13 => (some (u13.1, u13.2, tubs, pegs, pwi)))
def fX5_takesOfHead_60  (stage : Int32) (tubs : Int32) (pegs : Int32) (pwi : Int32) : Option (Bool × Int32 × Int32 × Int32 × Int32) :=
 (fX5_takesOfHead_61  false stage tubs pegs pwi)
def fX5_takesOfHead_24  (y0 : Bool) (stage : Int32) (tubs : Int32) (pegs : Int32) (pwi : Int32) : Option (Bool × Int32 × Int32 × Int32 × Int32) :=
 ((fX5_goOn y0 (1 : Int32) stage).bind fun u14 => (some (u14.1, u14.2, tubs, pegs, pwi)))
def fX5_takesOfHead  (x1 : Int32) (stage : Int32) (tubs : Int32) (pegs : Int32) (pwi : Int32) : Option (Bool × Int32 × Int32 × Int32 × Int32) :=
 (if stage = 0 then (if x1 = (85 : Int32) then (fX5_takesOfHead_24  true stage tubs pegs pwi)
 else (fX5_takesOfHead_24  false stage tubs pegs pwi))
 else (if stage = (1 : Int32) then (if (x1 - (48 : Int32)) < (1 : Int32) then (fX5_takesOfHead_60  stage (x1 - (48 : Int32)) pegs pwi)
 else (if (3 : Int32) < (x1 - (48 : Int32)) then (fX5_takesOfHead_60  stage (x1 - (48 : Int32)) pegs pwi)
 else (fX5_takesOfHead_61  true stage (x1 - (48 : Int32)) pegs pwi)))
 else (if stage = (2 : Int32) then (if (x1 - (48 : Int32)) < (1 : Int32) then (fX5_takesOfHead_97  stage tubs (x1 - (48 : Int32)) pwi)
 else (if (4 : Int32) < (x1 - (48 : Int32)) then (fX5_takesOfHead_97  stage tubs (x1 - (48 : Int32)) pwi)
 else (fX5_takesOfHead_98  true stage tubs (x1 - (48 : Int32)) pwi)))
 else (if (x1 - (48 : Int32)) < 0 then (fX5_takesOfHead_125  stage tubs pegs (x1 - (48 : Int32)))
 else (if (2 : Int32) < (x1 - (48 : Int32)) then (fX5_takesOfHead_125  stage tubs pegs (x1 - (48 : Int32)))
 else (fX5_takesOfHead_126  true stage tubs pegs (x1 - (48 : Int32))))))))
theorem hinX5_takesOfHead_X5 : ∀ w ∈ u_ws RX5 TX5 5, w ∈ wsX5_takesOfHead := fun w h => List.mem_cons_of_mem _ (List.mem_append_left _ (List.mem_append_right _ h))
theorem mX5_takesOfHead_1 : Cond.fieldLink RX5 18 "FlagWash$Reader" "stage" "I" ∈ wsX5_takesOfHead := List.mem_of_getElem? (i := 1) rfl
theorem mX5_takesOfHead_2 : Cond.fieldLink RX5 12 "FlagWash$Reader" "plan" "LFlagWash$Plan;" ∈ wsX5_takesOfHead := List.mem_of_getElem? (i := 2) rfl
theorem hinX5_takesOfHead_X4 : ∀ w ∈ u_ws RX4 TX4 8, w ∈ wsX5_takesOfHead := fun w h => List.mem_cons_of_mem _ (List.mem_append_right _ h)
theorem mX5_takesOfHead_5 : Cond.fieldLink RX5 60 "FlagWash$Plan" "wind" "I" ∈ wsX5_takesOfHead := List.mem_of_getElem? (i := 5) rfl
theorem mX5_takesOfHead_4 : Cond.fieldLink RX5 57 "FlagWash$Plan" "pegs" "I" ∈ wsX5_takesOfHead := List.mem_of_getElem? (i := 4) rfl
theorem mX5_takesOfHead_3 : Cond.fieldLink RX5 54 "FlagWash$Plan" "tubs" "I" ∈ wsX5_takesOfHead := List.mem_of_getElem? (i := 3) rfl
theorem hd_X5_takesOfHead : yX5_takesOfHead.cls ≠ "java/lang/invoke/MethodHandle" ∧ yX5_takesOfHead.cls ≠ "java/lang/invoke/VarHandle" ∧ (parseMethodDescriptor yX5_takesOfHead.desc).map (fun d => d.parameters.length) = some 1 := by decide +kernel
set_option maxHeartbeats 4000000 in
set_option maxRecDepth 100000 in
theorem LX5_takesOfHead_126 {p : Program} {l : Launch} {e : Env} {s : State} {m : MethodId} {args : Array Value} {below : List Frame} {meth : Method} {c : Code} {D : va_G} {cyI cyZ cyW : ClassId} {zW zO : Nat} {A : Nat → Prop} (C : Cx p s m args meth c cX5_takesOfHead RX5 "takesOfHead" wsX5_takesOfHead (some .boolean) 3 D (tyA cyI cyZ cyW) zW zO A) {r0 : Nat} {p0 : Nat} {p1 : Nat} {p2 : Nat} {p3 : Nat} {p4 : Nat} {stage : Int32} {rco : Int32} {rcl : Int32} {ron : Int32} {tubs : Int32} {pegs : Int32} {pwi : Int32} {flags : Int32} {pco : (Nat → Int32)} {pcl : (Nat → Int32)} {phr : (Nat → Int32)} {pho : (Nat → Int32)} {y0 : Bool}  {res : Bool × Int32 × Int32 × Int32 × Int32}  (h : fX5_takesOfHead_126  y0 stage tubs pegs pwi = some res) : Mx p l e ({ frames := 1, cells := 0, slots := 0, locals := 22 } : Room) s m args below meth c (MQ below (QI D (tyA cyI cyZ cyW) A (wRP cyI cyZ cyW r0 p0 p1 p2 p3 p4 res.2.1 rco rcl ron res.2.2.1 res.2.2.2.1 res.2.2.2.2 flags pco pcl phr pho) (b2i res.1)) args s 0 0 A) 3 D A 0 0 (wRP cyI cyZ cyW r0 p0 p1 p2 p3 p4 stage rco rcl ron tubs pegs pwi flags pco pcl phr pho) 126 [] [.int (b2i y0), .ref r0] := by
  unfold fX5_takesOfHead_126 at h
  refine r_iconst (v := 4) C dX5_takesOfHead_126 ic_4 ?_
  obtain ⟨u11, hu11, h⟩ := ob_bind h
  refine r_callVI (q0 := 0) (As := [.int (b2i y0), .int (4 : Int32)]) (rest := []) (ws1 := (wRP cyI cyZ cyW r0 p0 p1 p2 p3 p4 u11.2 rco rcl ron tubs pegs pwi flags pco pcl phr pho)) C (kX5_goOn (r0 := r0) (p0 := p0) (stage := stage) (rco := rco) (rcl := rcl) (ron := ron) (x1 := y0) (x2 := (4 : Int32)) hu11) gX5_takesOfHead_X5_goOn rfl rfl rfl ⟨rfl, hd_X5_goOn⟩ ⟨by decide, by decide⟩ rfl rfl rfl rfl [0] (by decide) in_42 se_42 (adrRP.trans adrRP.symm) rfl (Nat.le_of_ble_eq_true rfl) dX5_takesOfHead_127 ⟨Nat.zero_le _, Nat.zero_le _⟩ ?_
  have h9 := Option.some.inj h
  subst h9
  exact r_zret (b := u11.1) C rfl dX5_takesOfHead_130
set_option maxHeartbeats 4000000 in
set_option maxRecDepth 100000 in
theorem LX5_takesOfHead_125 {p : Program} {l : Launch} {e : Env} {s : State} {m : MethodId} {args : Array Value} {below : List Frame} {meth : Method} {c : Code} {D : va_G} {cyI cyZ cyW : ClassId} {zW zO : Nat} {A : Nat → Prop} (C : Cx p s m args meth c cX5_takesOfHead RX5 "takesOfHead" wsX5_takesOfHead (some .boolean) 3 D (tyA cyI cyZ cyW) zW zO A) {r0 : Nat} {p0 : Nat} {p1 : Nat} {p2 : Nat} {p3 : Nat} {p4 : Nat} {stage : Int32} {rco : Int32} {rcl : Int32} {ron : Int32} {tubs : Int32} {pegs : Int32} {pwi : Int32} {flags : Int32} {pco : (Nat → Int32)} {pcl : (Nat → Int32)} {phr : (Nat → Int32)} {pho : (Nat → Int32)}   {res : Bool × Int32 × Int32 × Int32 × Int32}  (h : fX5_takesOfHead_125  stage tubs pegs pwi = some res) : Mx p l e ({ frames := 1, cells := 0, slots := 0, locals := 22 } : Room) s m args below meth c (MQ below (QI D (tyA cyI cyZ cyW) A (wRP cyI cyZ cyW r0 p0 p1 p2 p3 p4 res.2.1 rco rcl ron res.2.2.1 res.2.2.2.1 res.2.2.2.2 flags pco pcl phr pho) (b2i res.1)) args s 0 0 A) 3 D A 0 0 (wRP cyI cyZ cyW r0 p0 p1 p2 p3 p4 stage rco rcl ron tubs pegs pwi flags pco pcl phr pho) 125 [] [.ref r0] := by
  unfold fX5_takesOfHead_125 at h
  refine r_iconst (v := 0) C dX5_takesOfHead_125 ic_0 ?_
  refine r_lv (lv' := []) [] rfl ?_
  exact LX5_takesOfHead_126 C (y0 := false) (stage := stage) (rco := rco) (rcl := rcl) (ron := ron) (tubs := tubs) (pegs := pegs) (pwi := pwi) (flags := flags) (pco := pco) (pcl := pcl) (phr := phr) (pho := pho)  h
set_option maxHeartbeats 4000000 in
set_option maxRecDepth 100000 in
theorem LX5_takesOfHead_98 {p : Program} {l : Launch} {e : Env} {s : State} {m : MethodId} {args : Array Value} {below : List Frame} {meth : Method} {c : Code} {D : va_G} {cyI cyZ cyW : ClassId} {zW zO : Nat} {A : Nat → Prop} (C : Cx p s m args meth c cX5_takesOfHead RX5 "takesOfHead" wsX5_takesOfHead (some .boolean) 3 D (tyA cyI cyZ cyW) zW zO A) {r0 : Nat} {p0 : Nat} {p1 : Nat} {p2 : Nat} {p3 : Nat} {p4 : Nat} {stage : Int32} {rco : Int32} {rcl : Int32} {ron : Int32} {tubs : Int32} {pegs : Int32} {pwi : Int32} {flags : Int32} {pco : (Nat → Int32)} {pcl : (Nat → Int32)} {phr : (Nat → Int32)} {pho : (Nat → Int32)} {y0 : Bool}  {res : Bool × Int32 × Int32 × Int32 × Int32}  (h : fX5_takesOfHead_98  y0 stage tubs pegs pwi = some res) : Mx p l e ({ frames := 1, cells := 0, slots := 0, locals := 22 } : Room) s m args below meth c (MQ below (QI D (tyA cyI cyZ cyW) A (wRP cyI cyZ cyW r0 p0 p1 p2 p3 p4 res.2.1 rco rcl ron res.2.2.1 res.2.2.2.1 res.2.2.2.2 flags pco pcl phr pho) (b2i res.1)) args s 0 0 A) 3 D A 0 0 (wRP cyI cyZ cyW r0 p0 p1 p2 p3 p4 stage rco rcl ron tubs pegs pwi flags pco pcl phr pho) 98 [] [.int (b2i y0), .ref r0] := by
  unfold fX5_takesOfHead_98 at h
  refine r_iconst (v := 3) C dX5_takesOfHead_98 ic_3 ?_
  obtain ⟨u12, hu12, h⟩ := ob_bind h
  refine r_callVI (q0 := 0) (As := [.int (b2i y0), .int (3 : Int32)]) (rest := []) (ws1 := (wRP cyI cyZ cyW r0 p0 p1 p2 p3 p4 u12.2 rco rcl ron tubs pegs pwi flags pco pcl phr pho)) C (kX5_goOn (r0 := r0) (p0 := p0) (stage := stage) (rco := rco) (rcl := rcl) (ron := ron) (x1 := y0) (x2 := (3 : Int32)) hu12) gX5_takesOfHead_X5_goOn rfl rfl rfl ⟨rfl, hd_X5_goOn⟩ ⟨by decide, by decide⟩ rfl rfl rfl rfl [0] (by decide) in_42 se_42 (adrRP.trans adrRP.symm) rfl (Nat.le_of_ble_eq_true rfl) dX5_takesOfHead_99 ⟨Nat.zero_le _, Nat.zero_le _⟩ ?_
  have h9 := Option.some.inj h
  subst h9
  exact r_zret (b := u12.1) C rfl dX5_takesOfHead_102
set_option maxHeartbeats 4000000 in
set_option maxRecDepth 100000 in
theorem LX5_takesOfHead_97 {p : Program} {l : Launch} {e : Env} {s : State} {m : MethodId} {args : Array Value} {below : List Frame} {meth : Method} {c : Code} {D : va_G} {cyI cyZ cyW : ClassId} {zW zO : Nat} {A : Nat → Prop} (C : Cx p s m args meth c cX5_takesOfHead RX5 "takesOfHead" wsX5_takesOfHead (some .boolean) 3 D (tyA cyI cyZ cyW) zW zO A) {r0 : Nat} {p0 : Nat} {p1 : Nat} {p2 : Nat} {p3 : Nat} {p4 : Nat} {stage : Int32} {rco : Int32} {rcl : Int32} {ron : Int32} {tubs : Int32} {pegs : Int32} {pwi : Int32} {flags : Int32} {pco : (Nat → Int32)} {pcl : (Nat → Int32)} {phr : (Nat → Int32)} {pho : (Nat → Int32)}   {res : Bool × Int32 × Int32 × Int32 × Int32}  (h : fX5_takesOfHead_97  stage tubs pegs pwi = some res) : Mx p l e ({ frames := 1, cells := 0, slots := 0, locals := 22 } : Room) s m args below meth c (MQ below (QI D (tyA cyI cyZ cyW) A (wRP cyI cyZ cyW r0 p0 p1 p2 p3 p4 res.2.1 rco rcl ron res.2.2.1 res.2.2.2.1 res.2.2.2.2 flags pco pcl phr pho) (b2i res.1)) args s 0 0 A) 3 D A 0 0 (wRP cyI cyZ cyW r0 p0 p1 p2 p3 p4 stage rco rcl ron tubs pegs pwi flags pco pcl phr pho) 97 [] [.ref r0] := by
  unfold fX5_takesOfHead_97 at h
  refine r_iconst (v := 0) C dX5_takesOfHead_97 ic_0 ?_
  refine r_lv (lv' := []) [] rfl ?_
  exact LX5_takesOfHead_98 C (y0 := false) (stage := stage) (rco := rco) (rcl := rcl) (ron := ron) (tubs := tubs) (pegs := pegs) (pwi := pwi) (flags := flags) (pco := pco) (pcl := pcl) (phr := phr) (pho := pho)  h
set_option maxHeartbeats 4000000 in
set_option maxRecDepth 100000 in
theorem LX5_takesOfHead_61 {p : Program} {l : Launch} {e : Env} {s : State} {m : MethodId} {args : Array Value} {below : List Frame} {meth : Method} {c : Code} {D : va_G} {cyI cyZ cyW : ClassId} {zW zO : Nat} {A : Nat → Prop} (C : Cx p s m args meth c cX5_takesOfHead RX5 "takesOfHead" wsX5_takesOfHead (some .boolean) 3 D (tyA cyI cyZ cyW) zW zO A) {r0 : Nat} {p0 : Nat} {p1 : Nat} {p2 : Nat} {p3 : Nat} {p4 : Nat} {stage : Int32} {rco : Int32} {rcl : Int32} {ron : Int32} {tubs : Int32} {pegs : Int32} {pwi : Int32} {flags : Int32} {pco : (Nat → Int32)} {pcl : (Nat → Int32)} {phr : (Nat → Int32)} {pho : (Nat → Int32)} {y0 : Bool}  {res : Bool × Int32 × Int32 × Int32 × Int32}  (h : fX5_takesOfHead_61  y0 stage tubs pegs pwi = some res) : Mx p l e ({ frames := 1, cells := 0, slots := 0, locals := 22 } : Room) s m args below meth c (MQ below (QI D (tyA cyI cyZ cyW) A (wRP cyI cyZ cyW r0 p0 p1 p2 p3 p4 res.2.1 rco rcl ron res.2.2.1 res.2.2.2.1 res.2.2.2.2 flags pco pcl phr pho) (b2i res.1)) args s 0 0 A) 3 D A 0 0 (wRP cyI cyZ cyW r0 p0 p1 p2 p3 p4 stage rco rcl ron tubs pegs pwi flags pco pcl phr pho) 61 [] [.int (b2i y0), .ref r0] := by
  unfold fX5_takesOfHead_61 at h
  refine r_iconst (v := 2) C dX5_takesOfHead_61 ic_2 ?_
  obtain ⟨u13, hu13, h⟩ := ob_bind h
  refine r_callVI (q0 := 0) (As := [.int (b2i y0), .int (2 : Int32)]) (rest := []) (ws1 := (wRP cyI cyZ cyW r0 p0 p1 p2 p3 p4 u13.2 rco rcl ron tubs pegs pwi flags pco pcl phr pho)) C (kX5_goOn (r0 := r0) (p0 := p0) (stage := stage) (rco := rco) (rcl := rcl) (ron := ron) (x1 := y0) (x2 := (2 : Int32)) hu13) gX5_takesOfHead_X5_goOn rfl rfl rfl ⟨rfl, hd_X5_goOn⟩ ⟨by decide, by decide⟩ rfl rfl rfl rfl [0] (by decide) in_42 se_42 (adrRP.trans adrRP.symm) rfl (Nat.le_of_ble_eq_true rfl) dX5_takesOfHead_62 ⟨Nat.zero_le _, Nat.zero_le _⟩ ?_
  have h9 := Option.some.inj h
  subst h9
  exact r_zret (b := u13.1) C rfl dX5_takesOfHead_65
set_option maxHeartbeats 4000000 in
set_option maxRecDepth 100000 in
theorem LX5_takesOfHead_60 {p : Program} {l : Launch} {e : Env} {s : State} {m : MethodId} {args : Array Value} {below : List Frame} {meth : Method} {c : Code} {D : va_G} {cyI cyZ cyW : ClassId} {zW zO : Nat} {A : Nat → Prop} (C : Cx p s m args meth c cX5_takesOfHead RX5 "takesOfHead" wsX5_takesOfHead (some .boolean) 3 D (tyA cyI cyZ cyW) zW zO A) {r0 : Nat} {p0 : Nat} {p1 : Nat} {p2 : Nat} {p3 : Nat} {p4 : Nat} {stage : Int32} {rco : Int32} {rcl : Int32} {ron : Int32} {tubs : Int32} {pegs : Int32} {pwi : Int32} {flags : Int32} {pco : (Nat → Int32)} {pcl : (Nat → Int32)} {phr : (Nat → Int32)} {pho : (Nat → Int32)}   {res : Bool × Int32 × Int32 × Int32 × Int32}  (h : fX5_takesOfHead_60  stage tubs pegs pwi = some res) : Mx p l e ({ frames := 1, cells := 0, slots := 0, locals := 22 } : Room) s m args below meth c (MQ below (QI D (tyA cyI cyZ cyW) A (wRP cyI cyZ cyW r0 p0 p1 p2 p3 p4 res.2.1 rco rcl ron res.2.2.1 res.2.2.2.1 res.2.2.2.2 flags pco pcl phr pho) (b2i res.1)) args s 0 0 A) 3 D A 0 0 (wRP cyI cyZ cyW r0 p0 p1 p2 p3 p4 stage rco rcl ron tubs pegs pwi flags pco pcl phr pho) 60 [] [.ref r0] := by
  unfold fX5_takesOfHead_60 at h
  refine r_iconst (v := 0) C dX5_takesOfHead_60 ic_0 ?_
  refine r_lv (lv' := []) [] rfl ?_
  exact LX5_takesOfHead_61 C (y0 := false) (stage := stage) (rco := rco) (rcl := rcl) (ron := ron) (tubs := tubs) (pegs := pegs) (pwi := pwi) (flags := flags) (pco := pco) (pcl := pcl) (phr := phr) (pho := pho)  h
set_option maxHeartbeats 4000000 in
set_option maxRecDepth 100000 in
theorem LX5_takesOfHead_24 {p : Program} {l : Launch} {e : Env} {s : State} {m : MethodId} {args : Array Value} {below : List Frame} {meth : Method} {c : Code} {D : va_G} {cyI cyZ cyW : ClassId} {zW zO : Nat} {A : Nat → Prop} (C : Cx p s m args meth c cX5_takesOfHead RX5 "takesOfHead" wsX5_takesOfHead (some .boolean) 3 D (tyA cyI cyZ cyW) zW zO A) {r0 : Nat} {p0 : Nat} {p1 : Nat} {p2 : Nat} {p3 : Nat} {p4 : Nat} {stage : Int32} {rco : Int32} {rcl : Int32} {ron : Int32} {tubs : Int32} {pegs : Int32} {pwi : Int32} {flags : Int32} {pco : (Nat → Int32)} {pcl : (Nat → Int32)} {phr : (Nat → Int32)} {pho : (Nat → Int32)} {y0 : Bool}  {res : Bool × Int32 × Int32 × Int32 × Int32}  (h : fX5_takesOfHead_24  y0 stage tubs pegs pwi = some res) : Mx p l e ({ frames := 1, cells := 0, slots := 0, locals := 22 } : Room) s m args below meth c (MQ below (QI D (tyA cyI cyZ cyW) A (wRP cyI cyZ cyW r0 p0 p1 p2 p3 p4 res.2.1 rco rcl ron res.2.2.1 res.2.2.2.1 res.2.2.2.2 flags pco pcl phr pho) (b2i res.1)) args s 0 0 A) 3 D A 0 0 (wRP cyI cyZ cyW r0 p0 p1 p2 p3 p4 stage rco rcl ron tubs pegs pwi flags pco pcl phr pho) 24 [] [.int (b2i y0), .ref r0] := by
  unfold fX5_takesOfHead_24 at h
  refine r_iconst (v := 1) C dX5_takesOfHead_24 ic_1 ?_
  obtain ⟨u14, hu14, h⟩ := ob_bind h
  refine r_callVI (q0 := 0) (As := [.int (b2i y0), .int (1 : Int32)]) (rest := []) (ws1 := (wRP cyI cyZ cyW r0 p0 p1 p2 p3 p4 u14.2 rco rcl ron tubs pegs pwi flags pco pcl phr pho)) C (kX5_goOn (r0 := r0) (p0 := p0) (stage := stage) (rco := rco) (rcl := rcl) (ron := ron) (x1 := y0) (x2 := (1 : Int32)) hu14) gX5_takesOfHead_X5_goOn rfl rfl rfl ⟨rfl, hd_X5_goOn⟩ ⟨by decide, by decide⟩ rfl rfl rfl rfl [0] (by decide) in_42 se_42 (adrRP.trans adrRP.symm) rfl (Nat.le_of_ble_eq_true rfl) dX5_takesOfHead_25 ⟨Nat.zero_le _, Nat.zero_le _⟩ ?_
  have h9 := Option.some.inj h
  subst h9
  exact r_zret (b := u14.1) C rfl dX5_takesOfHead_28
set_option maxHeartbeats 4000000 in
set_option maxRecDepth 100000 in
theorem kX5_takesOfHead {l : Launch} {D : va_G} {cyI cyZ cyW : ClassId} {zW zO : Nat} {r0 : Nat} {p0 : Nat} {p1 : Nat} {p2 : Nat} {p3 : Nat} {p4 : Nat} {stage : Int32} {rco : Int32} {rcl : Int32} {ron : Int32} {tubs : Int32} {pegs : Int32} {pwi : Int32} {flags : Int32} {pco : (Nat → Int32)} {pcl : (Nat → Int32)} {phr : (Nat → Int32)} {pho : (Nat → Int32)} {x1 : Int32} {res : Bool × Int32 × Int32 × Int32 × Int32} (h : fX5_takesOfHead x1 stage tubs pegs pwi = some res) : KI l yX5_takesOfHead wsX5_takesOfHead ({ frames := 1, cells := 0, slots := 0, locals := 22 } : Room) D (tyA cyI cyZ cyW) zW zO [.ref r0, .int x1] (wRP cyI cyZ cyW r0 p0 p1 p2 p3 p4 stage rco rcl ron tubs pegs pwi flags pco pcl phr pho) (wRP cyI cyZ cyW r0 p0 p1 p2 p3 p4 res.2.1 rco rcl ron res.2.2.1 res.2.2.2.1 res.2.2.2.2 flags pco pcl phr pho) (b2i res.1) := by
  refine enterI (cc := cX5_takesOfHead) (nL := 3) (ret := (some .boolean)) (by decide) rfl (Nat.le_of_ble_eq_true rfl) (fun p e s m below meth c A C => ?_)
  refine r_lv (lv' := [(0, .ref r0), (1, .int x1)]) [0, 1] rfl ?_
  unfold fX5_takesOfHead at h
  refine r_iload_n C dX5_takesOfHead_0 1 rfl rfl ?_
  refine r_bipush (v := 48) C dX5_takesOfHead_1 bp_48 ?_
  refine r_isub C dX5_takesOfHead_3 ?_
  refine r_istore_n (lv' := [(2, .int (x1 - (48 : Int32))), (0, .ref r0), (1, .int x1)]) C dX5_takesOfHead_4 rfl (by decide) rfl ?_
  refine r_aload_n C dX5_takesOfHead_5 1 rfl rfl ?_
  refine r_get (ci := 3) (CC := RX5) (T := TX5) (N := 5) (v := .int stage) C hinX5_takesOfHead_X5 0 rfl rfl 1 (by decide) mX5_takesOfHead_1 rfl rfl dX5_takesOfHead_6 ?_
  refine r_if_ne (tgt := 29) C dX5_takesOfHead_9 (by decide) (fun c1 => ?_) (fun c1 => ?_)
  · replace h := ob_f h c1
    refine r_aload_n C dX5_takesOfHead_29 1 rfl rfl ?_
    refine r_get (ci := 3) (CC := RX5) (T := TX5) (N := 5) (v := .int stage) C hinX5_takesOfHead_X5 0 rfl rfl 1 (by decide) mX5_takesOfHead_1 rfl rfl dX5_takesOfHead_30 ?_
    refine r_iconst (v := 1) C dX5_takesOfHead_33 ic_1 ?_
    refine r_icmp_ne (tgt := 66) C dX5_takesOfHead_34 (by decide) (fun c2 => ?_) (fun c2 => ?_)
    · replace h := ob_f h c2
      refine r_aload_n C dX5_takesOfHead_66 1 rfl rfl ?_
      refine r_get (ci := 3) (CC := RX5) (T := TX5) (N := 5) (v := .int stage) C hinX5_takesOfHead_X5 0 rfl rfl 1 (by decide) mX5_takesOfHead_1 rfl rfl dX5_takesOfHead_67 ?_
      refine r_iconst (v := 2) C dX5_takesOfHead_70 ic_2 ?_
      refine r_icmp_ne (tgt := 103) C dX5_takesOfHead_71 (by decide) (fun c3 => ?_) (fun c3 => ?_)
      · replace h := ob_f h c3
        refine r_aload_n C dX5_takesOfHead_103 1 rfl rfl ?_
        refine r_get (ci := 3) (CC := RX5) (T := TX5) (N := 5) (v := .ref p0) C hinX5_takesOfHead_X5 0 rfl rfl 0 (by decide) mX5_takesOfHead_2 rfl rfl dX5_takesOfHead_104 ?_
        refine r_iload_n C dX5_takesOfHead_107 0 rfl rfl ?_
        refine r_put (ci := 2) (CC := RX4) (T := TX4) (N := 8) (v := .int (x1 - (48 : Int32))) (ws1 := (wRP cyI cyZ cyW r0 p0 p1 p2 p3 p4 stage rco rcl ron tubs pegs (x1 - (48 : Int32)) flags pco pcl phr pho)) (ty := .int) C hinX5_takesOfHead_X4 tyX4 tyX4_ok nmX4 1 rfl rfl 2 (by decide) mX5_takesOfHead_5 rfl rfl rfl rfl rfl (Nat.le_of_ble_eq_true rfl) rfl dX5_takesOfHead_108 ?_
        refine r_aload_n C dX5_takesOfHead_111 1 rfl rfl ?_
        refine r_iload_n C dX5_takesOfHead_112 0 rfl rfl ?_
        refine r_if_lt (tgt := 125) C dX5_takesOfHead_113 (by decide) (fun c4 => ?_) (fun c4 => ?_)
        · replace h := ob_t h c4
          refine r_lv (lv' := []) [] rfl ?_
          exact LX5_takesOfHead_125 C (stage := stage) (rco := rco) (rcl := rcl) (ron := ron) (tubs := tubs) (pegs := pegs) (pwi := (x1 - (48 : Int32))) (flags := flags) (pco := pco) (pcl := pcl) (phr := phr) (pho := pho)  h
        · replace h := ob_f h c4
          refine r_iload_n C dX5_takesOfHead_116 0 rfl rfl ?_
          refine r_iconst (v := 2) C dX5_takesOfHead_117 ic_2 ?_
          refine r_icmp_gt (tgt := 125) C dX5_takesOfHead_118 (by decide) (fun c5 => ?_) (fun c5 => ?_)
          · replace h := ob_t h c5
            refine r_lv (lv' := []) [] rfl ?_
            exact LX5_takesOfHead_125 C (stage := stage) (rco := rco) (rcl := rcl) (ron := ron) (tubs := tubs) (pegs := pegs) (pwi := (x1 - (48 : Int32))) (flags := flags) (pco := pco) (pcl := pcl) (phr := phr) (pho := pho)  h
          · replace h := ob_f h c5
            refine r_iconst (v := 1) C dX5_takesOfHead_121 ic_1 ?_
            refine r_goto (tgt := 126) C dX5_takesOfHead_122 (by decide) ?_
            refine r_lv (lv' := []) [] rfl ?_
            exact LX5_takesOfHead_126 C (y0 := true) (stage := stage) (rco := rco) (rcl := rcl) (ron := ron) (tubs := tubs) (pegs := pegs) (pwi := (x1 - (48 : Int32))) (flags := flags) (pco := pco) (pcl := pcl) (phr := phr) (pho := pho)  h
      · replace h := ob_t h c3
        refine r_aload_n C dX5_takesOfHead_74 1 rfl rfl ?_
        refine r_get (ci := 3) (CC := RX5) (T := TX5) (N := 5) (v := .ref p0) C hinX5_takesOfHead_X5 0 rfl rfl 0 (by decide) mX5_takesOfHead_2 rfl rfl dX5_takesOfHead_75 ?_
        refine r_iload_n C dX5_takesOfHead_78 0 rfl rfl ?_
        refine r_put (ci := 2) (CC := RX4) (T := TX4) (N := 8) (v := .int (x1 - (48 : Int32))) (ws1 := (wRP cyI cyZ cyW r0 p0 p1 p2 p3 p4 stage rco rcl ron tubs (x1 - (48 : Int32)) pwi flags pco pcl phr pho)) (ty := .int) C hinX5_takesOfHead_X4 tyX4 tyX4_ok nmX4 1 rfl rfl 1 (by decide) mX5_takesOfHead_4 rfl rfl rfl rfl rfl (Nat.le_of_ble_eq_true rfl) rfl dX5_takesOfHead_79 ?_
        refine r_aload_n C dX5_takesOfHead_82 1 rfl rfl ?_
        refine r_iload_n C dX5_takesOfHead_83 0 rfl rfl ?_
        refine r_iconst (v := 1) C dX5_takesOfHead_84 ic_1 ?_
        refine r_icmp_lt (tgt := 97) C dX5_takesOfHead_85 (by decide) (fun c6 => ?_) (fun c6 => ?_)
        · replace h := ob_t h c6
          refine r_lv (lv' := []) [] rfl ?_
          exact LX5_takesOfHead_97 C (stage := stage) (rco := rco) (rcl := rcl) (ron := ron) (tubs := tubs) (pegs := (x1 - (48 : Int32))) (pwi := pwi) (flags := flags) (pco := pco) (pcl := pcl) (phr := phr) (pho := pho)  h
        · replace h := ob_f h c6
          refine r_iload_n C dX5_takesOfHead_88 0 rfl rfl ?_
          refine r_iconst (v := 4) C dX5_takesOfHead_89 ic_4 ?_
          refine r_icmp_gt (tgt := 97) C dX5_takesOfHead_90 (by decide) (fun c7 => ?_) (fun c7 => ?_)
          · replace h := ob_t h c7
            refine r_lv (lv' := []) [] rfl ?_
            exact LX5_takesOfHead_97 C (stage := stage) (rco := rco) (rcl := rcl) (ron := ron) (tubs := tubs) (pegs := (x1 - (48 : Int32))) (pwi := pwi) (flags := flags) (pco := pco) (pcl := pcl) (phr := phr) (pho := pho)  h
          · replace h := ob_f h c7
            refine r_iconst (v := 1) C dX5_takesOfHead_93 ic_1 ?_
            refine r_goto (tgt := 98) C dX5_takesOfHead_94 (by decide) ?_
            refine r_lv (lv' := []) [] rfl ?_
            exact LX5_takesOfHead_98 C (y0 := true) (stage := stage) (rco := rco) (rcl := rcl) (ron := ron) (tubs := tubs) (pegs := (x1 - (48 : Int32))) (pwi := pwi) (flags := flags) (pco := pco) (pcl := pcl) (phr := phr) (pho := pho)  h
    · replace h := ob_t h c2
      refine r_aload_n C dX5_takesOfHead_37 1 rfl rfl ?_
      refine r_get (ci := 3) (CC := RX5) (T := TX5) (N := 5) (v := .ref p0) C hinX5_takesOfHead_X5 0 rfl rfl 0 (by decide) mX5_takesOfHead_2 rfl rfl dX5_takesOfHead_38 ?_
      refine r_iload_n C dX5_takesOfHead_41 0 rfl rfl ?_
      refine r_put (ci := 2) (CC := RX4) (T := TX4) (N := 8) (v := .int (x1 - (48 : Int32))) (ws1 := (wRP cyI cyZ cyW r0 p0 p1 p2 p3 p4 stage rco rcl ron (x1 - (48 : Int32)) pegs pwi flags pco pcl phr pho)) (ty := .int) C hinX5_takesOfHead_X4 tyX4 tyX4_ok nmX4 1 rfl rfl 0 (by decide) mX5_takesOfHead_3 rfl rfl rfl rfl rfl (Nat.le_of_ble_eq_true rfl) rfl dX5_takesOfHead_42 ?_
      refine r_aload_n C dX5_takesOfHead_45 1 rfl rfl ?_
      refine r_iload_n C dX5_takesOfHead_46 0 rfl rfl ?_
      refine r_iconst (v := 1) C dX5_takesOfHead_47 ic_1 ?_
      refine r_icmp_lt (tgt := 60) C dX5_takesOfHead_48 (by decide) (fun c8 => ?_) (fun c8 => ?_)
      · replace h := ob_t h c8
        refine r_lv (lv' := []) [] rfl ?_
        exact LX5_takesOfHead_60 C (stage := stage) (rco := rco) (rcl := rcl) (ron := ron) (tubs := (x1 - (48 : Int32))) (pegs := pegs) (pwi := pwi) (flags := flags) (pco := pco) (pcl := pcl) (phr := phr) (pho := pho)  h
      · replace h := ob_f h c8
        refine r_iload_n C dX5_takesOfHead_51 0 rfl rfl ?_
        refine r_iconst (v := 3) C dX5_takesOfHead_52 ic_3 ?_
        refine r_icmp_gt (tgt := 60) C dX5_takesOfHead_53 (by decide) (fun c9 => ?_) (fun c9 => ?_)
        · replace h := ob_t h c9
          refine r_lv (lv' := []) [] rfl ?_
          exact LX5_takesOfHead_60 C (stage := stage) (rco := rco) (rcl := rcl) (ron := ron) (tubs := (x1 - (48 : Int32))) (pegs := pegs) (pwi := pwi) (flags := flags) (pco := pco) (pcl := pcl) (phr := phr) (pho := pho)  h
        · replace h := ob_f h c9
          refine r_iconst (v := 1) C dX5_takesOfHead_56 ic_1 ?_
          refine r_goto (tgt := 61) C dX5_takesOfHead_57 (by decide) ?_
          refine r_lv (lv' := []) [] rfl ?_
          exact LX5_takesOfHead_61 C (y0 := true) (stage := stage) (rco := rco) (rcl := rcl) (ron := ron) (tubs := (x1 - (48 : Int32))) (pegs := pegs) (pwi := pwi) (flags := flags) (pco := pco) (pcl := pcl) (phr := phr) (pho := pho)  h
  · replace h := ob_t h c1
    refine r_aload_n C dX5_takesOfHead_12 1 rfl rfl ?_
    refine r_iload_n C dX5_takesOfHead_13 2 rfl rfl ?_
    refine r_bipush (v := 85) C dX5_takesOfHead_14 bp_85 ?_
    refine r_icmp_ne (tgt := 23) C dX5_takesOfHead_16 (by decide) (fun c10 => ?_) (fun c10 => ?_)
    · replace h := ob_f h c10
      refine r_iconst (v := 0) C dX5_takesOfHead_23 ic_0 ?_
      refine r_lv (lv' := []) [] rfl ?_
      exact LX5_takesOfHead_24 C (y0 := false) (stage := stage) (rco := rco) (rcl := rcl) (ron := ron) (tubs := tubs) (pegs := pegs) (pwi := pwi) (flags := flags) (pco := pco) (pcl := pcl) (phr := phr) (pho := pho)  h
    · replace h := ob_t h c10
      refine r_iconst (v := 1) C dX5_takesOfHead_19 ic_1 ?_
      refine r_goto (tgt := 24) C dX5_takesOfHead_20 (by decide) ?_
      refine r_lv (lv' := []) [] rfl ?_
      exact LX5_takesOfHead_24 C (y0 := true) (stage := stage) (rco := rco) (rcl := rcl) (ron := ron) (tubs := tubs) (pegs := pegs) (pwi := pwi) (flags := flags) (pco := pco) (pcl := pcl) (phr := phr) (pho := pho)  h

/-! ===== FlagWash$Reader.takes ===== -/
def fX5_takes_50  (x1 : Int32) (stage : Int32) (rco : Int32) (rcl : Int32) (ron : Int32) (tubs : Int32) (pegs : Int32) (pwi : Int32) (flags : Int32) (pco : (Nat → Int32)) (pcl : (Nat → Int32)) (phr : (Nat → Int32)) (pho : (Nat → Int32)) : Option (Bool × Int32 × Int32 × Int32 × Int32 × Int32 × Int32 × Int32 × Int32 × (Nat → Int32) × (Nat → Int32) × (Nat → Int32) × (Nat → Int32)) :=
 ((fX5_takesOfFlag x1 stage rco rcl flags pco pcl phr pho).bind fun u9 => (some (u9.1, u9.2.1, u9.2.2.1, u9.2.2.2.1, ron, tubs, pegs, pwi, u9.2.2.2.2.1, u9.2.2.2.2.2.1, u9.2.2.2.2.2.2.1, u9.2.2.2.2.2.2.2.1, u9.2.2.2.2.2.2.2.2)))
def fX5_takes_56  (x1 : Int32) (stage : Int32) (rco : Int32) (rcl : Int32) (ron : Int32) (tubs : Int32) (pegs : Int32) (pwi : Int32) (flags : Int32) (pco : (Nat → Int32)) (pcl : (Nat → Int32)) (phr : (Nat → Int32)) (pho : (Nat → Int32)) : Option (Bool × Int32 × Int32 × Int32 × Int32 × Int32 × Int32 × Int32 × Int32 × (Nat → Int32) × (Nat → Int32) × (Nat → Int32) × (Nat → Int32)) :=
 ((fX5_takesOfHostile (x1 - (48 : Int32)) stage ron flags pho).bind fun u10 => (some (u10.1, u10.2.1, rco, rcl, u10.2.2.1, tubs, pegs, pwi, flags, pco, pcl, phr, u10.2.2.2)))
def fX5_takes  (x1 : Int32) (stage : Int32) (rco : Int32) (rcl : Int32) (ron : Int32) (tubs : Int32) (pegs : Int32) (pwi : Int32) (flags : Int32) (pco : (Nat → Int32)) (pcl : (Nat → Int32)) (phr : (Nat → Int32)) (pho : (Nat → Int32)) : Option (Bool × Int32 × Int32 × Int32 × Int32 × Int32 × Int32 × Int32 × Int32 × (Nat → Int32) × (Nat → Int32) × (Nat → Int32) × (Nat → Int32)) :=
 (if stage = (4 : Int32) then ((fX5_takesPart x1 stage flags pho).bind fun u2 => (some (u2.1, u2.2, rco, rcl, ron, tubs, pegs, pwi, flags, pco, pcl, phr, pho)))
 else (if stage = (5 : Int32) then (fX5_takes_50  x1 stage rco rcl ron tubs pegs pwi flags pco pcl phr pho)
 else (if stage = (6 : Int32) then (fX5_takes_50  x1 stage rco rcl ron tubs pegs pwi flags pco pcl phr pho)
 else (if stage = (7 : Int32) then (fX5_takes_50  x1 stage rco rcl ron tubs pegs pwi flags pco pcl phr pho)
 else (if stage = (8 : Int32) then (fX5_takes_56  x1 stage rco rcl ron tubs pegs pwi flags pco pcl phr pho)
 else (if stage = (9 : Int32) then (fX5_takes_56  x1 stage rco rcl ron tubs pegs pwi flags pco pcl phr pho)
 else ((fX5_takesOfHead x1 stage tubs pegs pwi).bind fun u8 => (some (u8.1, u8.2.1, rco, rcl, ron, u8.2.2.1, u8.2.2.2.1, u8.2.2.2.2, flags, pco, pcl, phr, pho)))))))))
theorem hinX5_takes_X5 : ∀ w ∈ u_ws RX5 TX5 5, w ∈ wsX5_takes := fun w h => List.mem_cons_of_mem _ (List.mem_append_left _ (List.mem_append_right _ h))
theorem mX5_takes_1 : Cond.fieldLink RX5 18 "FlagWash$Reader" "stage" "I" ∈ wsX5_takes := List.mem_of_getElem? (i := 1) rfl
theorem hd_X5_takes : yX5_takes.cls ≠ "java/lang/invoke/MethodHandle" ∧ yX5_takes.cls ≠ "java/lang/invoke/VarHandle" ∧ (parseMethodDescriptor yX5_takes.desc).map (fun d => d.parameters.length) = some 1 := by decide +kernel
set_option maxHeartbeats 4000000 in
set_option maxRecDepth 100000 in
theorem LX5_takes_50 {p : Program} {l : Launch} {e : Env} {s : State} {m : MethodId} {args : Array Value} {below : List Frame} {meth : Method} {c : Code} {D : va_G} {cyI cyZ cyW : ClassId} {zW zO : Nat} {A : Nat → Prop} (C : Cx p s m args meth c cX5_takes RX5 "takes" wsX5_takes (some .boolean) 2 D (tyA cyI cyZ cyW) zW zO A) {r0 : Nat} {p0 : Nat} {p1 : Nat} {p2 : Nat} {p3 : Nat} {p4 : Nat} {stage : Int32} {rco : Int32} {rcl : Int32} {ron : Int32} {tubs : Int32} {pegs : Int32} {pwi : Int32} {flags : Int32} {pco : (Nat → Int32)} {pcl : (Nat → Int32)} {phr : (Nat → Int32)} {pho : (Nat → Int32)} {x1 : Int32}  {res : Bool × Int32 × Int32 × Int32 × Int32 × Int32 × Int32 × Int32 × Int32 × (Nat → Int32) × (Nat → Int32) × (Nat → Int32) × (Nat → Int32)}  (h : fX5_takes_50  x1 stage rco rcl ron tubs pegs pwi flags pco pcl phr pho = some res) : Mx p l e ({ frames := 4, cells := 0, slots := 0, locals := 84 } : Room) s m args below meth c (MQ below (QI D (tyA cyI cyZ cyW) A (wRP cyI cyZ cyW r0 p0 p1 p2 p3 p4 res.2.1 res.2.2.1 res.2.2.2.1 res.2.2.2.2.1 res.2.2.2.2.2.1 res.2.2.2.2.2.2.1 res.2.2.2.2.2.2.2.1 res.2.2.2.2.2.2.2.2.1 res.2.2.2.2.2.2.2.2.2.1 res.2.2.2.2.2.2.2.2.2.2.1 res.2.2.2.2.2.2.2.2.2.2.2.1 res.2.2.2.2.2.2.2.2.2.2.2.2) (b2i res.1)) args s 0 0 A) 2 D A 0 0 (wRP cyI cyZ cyW r0 p0 p1 p2 p3 p4 stage rco rcl ron tubs pegs pwi flags pco pcl phr pho) 50 [(0, .ref r0), (1, .int x1)] [] := by
  unfold fX5_takes_50 at h
  refine r_aload_n C dX5_takes_50 0 rfl rfl ?_
  refine r_iload_n C dX5_takes_51 1 rfl rfl ?_
  obtain ⟨u9, hu9, h⟩ := ob_bind h
  refine r_callVI (q0 := 0) (As := [.int x1]) (rest := []) (ws1 := (wRP cyI cyZ cyW r0 p0 p1 p2 p3 p4 u9.2.1 u9.2.2.1 u9.2.2.2.1 ron tubs pegs pwi u9.2.2.2.2.1 u9.2.2.2.2.2.1 u9.2.2.2.2.2.2.1 u9.2.2.2.2.2.2.2.1 u9.2.2.2.2.2.2.2.2)) C (kX5_takesOfFlag (r0 := r0) (p0 := p0) (p1 := p1) (p2 := p2) (p3 := p3) (p4 := p4) (stage := stage) (rco := rco) (rcl := rcl) (ron := ron) (tubs := tubs) (pegs := pegs) (pwi := pwi) (flags := flags) (pco := pco) (pcl := pcl) (phr := phr) (pho := pho) (x1 := x1) hu9) gX5_takes_X5_takesOfFlag rfl rfl rfl ⟨rfl, hd_X5_takesOfFlag⟩ ⟨by decide, by decide⟩ rfl rfl rfl rfl [0, 1, 2, 3, 4, 5] (by decide) in_47 se_47 (adrRP.trans adrRP.symm) rfl (Nat.le_of_ble_eq_true rfl) dX5_takes_52 ⟨Nat.zero_le _, Nat.zero_le _⟩ ?_
  have h9 := Option.some.inj h
  subst h9
  exact r_zret (b := u9.1) C rfl dX5_takes_55
set_option maxHeartbeats 4000000 in
set_option maxRecDepth 100000 in
theorem LX5_takes_56 {p : Program} {l : Launch} {e : Env} {s : State} {m : MethodId} {args : Array Value} {below : List Frame} {meth : Method} {c : Code} {D : va_G} {cyI cyZ cyW : ClassId} {zW zO : Nat} {A : Nat → Prop} (C : Cx p s m args meth c cX5_takes RX5 "takes" wsX5_takes (some .boolean) 2 D (tyA cyI cyZ cyW) zW zO A) {r0 : Nat} {p0 : Nat} {p1 : Nat} {p2 : Nat} {p3 : Nat} {p4 : Nat} {stage : Int32} {rco : Int32} {rcl : Int32} {ron : Int32} {tubs : Int32} {pegs : Int32} {pwi : Int32} {flags : Int32} {pco : (Nat → Int32)} {pcl : (Nat → Int32)} {phr : (Nat → Int32)} {pho : (Nat → Int32)} {x1 : Int32}  {res : Bool × Int32 × Int32 × Int32 × Int32 × Int32 × Int32 × Int32 × Int32 × (Nat → Int32) × (Nat → Int32) × (Nat → Int32) × (Nat → Int32)}  (h : fX5_takes_56  x1 stage rco rcl ron tubs pegs pwi flags pco pcl phr pho = some res) : Mx p l e ({ frames := 4, cells := 0, slots := 0, locals := 84 } : Room) s m args below meth c (MQ below (QI D (tyA cyI cyZ cyW) A (wRP cyI cyZ cyW r0 p0 p1 p2 p3 p4 res.2.1 res.2.2.1 res.2.2.2.1 res.2.2.2.2.1 res.2.2.2.2.2.1 res.2.2.2.2.2.2.1 res.2.2.2.2.2.2.2.1 res.2.2.2.2.2.2.2.2.1 res.2.2.2.2.2.2.2.2.2.1 res.2.2.2.2.2.2.2.2.2.2.1 res.2.2.2.2.2.2.2.2.2.2.2.1 res.2.2.2.2.2.2.2.2.2.2.2.2) (b2i res.1)) args s 0 0 A) 2 D A 0 0 (wRP cyI cyZ cyW r0 p0 p1 p2 p3 p4 stage rco rcl ron tubs pegs pwi flags pco pcl phr pho) 56 [(0, .ref r0), (1, .int x1)] [] := by
  unfold fX5_takes_56 at h
  refine r_aload_n C dX5_takes_56 0 rfl rfl ?_
  refine r_iload_n C dX5_takes_57 1 rfl rfl ?_
  refine r_bipush (v := 48) C dX5_takes_58 bp_48 ?_
  refine r_isub C dX5_takes_60 ?_
  obtain ⟨u10, hu10, h⟩ := ob_bind h
  refine r_callVI (q0 := 0) (As := [.int (x1 - (48 : Int32))]) (rest := []) (ws1 := (wRP cyI cyZ cyW r0 p0 p1 p2 p3 p4 u10.2.1 rco rcl u10.2.2.1 tubs pegs pwi flags pco pcl phr u10.2.2.2)) C (kX5_takesOfHostile (r0 := r0) (p0 := p0) (p1 := p1) (p2 := p2) (p3 := p3) (p4 := p4) (stage := stage) (rco := rco) (rcl := rcl) (ron := ron) (tubs := tubs) (pegs := pegs) (pwi := pwi) (flags := flags) (pco := pco) (pcl := pcl) (phr := phr) (pho := pho) (x1 := (x1 - (48 : Int32))) hu10) gX5_takes_X5_takesOfHostile rfl rfl rfl ⟨rfl, hd_X5_takesOfHostile⟩ ⟨by decide, by decide⟩ rfl rfl rfl rfl [0, 1, 2, 3, 4, 5] (by decide) in_48 se_48 (adrRP.trans adrRP.symm) rfl (Nat.le_of_ble_eq_true rfl) dX5_takes_61 ⟨Nat.zero_le _, Nat.zero_le _⟩ ?_
  have h9 := Option.some.inj h
  subst h9
  exact r_zret (b := u10.1) C rfl dX5_takes_64
set_option maxHeartbeats 4000000 in
set_option maxRecDepth 100000 in
theorem kX5_takes {l : Launch} {D : va_G} {cyI cyZ cyW : ClassId} {zW zO : Nat} {r0 : Nat} {p0 : Nat} {p1 : Nat} {p2 : Nat} {p3 : Nat} {p4 : Nat} {stage : Int32} {rco : Int32} {rcl : Int32} {ron : Int32} {tubs : Int32} {pegs : Int32} {pwi : Int32} {flags : Int32} {pco : (Nat → Int32)} {pcl : (Nat → Int32)} {phr : (Nat → Int32)} {pho : (Nat → Int32)} {x1 : Int32} {res : Bool × Int32 × Int32 × Int32 × Int32 × Int32 × Int32 × Int32 × Int32 × (Nat → Int32) × (Nat → Int32) × (Nat → Int32) × (Nat → Int32)} (h : fX5_takes x1 stage rco rcl ron tubs pegs pwi flags pco pcl phr pho = some res) : KI l yX5_takes wsX5_takes ({ frames := 4, cells := 0, slots := 0, locals := 84 } : Room) D (tyA cyI cyZ cyW) zW zO [.ref r0, .int x1] (wRP cyI cyZ cyW r0 p0 p1 p2 p3 p4 stage rco rcl ron tubs pegs pwi flags pco pcl phr pho) (wRP cyI cyZ cyW r0 p0 p1 p2 p3 p4 res.2.1 res.2.2.1 res.2.2.2.1 res.2.2.2.2.1 res.2.2.2.2.2.1 res.2.2.2.2.2.2.1 res.2.2.2.2.2.2.2.1 res.2.2.2.2.2.2.2.2.1 res.2.2.2.2.2.2.2.2.2.1 res.2.2.2.2.2.2.2.2.2.2.1 res.2.2.2.2.2.2.2.2.2.2.2.1 res.2.2.2.2.2.2.2.2.2.2.2.2) (b2i res.1) := by
  refine enterI (cc := cX5_takes) (nL := 2) (ret := (some .boolean)) (by decide) rfl (Nat.le_of_ble_eq_true rfl) (fun p e s m below meth c A C => ?_)
  refine r_lv (lv' := [(0, .ref r0), (1, .int x1)]) [0, 1] rfl ?_
  unfold fX5_takes at h
  refine r_aload_n C dX5_takes_0 0 rfl rfl ?_
  refine r_get (ci := 3) (CC := RX5) (T := TX5) (N := 5) (v := .int stage) C hinX5_takes_X5 0 rfl rfl 1 (by decide) mX5_takes_1 rfl rfl dX5_takes_1 ?_
  by_cases c1 : stage = (4 : Int32)
  · replace h := ob_t h c1
    refine r_tsAt (tgt := 44) (off := 40) C (4 : Int32) c1 dX5_takes_4 (by decide) (by decide) (by decide) (by decide) ?_
    refine r_aload_n C dX5_takes_44 0 rfl rfl ?_
    refine r_iload_n C dX5_takes_45 1 rfl rfl ?_
    obtain ⟨u2, hu2, h⟩ := ob_bind h
    refine r_callVI (q0 := 0) (As := [.int x1]) (rest := []) (ws1 := (wRP cyI cyZ cyW r0 p0 p1 p2 p3 p4 u2.2 rco rcl ron tubs pegs pwi flags pco pcl phr pho)) C (kX5_takesPart (r0 := r0) (p0 := p0) (p1 := p1) (p2 := p2) (p3 := p3) (p4 := p4) (stage := stage) (rco := rco) (rcl := rcl) (ron := ron) (tubs := tubs) (pegs := pegs) (pwi := pwi) (flags := flags) (pco := pco) (pcl := pcl) (phr := phr) (pho := pho) (x1 := x1) hu2) gX5_takes_X5_takesPart rfl rfl rfl ⟨rfl, hd_X5_takesPart⟩ ⟨by decide, by decide⟩ rfl rfl rfl rfl [0, 1, 2, 3, 4, 5] (by decide) in_45 se_45 (adrRP.trans adrRP.symm) rfl (Nat.le_of_ble_eq_true rfl) dX5_takes_46 ⟨Nat.zero_le _, Nat.zero_le _⟩ ?_
    have h9 := Option.some.inj h
    subst h9
    exact r_zret (b := u2.1) C rfl dX5_takes_49
  replace h := ob_f h c1
  by_cases c3 : stage = (5 : Int32)
  · replace h := ob_t h c3
    refine r_tsAt (tgt := 50) (off := 46) C (5 : Int32) c3 dX5_takes_4 (by decide) (by decide) (by decide) (by decide) ?_
    refine r_lv (lv' := [(0, .ref r0), (1, .int x1)]) [0, 1] rfl ?_
    exact LX5_takes_50 C (x1 := x1) (stage := stage) (rco := rco) (rcl := rcl) (ron := ron) (tubs := tubs) (pegs := pegs) (pwi := pwi) (flags := flags) (pco := pco) (pcl := pcl) (phr := phr) (pho := pho)  h
  replace h := ob_f h c3
  by_cases c4 : stage = (6 : Int32)
  · replace h := ob_t h c4
    refine r_tsAt (tgt := 50) (off := 46) C (6 : Int32) c4 dX5_takes_4 (by decide) (by decide) (by decide) (by decide) ?_
    refine r_lv (lv' := [(0, .ref r0), (1, .int x1)]) [0, 1] rfl ?_
    exact LX5_takes_50 C (x1 := x1) (stage := stage) (rco := rco) (rcl := rcl) (ron := ron) (tubs := tubs) (pegs := pegs) (pwi := pwi) (flags := flags) (pco := pco) (pcl := pcl) (phr := phr) (pho := pho)  h
  replace h := ob_f h c4
  by_cases c5 : stage = (7 : Int32)
  · replace h := ob_t h c5
    refine r_tsAt (tgt := 50) (off := 46) C (7 : Int32) c5 dX5_takes_4 (by decide) (by decide) (by decide) (by decide) ?_
    refine r_lv (lv' := [(0, .ref r0), (1, .int x1)]) [0, 1] rfl ?_
    exact LX5_takes_50 C (x1 := x1) (stage := stage) (rco := rco) (rcl := rcl) (ron := ron) (tubs := tubs) (pegs := pegs) (pwi := pwi) (flags := flags) (pco := pco) (pcl := pcl) (phr := phr) (pho := pho)  h
  replace h := ob_f h c5
  by_cases c6 : stage = (8 : Int32)
  · replace h := ob_t h c6
    refine r_tsAt (tgt := 56) (off := 52) C (8 : Int32) c6 dX5_takes_4 (by decide) (by decide) (by decide) (by decide) ?_
    refine r_lv (lv' := [(0, .ref r0), (1, .int x1)]) [0, 1] rfl ?_
    exact LX5_takes_56 C (x1 := x1) (stage := stage) (rco := rco) (rcl := rcl) (ron := ron) (tubs := tubs) (pegs := pegs) (pwi := pwi) (flags := flags) (pco := pco) (pcl := pcl) (phr := phr) (pho := pho)  h
  replace h := ob_f h c6
  by_cases c7 : stage = (9 : Int32)
  · replace h := ob_t h c7
    refine r_tsAt (tgt := 56) (off := 52) C (9 : Int32) c7 dX5_takes_4 (by decide) (by decide) (by decide) (by decide) ?_
    refine r_lv (lv' := [(0, .ref r0), (1, .int x1)]) [0, 1] rfl ?_
    exact LX5_takes_56 C (x1 := x1) (stage := stage) (rco := rco) (rcl := rcl) (ron := ron) (tubs := tubs) (pegs := pegs) (pwi := pwi) (flags := flags) (pco := pco) (pcl := pcl) (phr := phr) (pho := pho)  h
  replace h := ob_f h c7
  refine r_tsOut (tgt := 65) C dX5_takes_4 (ts_out 4 9 (by decide) (fun k hk1 hk2 => by rcases (show k = 4 ∨ k = 5 ∨ k = 6 ∨ k = 7 ∨ k = 8 ∨ k = 9 by omega) with rfl | rfl | rfl | rfl | rfl | rfl <;> first | exact c1 | exact c3 | exact c4 | exact c5 | exact c6 | exact c7)) (by decide) ?_
  refine r_aload_n C dX5_takes_65 0 rfl rfl ?_
  refine r_iload_n C dX5_takes_66 1 rfl rfl ?_
  obtain ⟨u8, hu8, h⟩ := ob_bind h
  refine r_callVI (q0 := 0) (As := [.int x1]) (rest := []) (ws1 := (wRP cyI cyZ cyW r0 p0 p1 p2 p3 p4 u8.2.1 rco rcl ron u8.2.2.1 u8.2.2.2.1 u8.2.2.2.2 flags pco pcl phr pho)) C (kX5_takesOfHead (r0 := r0) (p0 := p0) (p1 := p1) (p2 := p2) (p3 := p3) (p4 := p4) (stage := stage) (rco := rco) (rcl := rcl) (ron := ron) (tubs := tubs) (pegs := pegs) (pwi := pwi) (flags := flags) (pco := pco) (pcl := pcl) (phr := phr) (pho := pho) (x1 := x1) hu8) gX5_takes_X5_takesOfHead rfl rfl rfl ⟨rfl, hd_X5_takesOfHead⟩ ⟨by decide, by decide⟩ rfl rfl rfl rfl [0, 1, 2, 3, 4, 5] (by decide) in_46 se_46 (adrRP.trans adrRP.symm) rfl (Nat.le_of_ble_eq_true rfl) dX5_takes_67 ⟨Nat.zero_le _, Nat.zero_le _⟩ ?_
  have h9 := Option.some.inj h
  subst h9
  exact r_zret (b := u8.1) C rfl dX5_takes_70

/-! ===== FlagWash$Reader.firstFault ===== -/
def fX5_firstFault_44  (x2 : Int32) (stage : Int32) (rco : Int32) (rcl : Int32) (ron : Int32) (tubs : Int32) (pegs : Int32) (pwi : Int32) (flags : Int32) (pco : (Nat → Int32)) (pcl : (Nat → Int32)) (phr : (Nat → Int32)) (pho : (Nat → Int32)) : Option (Int32 × Int32 × Int32 × Int32 × Int32 × Int32 × Int32 × Int32 × Int32 × (Nat → Int32) × (Nat → Int32) × (Nat → Int32) × (Nat → Int32)) :=
 (if stage = (4 : Int32) then (some ((-9 : Int32), stage, rco, rcl, ron, tubs, pegs, pwi, flags, pco, pcl, phr, pho))
 else (some (x2, stage, rco, rcl, ron, tubs, pegs, pwi, flags, pco, pcl, phr, pho)))
def gX5_firstFault_15 (rec15 : Int32 → Int32 → Int32 → Int32 → Int32 → Int32 → Int32 → Int32 → Int32 → (Nat → Int32) → (Nat → Int32) → (Nat → Int32) → (Nat → Int32) → Option (Int32 × Int32 × Int32 × Int32 × Int32 × Int32 × Int32 × Int32 × Int32 × (Nat → Int32) × (Nat → Int32) × (Nat → Int32) × (Nat → Int32))) (x2 : Int32) (x3 : Int32) (stage : Int32) (rco : Int32) (rcl : Int32) (ron : Int32) (tubs : Int32) (pegs : Int32) (pwi : Int32) (flags : Int32) (pco : (Nat → Int32)) (pcl : (Nat → Int32)) (phr : (Nat → Int32)) (pho : (Nat → Int32)) (letters : (Nat → Int32)) : Option (Int32 × Int32 × Int32 × Int32 × Int32 × Int32 × Int32 × Int32 × Int32 × (Nat → Int32) × (Nat → Int32) × (Nat → Int32) × (Nat → Int32)) :=
 (if x2 ≤ x3 then (fX5_firstFault_44  x2 stage rco rcl ron tubs pegs pwi flags pco pcl phr pho)
 else (if (48 : Int32) ≤ x3 then (fX5_firstFault_44  x2 stage rco rcl ron tubs pegs pwi flags pco pcl phr pho)
 else (if inb x3 48 = true then ((fX5_takes (letters x3.toNatClampNeg) stage rco rcl ron tubs pegs pwi flags pco pcl phr pho).bind fun u4 => (if u4.1 = true then (rec15 (x3 + (1 : Int32)) u4.2.1 u4.2.2.1 u4.2.2.2.1 u4.2.2.2.2.1 u4.2.2.2.2.2.1 u4.2.2.2.2.2.2.1 u4.2.2.2.2.2.2.2.1 u4.2.2.2.2.2.2.2.2.1 u4.2.2.2.2.2.2.2.2.2.1 u4.2.2.2.2.2.2.2.2.2.2.1 u4.2.2.2.2.2.2.2.2.2.2.2.1 u4.2.2.2.2.2.2.2.2.2.2.2.2)
 else (some (x3, u4.2.1, u4.2.2.1, u4.2.2.2.1, u4.2.2.2.2.1, u4.2.2.2.2.2.1, u4.2.2.2.2.2.2.1, u4.2.2.2.2.2.2.2.1, u4.2.2.2.2.2.2.2.2.1, u4.2.2.2.2.2.2.2.2.2.1, u4.2.2.2.2.2.2.2.2.2.2.1, u4.2.2.2.2.2.2.2.2.2.2.2.1, u4.2.2.2.2.2.2.2.2.2.2.2.2)))) else none)))
def fX5_firstFault_15  (x2 : Int32) (letters : (Nat → Int32)) : Nat → Int32 → Int32 → Int32 → Int32 → Int32 → Int32 → Int32 → Int32 → Int32 → (Nat → Int32) → (Nat → Int32) → (Nat → Int32) → (Nat → Int32) → Option (Int32 × Int32 × Int32 × Int32 × Int32 × Int32 × Int32 × Int32 × Int32 × (Nat → Int32) × (Nat → Int32) × (Nat → Int32) × (Nat → Int32))
  | 0 => fun _ _ _ _ _ _ _ _ _ _ _ _ _ => none
  | n + 1 => fun x3 stage rco rcl ron tubs pegs pwi flags pco pcl phr pho => gX5_firstFault_15 (fX5_firstFault_15  x2 letters n) x2 x3 stage rco rcl ron tubs pegs pwi flags pco pcl phr pho letters
def fX5_firstFault  (x2 : Int32) (rco : Int32) (rcl : Int32) (ron : Int32) (tubs : Int32) (pegs : Int32) (pwi : Int32) (pco : (Nat → Int32)) (pcl : (Nat → Int32)) (phr : (Nat → Int32)) (pho : (Nat → Int32)) (letters : (Nat → Int32)) : Option (Int32 × Int32 × Int32 × Int32 × Int32 × Int32 × Int32 × Int32 × Int32 × (Nat → Int32) × (Nat → Int32) × (Nat → Int32) × (Nat → Int32)) :=
 (fX5_firstFault_15  x2 letters FU (0 : Int32) (0 : Int32) rco rcl ron tubs pegs pwi (0 : Int32) pco pcl phr pho)
theorem hinX5_firstFault_X5 : ∀ w ∈ u_ws RX5 TX5 5, w ∈ wsX5_firstFault := fun w h => List.mem_cons_of_mem _ (List.mem_append_left _ (List.mem_append_right _ h))
theorem mX5_firstFault_1 : Cond.fieldLink RX5 12 "FlagWash$Reader" "plan" "LFlagWash$Plan;" ∈ wsX5_firstFault := List.mem_of_getElem? (i := 1) rfl
theorem hinX5_firstFault_X4 : ∀ w ∈ u_ws RX4 TX4 8, w ∈ wsX5_firstFault := fun w h => List.mem_cons_of_mem _ (List.mem_append_right _ h)
theorem mX5_firstFault_2 : Cond.fieldLink RX5 31 "FlagWash$Plan" "flags" "I" ∈ wsX5_firstFault := List.mem_of_getElem? (i := 2) rfl
theorem mX5_firstFault_3 : Cond.fieldLink RX5 18 "FlagWash$Reader" "stage" "I" ∈ wsX5_firstFault := List.mem_of_getElem? (i := 3) rfl
theorem hd_X5_firstFault : yX5_firstFault.cls ≠ "java/lang/invoke/MethodHandle" ∧ yX5_firstFault.cls ≠ "java/lang/invoke/VarHandle" ∧ (parseMethodDescriptor yX5_firstFault.desc).map (fun d => d.parameters.length) = some 2 := by decide +kernel
set_option maxHeartbeats 4000000 in
set_option maxRecDepth 100000 in
theorem LX5_firstFault_44 {p : Program} {l : Launch} {e : Env} {s : State} {m : MethodId} {args : Array Value} {below : List Frame} {meth : Method} {c : Code} {D : va_G} {cyI cyZ cyW : ClassId} {zW zO : Nat} {A : Nat → Prop} (C : Cx p s m args meth c cX5_firstFault RX5 "firstFault" wsX5_firstFault (some .int) 4 D (tyA cyI cyZ cyW) zW zO A) {r0 : Nat} {p0 : Nat} {p1 : Nat} {p2 : Nat} {p3 : Nat} {p4 : Nat} {l0 : Nat} {stage : Int32} {rco : Int32} {rcl : Int32} {ron : Int32} {tubs : Int32} {pegs : Int32} {pwi : Int32} {flags : Int32} {pco : (Nat → Int32)} {pcl : (Nat → Int32)} {phr : (Nat → Int32)} {pho : (Nat → Int32)} {letters : (Nat → Int32)} {x2 : Int32}  {res : Int32 × Int32 × Int32 × Int32 × Int32 × Int32 × Int32 × Int32 × Int32 × (Nat → Int32) × (Nat → Int32) × (Nat → Int32) × (Nat → Int32)}  (h : fX5_firstFault_44  x2 stage rco rcl ron tubs pegs pwi flags pco pcl phr pho = some res) : Mx p l e ({ frames := 5, cells := 0, slots := 0, locals := 105 } : Room) s m args below meth c (MQ below (QI D (tyA cyI cyZ cyW) A (wRPL cyI cyZ cyW r0 p0 p1 p2 p3 p4 l0 res.2.1 res.2.2.1 res.2.2.2.1 res.2.2.2.2.1 res.2.2.2.2.2.1 res.2.2.2.2.2.2.1 res.2.2.2.2.2.2.2.1 res.2.2.2.2.2.2.2.2.1 res.2.2.2.2.2.2.2.2.2.1 res.2.2.2.2.2.2.2.2.2.2.1 res.2.2.2.2.2.2.2.2.2.2.2.1 res.2.2.2.2.2.2.2.2.2.2.2.2 letters) res.1) args s 0 0 A) 4 D A 0 0 (wRPL cyI cyZ cyW r0 p0 p1 p2 p3 p4 l0 stage rco rcl ron tubs pegs pwi flags pco pcl phr pho letters) 44 [(0, .ref r0), (2, .int x2)] [] := by
  unfold fX5_firstFault_44 at h
  refine r_aload_n C dX5_firstFault_44 0 rfl rfl ?_
  refine r_get (ci := 3) (CC := RX5) (T := TX5) (N := 5) (v := .int stage) C hinX5_firstFault_X5 0 rfl rfl 1 (by decide) mX5_firstFault_3 rfl rfl dX5_firstFault_45 ?_
  refine r_iconst (v := 4) C dX5_firstFault_48 ic_4 ?_
  refine r_icmp_ne (tgt := 57) C dX5_firstFault_49 (by decide) (fun c6 => ?_) (fun c6 => ?_)
  · replace h := ob_f h c6
    refine r_iload_n C dX5_firstFault_57 1 rfl rfl ?_
    have h9 := Option.some.inj h
    subst h9
    exact r_iret C rfl dX5_firstFault_58
  · replace h := ob_t h c6
    refine r_bipush (v := -9) C dX5_firstFault_52 bp_m9 ?_
    refine r_goto (tgt := 58) C dX5_firstFault_54 (by decide) ?_
    have h9 := Option.some.inj h
    subst h9
    exact r_iret C rfl dX5_firstFault_58
set_option maxHeartbeats 4000000 in
set_option maxRecDepth 100000 in
theorem LGX5_firstFault_15 {p : Program} {l : Launch} {e : Env} {s : State} {m : MethodId} {args : Array Value} {below : List Frame} {meth : Method} {c : Code} {D : va_G} {cyI cyZ cyW : ClassId} {zW zO : Nat} {A : Nat → Prop} (C : Cx p s m args meth c cX5_firstFault RX5 "firstFault" wsX5_firstFault (some .int) 4 D (tyA cyI cyZ cyW) zW zO A) {r0 : Nat} {p0 : Nat} {p1 : Nat} {p2 : Nat} {p3 : Nat} {p4 : Nat} {l0 : Nat} {stage : Int32} {rco : Int32} {rcl : Int32} {ron : Int32} {tubs : Int32} {pegs : Int32} {pwi : Int32} {flags : Int32} {pco : (Nat → Int32)} {pcl : (Nat → Int32)} {phr : (Nat → Int32)} {pho : (Nat → Int32)} {letters : (Nat → Int32)} {x2 : Int32} {x3 : Int32} {rec15 : Int32 → Int32 → Int32 → Int32 → Int32 → Int32 → Int32 → Int32 → Int32 → (Nat → Int32) → (Nat → Int32) → (Nat → Int32) → (Nat → Int32) → Option (Int32 × Int32 × Int32 × Int32 × Int32 × Int32 × Int32 × Int32 × Int32 × (Nat → Int32) × (Nat → Int32) × (Nat → Int32) × (Nat → Int32))} {res : Int32 × Int32 × Int32 × Int32 × Int32 × Int32 × Int32 × Int32 × Int32 × (Nat → Int32) × (Nat → Int32) × (Nat → Int32) × (Nat → Int32)} (hrec15 : ∀ (x3 : Int32) (stage : Int32) (rco : Int32) (rcl : Int32) (ron : Int32) (tubs : Int32) (pegs : Int32) (pwi : Int32) (flags : Int32) (pco : (Nat → Int32)) (pcl : (Nat → Int32)) (phr : (Nat → Int32)) (pho : (Nat → Int32)), rec15 x3 stage rco rcl ron tubs pegs pwi flags pco pcl phr pho = some res → Mx p l e ({ frames := 5, cells := 0, slots := 0, locals := 105 } : Room) s m args below meth c (MQ below (QI D (tyA cyI cyZ cyW) A (wRPL cyI cyZ cyW r0 p0 p1 p2 p3 p4 l0 res.2.1 res.2.2.1 res.2.2.2.1 res.2.2.2.2.1 res.2.2.2.2.2.1 res.2.2.2.2.2.2.1 res.2.2.2.2.2.2.2.1 res.2.2.2.2.2.2.2.2.1 res.2.2.2.2.2.2.2.2.2.1 res.2.2.2.2.2.2.2.2.2.2.1 res.2.2.2.2.2.2.2.2.2.2.2.1 res.2.2.2.2.2.2.2.2.2.2.2.2 letters) res.1) args s 0 0 A) 4 D A 0 0 (wRPL cyI cyZ cyW r0 p0 p1 p2 p3 p4 l0 stage rco rcl ron tubs pegs pwi flags pco pcl phr pho letters) 15 [(0, .ref r0), (1, .ref l0), (2, .int x2), (3, .int x3)] []) (h : gX5_firstFault_15 rec15 x2 x3 stage rco rcl ron tubs pegs pwi flags pco pcl phr pho letters = some res) : Mx p l e ({ frames := 5, cells := 0, slots := 0, locals := 105 } : Room) s m args below meth c (MQ below (QI D (tyA cyI cyZ cyW) A (wRPL cyI cyZ cyW r0 p0 p1 p2 p3 p4 l0 res.2.1 res.2.2.1 res.2.2.2.1 res.2.2.2.2.1 res.2.2.2.2.2.1 res.2.2.2.2.2.2.1 res.2.2.2.2.2.2.2.1 res.2.2.2.2.2.2.2.2.1 res.2.2.2.2.2.2.2.2.2.1 res.2.2.2.2.2.2.2.2.2.2.1 res.2.2.2.2.2.2.2.2.2.2.2.1 res.2.2.2.2.2.2.2.2.2.2.2.2 letters) res.1) args s 0 0 A) 4 D A 0 0 (wRPL cyI cyZ cyW r0 p0 p1 p2 p3 p4 l0 stage rco rcl ron tubs pegs pwi flags pco pcl phr pho letters) 15 [(0, .ref r0), (1, .ref l0), (2, .int x2), (3, .int x3)] [] := by
  unfold gX5_firstFault_15 at h
  refine r_iload_n C dX5_firstFault_15 3 rfl rfl ?_
  refine r_iload_n C dX5_firstFault_16 2 rfl rfl ?_
  refine r_icmp_ge (tgt := 44) C dX5_firstFault_17 (by decide) (fun c1 => ?_) (fun c1 => ?_)
  · replace h := ob_t h c1
    refine r_lv (lv' := [(0, .ref r0), (2, .int x2)]) [0, 2] rfl ?_
    exact LX5_firstFault_44 C (x2 := x2) (stage := stage) (rco := rco) (rcl := rcl) (ron := ron) (tubs := tubs) (pegs := pegs) (pwi := pwi) (flags := flags) (pco := pco) (pcl := pcl) (phr := phr) (pho := pho) (letters := letters)  h
  · replace h := ob_f h c1
    refine r_iload_n C dX5_firstFault_20 3 rfl rfl ?_
    refine r_aload_n C dX5_firstFault_21 1 rfl rfl ?_
    refine r_alen (v := 48) C 6 0 rfl rfl rfl dX5_firstFault_22 ?_
    refine r_icmp_ge (tgt := 44) C dX5_firstFault_23 (by decide) (fun c2 => ?_) (fun c2 => ?_)
    · replace h := ob_t h c2
      refine r_lv (lv' := [(0, .ref r0), (2, .int x2)]) [0, 2] rfl ?_
      exact LX5_firstFault_44 C (x2 := x2) (stage := stage) (rco := rco) (rcl := rcl) (ron := ron) (tubs := tubs) (pegs := pegs) (pwi := pwi) (flags := flags) (pco := pco) (pcl := pcl) (phr := phr) (pho := pho) (letters := letters)  h
    · replace h := ob_f h c2
      refine r_aload_n C dX5_firstFault_26 0 rfl rfl ?_
      refine r_aload_n C dX5_firstFault_27 1 rfl rfl ?_
      refine r_iload_n C dX5_firstFault_28 3 rfl rfl ?_
      obtain ⟨hu3, h⟩ := ob_if h
      refine r_iald C 6 0 rfl rfl (inb_vp hu3) dX5_firstFault_29 ?_
      obtain ⟨u4, hu4, h⟩ := ob_bind h
      refine r_callVI (q0 := 0) (As := [.int (letters x3.toNatClampNeg)]) (rest := []) (ws1 := (wRPL cyI cyZ cyW r0 p0 p1 p2 p3 p4 l0 u4.2.1 u4.2.2.1 u4.2.2.2.1 u4.2.2.2.2.1 u4.2.2.2.2.2.1 u4.2.2.2.2.2.2.1 u4.2.2.2.2.2.2.2.1 u4.2.2.2.2.2.2.2.2.1 u4.2.2.2.2.2.2.2.2.2.1 u4.2.2.2.2.2.2.2.2.2.2.1 u4.2.2.2.2.2.2.2.2.2.2.2.1 u4.2.2.2.2.2.2.2.2.2.2.2.2 letters)) C (kX5_takes (r0 := r0) (p0 := p0) (p1 := p1) (p2 := p2) (p3 := p3) (p4 := p4) (stage := stage) (rco := rco) (rcl := rcl) (ron := ron) (tubs := tubs) (pegs := pegs) (pwi := pwi) (flags := flags) (pco := pco) (pcl := pcl) (phr := phr) (pho := pho) (x1 := (letters x3.toNatClampNeg)) hu4) gX5_firstFault_X5_takes rfl rfl rfl ⟨rfl, hd_X5_takes⟩ ⟨by decide, by decide⟩ rfl rfl rfl rfl [0, 1, 2, 3, 4, 5] (by decide) in_49 se_49 (adrRPL.trans adrRPL.symm) rfl (Nat.le_of_ble_eq_true rfl) dX5_firstFault_30 ⟨Nat.zero_le _, Nat.zero_le _⟩ ?_
      refine r_ifb_ne (tgt := 38) C dX5_firstFault_33 (by decide) (fun c5 => ?_) (fun c5 => ?_)
      · replace h := ob_t h c5
        refine r_iinc (v := 1) (lv' := [(3, .int (x3 + (1 : Int32))), (0, .ref r0), (1, .ref l0), (2, .int x2)]) C dX5_firstFault_38 3 rfl ic_1 (by decide) rfl ?_
        refine r_goto (tgt := 15) C dX5_firstFault_41 (by decide) ?_
        refine r_lv (lv' := [(0, .ref r0), (1, .ref l0), (2, .int x2), (3, .int (x3 + (1 : Int32)))]) [1, 2, 3, 0] rfl ?_
        exact hrec15 (x3 + (1 : Int32)) u4.2.1 u4.2.2.1 u4.2.2.2.1 u4.2.2.2.2.1 u4.2.2.2.2.2.1 u4.2.2.2.2.2.2.1 u4.2.2.2.2.2.2.2.1 u4.2.2.2.2.2.2.2.2.1 u4.2.2.2.2.2.2.2.2.2.1 u4.2.2.2.2.2.2.2.2.2.2.1 u4.2.2.2.2.2.2.2.2.2.2.2.1 u4.2.2.2.2.2.2.2.2.2.2.2.2 h
      · replace h := ob_bf h c5
        refine r_iload_n C dX5_firstFault_36 3 rfl rfl ?_
        have h9 := Option.some.inj h
        subst h9
        exact r_iret C rfl dX5_firstFault_37
set_option maxHeartbeats 4000000 in
set_option maxRecDepth 100000 in
theorem LX5_firstFault_15 {p : Program} {l : Launch} {e : Env} {s : State} {m : MethodId} {args : Array Value} {below : List Frame} {meth : Method} {c : Code} {D : va_G} {cyI cyZ cyW : ClassId} {zW zO : Nat} {A : Nat → Prop} (C : Cx p s m args meth c cX5_firstFault RX5 "firstFault" wsX5_firstFault (some .int) 4 D (tyA cyI cyZ cyW) zW zO A) {r0 : Nat} {p0 : Nat} {p1 : Nat} {p2 : Nat} {p3 : Nat} {p4 : Nat} {l0 : Nat} {x2 : Int32} {letters : (Nat → Int32)}  {res : Int32 × Int32 × Int32 × Int32 × Int32 × Int32 × Int32 × Int32 × Int32 × (Nat → Int32) × (Nat → Int32) × (Nat → Int32) × (Nat → Int32)}  : ∀ (n : Nat) (x3 : Int32) (stage : Int32) (rco : Int32) (rcl : Int32) (ron : Int32) (tubs : Int32) (pegs : Int32) (pwi : Int32) (flags : Int32) (pco : (Nat → Int32)) (pcl : (Nat → Int32)) (phr : (Nat → Int32)) (pho : (Nat → Int32)), fX5_firstFault_15  x2 letters n x3 stage rco rcl ron tubs pegs pwi flags pco pcl phr pho = some res → Mx p l e ({ frames := 5, cells := 0, slots := 0, locals := 105 } : Room) s m args below meth c (MQ below (QI D (tyA cyI cyZ cyW) A (wRPL cyI cyZ cyW r0 p0 p1 p2 p3 p4 l0 res.2.1 res.2.2.1 res.2.2.2.1 res.2.2.2.2.1 res.2.2.2.2.2.1 res.2.2.2.2.2.2.1 res.2.2.2.2.2.2.2.1 res.2.2.2.2.2.2.2.2.1 res.2.2.2.2.2.2.2.2.2.1 res.2.2.2.2.2.2.2.2.2.2.1 res.2.2.2.2.2.2.2.2.2.2.2.1 res.2.2.2.2.2.2.2.2.2.2.2.2 letters) res.1) args s 0 0 A) 4 D A 0 0 (wRPL cyI cyZ cyW r0 p0 p1 p2 p3 p4 l0 stage rco rcl ron tubs pegs pwi flags pco pcl phr pho letters) 15 [(0, .ref r0), (1, .ref l0), (2, .int x2), (3, .int x3)] [] := by
  intro n
  induction n with
  | zero => intro x3 stage rco rcl ron tubs pegs pwi flags pco pcl phr pho h; cases h
  | succ n ih => intro x3 stage rco rcl ron tubs pegs pwi flags pco pcl phr pho h; exact LGX5_firstFault_15 C ih h
set_option maxHeartbeats 4000000 in
set_option maxRecDepth 100000 in
theorem kX5_firstFault {l : Launch} {D : va_G} {cyI cyZ cyW : ClassId} {zW zO : Nat} {r0 : Nat} {p0 : Nat} {p1 : Nat} {p2 : Nat} {p3 : Nat} {p4 : Nat} {l0 : Nat} {stage : Int32} {rco : Int32} {rcl : Int32} {ron : Int32} {tubs : Int32} {pegs : Int32} {pwi : Int32} {flags : Int32} {pco : (Nat → Int32)} {pcl : (Nat → Int32)} {phr : (Nat → Int32)} {pho : (Nat → Int32)} {letters : (Nat → Int32)} {x2 : Int32} {res : Int32 × Int32 × Int32 × Int32 × Int32 × Int32 × Int32 × Int32 × Int32 × (Nat → Int32) × (Nat → Int32) × (Nat → Int32) × (Nat → Int32)} (h : fX5_firstFault x2 rco rcl ron tubs pegs pwi pco pcl phr pho letters = some res) : KI l yX5_firstFault wsX5_firstFault ({ frames := 5, cells := 0, slots := 0, locals := 105 } : Room) D (tyA cyI cyZ cyW) zW zO [.ref r0, .ref l0, .int x2] (wRPL cyI cyZ cyW r0 p0 p1 p2 p3 p4 l0 stage rco rcl ron tubs pegs pwi flags pco pcl phr pho letters) (wRPL cyI cyZ cyW r0 p0 p1 p2 p3 p4 l0 res.2.1 res.2.2.1 res.2.2.2.1 res.2.2.2.2.1 res.2.2.2.2.2.1 res.2.2.2.2.2.2.1 res.2.2.2.2.2.2.2.1 res.2.2.2.2.2.2.2.2.1 res.2.2.2.2.2.2.2.2.2.1 res.2.2.2.2.2.2.2.2.2.2.1 res.2.2.2.2.2.2.2.2.2.2.2.1 res.2.2.2.2.2.2.2.2.2.2.2.2 letters) res.1 := by
  refine enterI (cc := cX5_firstFault) (nL := 4) (ret := (some .int)) (by decide) rfl (Nat.le_of_ble_eq_true rfl) (fun p e s m below meth c A C => ?_)
  refine r_lv (lv' := [(0, .ref r0), (1, .ref l0), (2, .int x2)]) [0, 1, 2] rfl ?_
  unfold fX5_firstFault at h
  refine r_aload_n C dX5_firstFault_0 0 rfl rfl ?_
  refine r_get (ci := 3) (CC := RX5) (T := TX5) (N := 5) (v := .ref p0) C hinX5_firstFault_X5 0 rfl rfl 0 (by decide) mX5_firstFault_1 rfl rfl dX5_firstFault_1 ?_
  refine r_iconst (v := 0) C dX5_firstFault_4 ic_0 ?_
  refine r_put (ci := 2) (CC := RX4) (T := TX4) (N := 8) (v := .int (0 : Int32)) (ws1 := (wRPL cyI cyZ cyW r0 p0 p1 p2 p3 p4 l0 stage rco rcl ron tubs pegs pwi (0 : Int32) pco pcl phr pho letters)) (ty := .int) C hinX5_firstFault_X4 tyX4 tyX4_ok nmX4 1 rfl rfl 3 (by decide) mX5_firstFault_2 rfl rfl rfl rfl rfl (Nat.le_of_ble_eq_true rfl) rfl dX5_firstFault_5 ?_
  refine r_aload_n C dX5_firstFault_8 0 rfl rfl ?_
  refine r_iconst (v := 0) C dX5_firstFault_9 ic_0 ?_
  refine r_put (ci := 3) (CC := RX5) (T := TX5) (N := 5) (v := .int (0 : Int32)) (ws1 := (wRPL cyI cyZ cyW r0 p0 p1 p2 p3 p4 l0 (0 : Int32) rco rcl ron tubs pegs pwi (0 : Int32) pco pcl phr pho letters)) (ty := .int) C hinX5_firstFault_X5 tyX5 tyX5_ok nmX5 0 rfl rfl 1 (by decide) mX5_firstFault_3 rfl rfl rfl rfl rfl (Nat.le_of_ble_eq_true rfl) rfl dX5_firstFault_10 ?_
  refine r_iconst (v := 0) C dX5_firstFault_13 ic_0 ?_
  refine r_istore_n (lv' := [(3, .int (0 : Int32)), (0, .ref r0), (1, .ref l0), (2, .int x2)]) C dX5_firstFault_14 rfl (by decide) rfl ?_
  refine r_lv (lv' := [(0, .ref r0), (1, .ref l0), (2, .int x2), (3, .int (0 : Int32))]) [1, 2, 3, 0] rfl ?_
  exact LX5_firstFault_15 C (x2 := x2) (letters := letters)  FU (0 : Int32) (0 : Int32) rco rcl ron tubs pegs pwi (0 : Int32) pco pcl phr pho h
