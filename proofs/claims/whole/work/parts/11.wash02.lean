/-! ===== FlagWash$Wash.passHour ===== -/
def fX8_passHour  (wh : (Nat → Int32)) (lf : (Nat → Int32)) (co : (Nat → Int32)) (wi : Int32) (ho : Int32) (pegs : Int32) (flags : Int32) (pcl : (Nat → Int32)) : Option (Int32 × (Nat → Int32) × (Nat → Int32) × (Nat → Int32) × Int32) :=
 ((fX8_dryOnLine wh lf wi flags).bind fun u1 => ((fX8_runInTubs u1.2.1 co flags pcl).bind fun u2 => ((fX8_washInTubs u1.2.1 u1.2.2 flags).bind fun u3 => ((fX8_hangUp u1.2.1 u3 pegs flags pcl).bind fun u4 => (some (u1.1, u4.1, u4.2, u2, (ho + (1 : Int32))))))))
theorem hinX8_passHour_X8 : ∀ w ∈ u_ws RX8 TX8 6, w ∈ wsX8_passHour := fun w h => List.mem_cons_of_mem _ (List.mem_append_left _ (List.mem_append_right _ h))
theorem mX8_passHour_1 : Cond.fieldLink RX8 25 "FlagWash$Wash" "hour" "I" ∈ wsX8_passHour := List.mem_of_getElem? (i := 1) rfl
theorem hd_X8_passHour : yX8_passHour.cls ≠ "java/lang/invoke/MethodHandle" ∧ yX8_passHour.cls ≠ "java/lang/invoke/VarHandle" ∧ (parseMethodDescriptor yX8_passHour.desc).map (fun d => d.parameters.length) = some 0 := by decide +kernel
set_option maxHeartbeats 4000000 in
set_option maxRecDepth 100000 in
theorem kX8_passHour {l : Launch} {D : va_G} {cyI cyZ cyW : ClassId} {zW zO : Nat} {w0 : Nat} {w1 : Nat} {w2 : Nat} {w3 : Nat} {p0 : Nat} {p1 : Nat} {p2 : Nat} {p3 : Nat} {p4 : Nat} {wh : (Nat → Int32)} {lf : (Nat → Int32)} {co : (Nat → Int32)} {wi : Int32} {ho : Int32} {tubs : Int32} {pegs : Int32} {pwi : Int32} {flags : Int32} {pco : (Nat → Int32)} {pcl : (Nat → Int32)} {phr : (Nat → Int32)} {pho : (Nat → Int32)}  {res : Int32 × (Nat → Int32) × (Nat → Int32) × (Nat → Int32) × Int32} (h : fX8_passHour wh lf co wi ho pegs flags pcl = some res) : KI l yX8_passHour wsX8_passHour ({ frames := 3, cells := 0, slots := 0, locals := 64 } : Room) D (tyA cyI cyZ cyW) zW zO [.ref w0] (wWP cyI cyZ cyW w0 w1 w2 w3 p0 p1 p2 p3 p4 wh lf co wi ho tubs pegs pwi flags pco pcl phr pho) (wWP cyI cyZ cyW w0 w1 w2 w3 p0 p1 p2 p3 p4 res.2.1 res.2.2.1 res.2.2.2.1 wi res.2.2.2.2 tubs pegs pwi flags pco pcl phr pho) res.1 := by
  refine enterI (cc := cX8_passHour) (nL := 2) (ret := (some .int)) (by decide) rfl (Nat.le_of_ble_eq_true rfl) (fun p e s m below meth c A C => ?_)
  refine r_lv (lv' := [(0, .ref w0)]) [0] rfl ?_
  unfold fX8_passHour at h
  refine r_aload_n C dX8_passHour_0 0 rfl rfl ?_
  obtain ⟨u1, hu1, h⟩ := ob_bind h
  refine r_callVI (q0 := 0) (As := []) (rest := []) (ws1 := (wWP cyI cyZ cyW w0 w1 w2 w3 p0 p1 p2 p3 p4 u1.2.1 u1.2.2 co wi ho tubs pegs pwi flags pco pcl phr pho)) C (kX8_dryOnLine (w0 := w0) (w1 := w1) (w2 := w2) (w3 := w3) (p0 := p0) (p1 := p1) (p2 := p2) (p3 := p3) (p4 := p4) (wh := wh) (lf := lf) (co := co) (wi := wi) (ho := ho) (tubs := tubs) (pegs := pegs) (pwi := pwi) (flags := flags) (pco := pco) (pcl := pcl) (phr := phr) (pho := pho)  hu1) gX8_passHour_X8_dryOnLine rfl rfl rfl ⟨rfl, hd_X8_dryOnLine⟩ ⟨by decide, by decide⟩ rfl rfl rfl rfl [0, 1, 2, 3, 4, 5, 6, 7, 8] (by decide) in_30 se_30 (adrWP.trans adrWP.symm) rfl (Nat.le_of_ble_eq_true rfl) dX8_passHour_1 ⟨Nat.zero_le _, Nat.zero_le _⟩ ?_
  refine r_istore_n (lv' := [(1, .int u1.1), (0, .ref w0)]) C dX8_passHour_4 rfl (by decide) rfl ?_
  refine r_aload_n C dX8_passHour_5 1 rfl rfl ?_
  obtain ⟨u2, hu2, h⟩ := ob_bind h
  refine r_callVV (q0 := 0) (As := []) (rest := []) (ws1 := (wWP cyI cyZ cyW w0 w1 w2 w3 p0 p1 p2 p3 p4 u1.2.1 u1.2.2 u2 wi ho tubs pegs pwi flags pco pcl phr pho)) C (kX8_runInTubs (w0 := w0) (w1 := w1) (w2 := w2) (w3 := w3) (p0 := p0) (p1 := p1) (p2 := p2) (p3 := p3) (p4 := p4) (wh := u1.2.1) (lf := u1.2.2) (co := co) (wi := wi) (ho := ho) (tubs := tubs) (pegs := pegs) (pwi := pwi) (flags := flags) (pco := pco) (pcl := pcl) (phr := phr) (pho := pho)  hu2) gX8_passHour_X8_runInTubs rfl rfl rfl ⟨rfl, hd_X8_runInTubs⟩ ⟨by decide, by decide⟩ rfl rfl rfl rfl [0, 1, 2, 3, 4, 5, 6, 7, 8] (by decide) in_31 se_31 (adrWP.trans adrWP.symm) rfl (Nat.le_of_ble_eq_true rfl) dX8_passHour_6 ⟨Nat.zero_le _, Nat.zero_le _⟩ ?_
  refine r_aload_n C dX8_passHour_9 1 rfl rfl ?_
  obtain ⟨u3, hu3, h⟩ := ob_bind h
  refine r_callVV (q0 := 0) (As := []) (rest := []) (ws1 := (wWP cyI cyZ cyW w0 w1 w2 w3 p0 p1 p2 p3 p4 u1.2.1 u3 u2 wi ho tubs pegs pwi flags pco pcl phr pho)) C (kX8_washInTubs (w0 := w0) (w1 := w1) (w2 := w2) (w3 := w3) (p0 := p0) (p1 := p1) (p2 := p2) (p3 := p3) (p4 := p4) (wh := u1.2.1) (lf := u1.2.2) (co := u2) (wi := wi) (ho := ho) (tubs := tubs) (pegs := pegs) (pwi := pwi) (flags := flags) (pco := pco) (pcl := pcl) (phr := phr) (pho := pho)  hu3) gX8_passHour_X8_washInTubs rfl rfl rfl ⟨rfl, hd_X8_washInTubs⟩ ⟨by decide, by decide⟩ rfl rfl rfl rfl [0, 1, 2, 3, 4, 5, 6, 7, 8] (by decide) in_32 se_32 (adrWP.trans adrWP.symm) rfl (Nat.le_of_ble_eq_true rfl) dX8_passHour_10 ⟨Nat.zero_le _, Nat.zero_le _⟩ ?_
  refine r_aload_n C dX8_passHour_13 1 rfl rfl ?_
  obtain ⟨u4, hu4, h⟩ := ob_bind h
  refine r_callVV (q0 := 0) (As := []) (rest := []) (ws1 := (wWP cyI cyZ cyW w0 w1 w2 w3 p0 p1 p2 p3 p4 u4.1 u4.2 u2 wi ho tubs pegs pwi flags pco pcl phr pho)) C (kX8_hangUp (w0 := w0) (w1 := w1) (w2 := w2) (w3 := w3) (p0 := p0) (p1 := p1) (p2 := p2) (p3 := p3) (p4 := p4) (wh := u1.2.1) (lf := u3) (co := u2) (wi := wi) (ho := ho) (tubs := tubs) (pegs := pegs) (pwi := pwi) (flags := flags) (pco := pco) (pcl := pcl) (phr := phr) (pho := pho)  hu4) gX8_passHour_X8_hangUp rfl rfl rfl ⟨rfl, hd_X8_hangUp⟩ ⟨by decide, by decide⟩ rfl rfl rfl rfl [0, 1, 2, 3, 4, 5, 6, 7, 8] (by decide) in_30 se_30 (adrWP.trans adrWP.symm) rfl (Nat.le_of_ble_eq_true rfl) dX8_passHour_14 ⟨Nat.zero_le _, Nat.zero_le _⟩ ?_
  refine r_aload_n C dX8_passHour_17 1 rfl rfl ?_
  refine r_dup C dX8_passHour_18 rfl ?_
  refine r_get (ci := 5) (CC := RX8) (T := TX8) (N := 6) (v := .int ho) C hinX8_passHour_X8 0 rfl rfl 5 (by decide) mX8_passHour_1 rfl rfl dX8_passHour_19 ?_
  refine r_iconst (v := 1) C dX8_passHour_22 ic_1 ?_
  refine r_iadd C dX8_passHour_23 ?_
  refine r_put (ci := 5) (CC := RX8) (T := TX8) (N := 6) (v := .int (ho + (1 : Int32))) (ws1 := (wWP cyI cyZ cyW w0 w1 w2 w3 p0 p1 p2 p3 p4 u4.1 u4.2 u2 wi (ho + (1 : Int32)) tubs pegs pwi flags pco pcl phr pho)) (ty := .int) C hinX8_passHour_X8 tyX8 tyX8_ok nmX8 0 rfl rfl 5 (by decide) mX8_passHour_1 rfl rfl rfl rfl rfl (Nat.le_of_ble_eq_true rfl) rfl dX8_passHour_24 ?_
  refine r_iload_n C dX8_passHour_27 0 rfl rfl ?_
  have h9 := Option.some.inj h
  subst h9
  exact r_iret C rfl dX8_passHour_28

/-! ===== FlagWash$Wash.freeTubs ===== -/
def fX8_freeTubs  (wh : (Nat → Int32)) (tubs : Int32) (flags : Int32) : Option (Int32) :=
 ((fX8_bitsAt (1 : Int32) wh flags).bind fun u1 => ((fJ6_bitCount_0f7a4 u1).bind fun u2 => (some (tubs - u2))))
theorem hinX8_freeTubs_X8 : ∀ w ∈ u_ws RX8 TX8 6, w ∈ wsX8_freeTubs := fun w h => List.mem_cons_of_mem _ (List.mem_append_left _ (List.mem_append_right _ h))
theorem mX8_freeTubs_1 : Cond.fieldLink RX8 28 "FlagWash$Wash" "plan" "LFlagWash$Plan;" ∈ wsX8_freeTubs := List.mem_of_getElem? (i := 1) rfl
theorem hinX8_freeTubs_X4 : ∀ w ∈ u_ws RX4 TX4 8, w ∈ wsX8_freeTubs := fun w h => List.mem_cons_of_mem _ (List.mem_append_right _ h)
theorem mX8_freeTubs_2 : Cond.fieldLink RX8 49 "FlagWash$Plan" "tubs" "I" ∈ wsX8_freeTubs := List.mem_of_getElem? (i := 2) rfl
theorem hd_X8_freeTubs : yX8_freeTubs.cls ≠ "java/lang/invoke/MethodHandle" ∧ yX8_freeTubs.cls ≠ "java/lang/invoke/VarHandle" ∧ (parseMethodDescriptor yX8_freeTubs.desc).map (fun d => d.parameters.length) = some 0 := by decide +kernel
set_option maxHeartbeats 4000000 in
set_option maxRecDepth 100000 in
theorem kX8_freeTubs {l : Launch} {D : va_G} {cyI cyZ cyW : ClassId} {zW zO : Nat} {w0 : Nat} {w1 : Nat} {w2 : Nat} {w3 : Nat} {p0 : Nat} {p1 : Nat} {p2 : Nat} {p3 : Nat} {p4 : Nat} {wh : (Nat → Int32)} {lf : (Nat → Int32)} {co : (Nat → Int32)} {wi : Int32} {ho : Int32} {tubs : Int32} {pegs : Int32} {pwi : Int32} {flags : Int32} {pco : (Nat → Int32)} {pcl : (Nat → Int32)} {phr : (Nat → Int32)} {pho : (Nat → Int32)}  {res : Int32} (h : fX8_freeTubs wh tubs flags = some res) : KI l yX8_freeTubs wsX8_freeTubs ({ frames := 1, cells := 0, slots := 0, locals := 23 } : Room) D (tyA cyI cyZ cyW) zW zO [.ref w0] (wWP cyI cyZ cyW w0 w1 w2 w3 p0 p1 p2 p3 p4 wh lf co wi ho tubs pegs pwi flags pco pcl phr pho) (wWP cyI cyZ cyW w0 w1 w2 w3 p0 p1 p2 p3 p4 wh lf co wi ho tubs pegs pwi flags pco pcl phr pho) res := by
  refine enterI (cc := cX8_freeTubs) (nL := 1) (ret := (some .int)) (by decide) rfl (Nat.le_of_ble_eq_true rfl) (fun p e s m below meth c A C => ?_)
  refine r_lv (lv' := [(0, .ref w0)]) [0] rfl ?_
  unfold fX8_freeTubs at h
  refine r_aload_n C dX8_freeTubs_0 0 rfl rfl ?_
  refine r_get (ci := 5) (CC := RX8) (T := TX8) (N := 6) (v := .ref p0) C hinX8_freeTubs_X8 0 rfl rfl 0 (by decide) mX8_freeTubs_1 rfl rfl dX8_freeTubs_1 ?_
  refine r_get (ci := 2) (CC := RX4) (T := TX4) (N := 8) (v := .int tubs) C hinX8_freeTubs_X4 4 rfl rfl 0 (by decide) mX8_freeTubs_2 rfl rfl dX8_freeTubs_4 ?_
  refine r_aload_n C dX8_freeTubs_7 0 rfl rfl ?_
  refine r_iconst (v := 1) C dX8_freeTubs_8 ic_1 ?_
  obtain ⟨u1, hu1, h⟩ := ob_bind h
  refine r_readVI (q0 := 0) (As := [.int (1 : Int32)]) (rest := [.int tubs]) C (kX8_bitsAt (w0 := w0) (w1 := w1) (w2 := w2) (w3 := w3) (p0 := p0) (p1 := p1) (p2 := p2) (p3 := p3) (p4 := p4) (wh := wh) (lf := lf) (co := co) (wi := wi) (ho := ho) (tubs := tubs) (pegs := pegs) (pwi := pwi) (flags := flags) (pco := pco) (pcl := pcl) (phr := phr) (pho := pho) (x1 := (1 : Int32)) hu1) gX8_freeTubs_X8_bitsAt rfl rfl rfl ⟨rfl, hd_X8_bitsAt⟩ ⟨by decide, by decide⟩ rfl rfl rfl rfl [0, 1, 2, 3, 4, 5, 6, 7, 8] (by decide) in_29 rfl (Nat.le_of_ble_eq_true rfl) dX8_freeTubs_9 ⟨Nat.zero_le _, Nat.zero_le _⟩ ?_
  obtain ⟨u2, hu2, h⟩ := ob_bind h
  refine r_readSI (As := [.int u1]) (rest := [.int tubs]) C (kJ6_bitCount_0f7a4   (x0 := u1) hu2) gX8_freeTubs_J6_bitCount_0f7a4 rfl rfl rfl hd_J6_bitCount_0f7a4 ⟨by decide, by decide⟩ rfl [] (by decide) rfl rfl (Nat.le_of_ble_eq_true rfl) dX8_freeTubs_12 ⟨Nat.zero_le _, Nat.zero_le _⟩ ?_
  refine r_isub C dX8_freeTubs_15 ?_
  have h9 := Option.some.inj h
  subst h9
  exact r_iret C rfl dX8_freeTubs_16

/-! ===== FlagWash$Wash.coloursOf ===== -/
def fX8_coloursOf_32 (rec4 : Int32 → Int32 → Option (Int32)) (x1 : Int32) (x2 : Int32) (x3 : Int32) (co : (Nat → Int32)) (flags : Int32) : Option (Int32) :=
 (rec4 x2 (x3 + (1 : Int32)))
def gX8_coloursOf_4 (rec4 : Int32 → Int32 → Option (Int32)) (x1 : Int32) (x2 : Int32) (x3 : Int32) (co : (Nat → Int32)) (flags : Int32) : Option (Int32) :=
 (if flags ≤ x3 then (some x2)
 else (if ((x1 >>> (x3 &&& 31)) &&& (1 : Int32)) = 0 then (fX8_coloursOf_32 rec4 x1 x2 x3 co flags)
 else (if inb x3 5 = true then (fX8_coloursOf_32 rec4 x1 (x2 ||| (co x3.toNatClampNeg)) x3 co flags) else none)))
def fX8_coloursOf_4  (x1 : Int32) (co : (Nat → Int32)) (flags : Int32) : Nat → Int32 → Int32 → Option (Int32)
  | 0 => fun _ _ => none
  | n + 1 => fun x2 x3 => gX8_coloursOf_4 (fX8_coloursOf_4  x1 co flags n) x1 x2 x3 co flags
def fX8_coloursOf  (x1 : Int32) (co : (Nat → Int32)) (flags : Int32) : Option (Int32) :=
 (fX8_coloursOf_4  x1 co flags FU (0 : Int32) (0 : Int32))
theorem hinX8_coloursOf_X8 : ∀ w ∈ u_ws RX8 TX8 6, w ∈ wsX8_coloursOf := fun w h => List.mem_cons_of_mem _ (List.mem_append_left _ (List.mem_append_right _ h))
theorem mX8_coloursOf_1 : Cond.fieldLink RX8 28 "FlagWash$Wash" "plan" "LFlagWash$Plan;" ∈ wsX8_coloursOf := List.mem_of_getElem? (i := 1) rfl
theorem hinX8_coloursOf_X4 : ∀ w ∈ u_ws RX4 TX4 8, w ∈ wsX8_coloursOf := fun w h => List.mem_cons_of_mem _ (List.mem_append_right _ h)
theorem mX8_coloursOf_2 : Cond.fieldLink RX8 42 "FlagWash$Plan" "flags" "I" ∈ wsX8_coloursOf := List.mem_of_getElem? (i := 2) rfl
theorem mX8_coloursOf_3 : Cond.fieldLink RX8 18 "FlagWash$Wash" "colours" "[I" ∈ wsX8_coloursOf := List.mem_of_getElem? (i := 3) rfl
theorem hd_X8_coloursOf : yX8_coloursOf.cls ≠ "java/lang/invoke/MethodHandle" ∧ yX8_coloursOf.cls ≠ "java/lang/invoke/VarHandle" ∧ (parseMethodDescriptor yX8_coloursOf.desc).map (fun d => d.parameters.length) = some 1 := by decide +kernel
set_option maxHeartbeats 4000000 in
set_option maxRecDepth 100000 in
theorem LX8_coloursOf_32 {p : Program} {l : Launch} {e : Env} {s : State} {m : MethodId} {args : Array Value} {below : List Frame} {meth : Method} {c : Code} {D : va_G} {cyI cyZ cyW : ClassId} {zW zO : Nat} {A : Nat → Prop} (C : Cx p s m args meth c cX8_coloursOf RX8 "coloursOf" wsX8_coloursOf (some .int) 4 D (tyA cyI cyZ cyW) zW zO A) {w0 : Nat} {w1 : Nat} {w2 : Nat} {w3 : Nat} {p0 : Nat} {p1 : Nat} {p2 : Nat} {p3 : Nat} {p4 : Nat} {wh : (Nat → Int32)} {lf : (Nat → Int32)} {co : (Nat → Int32)} {wi : Int32} {ho : Int32} {tubs : Int32} {pegs : Int32} {pwi : Int32} {flags : Int32} {pco : (Nat → Int32)} {pcl : (Nat → Int32)} {phr : (Nat → Int32)} {pho : (Nat → Int32)} {x1 : Int32} {x2 : Int32} {x3 : Int32} {rec4 : Int32 → Int32 → Option (Int32)} {res : Int32} (hrec4 : ∀ (x2 : Int32) (x3 : Int32), rec4 x2 x3 = some res → Mx p l e ({ frames := 0, cells := 0, slots := 0, locals := 0 } : Room) s m args below meth c (MQ below (QI D (tyA cyI cyZ cyW) A (wWP cyI cyZ cyW w0 w1 w2 w3 p0 p1 p2 p3 p4 wh lf co wi ho tubs pegs pwi flags pco pcl phr pho) res) args s 0 0 A) 4 D A 0 0 (wWP cyI cyZ cyW w0 w1 w2 w3 p0 p1 p2 p3 p4 wh lf co wi ho tubs pegs pwi flags pco pcl phr pho) 4 [(0, .ref w0), (1, .int x1), (2, .int x2), (3, .int x3)] []) (h : fX8_coloursOf_32 rec4 x1 x2 x3 co flags = some res) : Mx p l e ({ frames := 0, cells := 0, slots := 0, locals := 0 } : Room) s m args below meth c (MQ below (QI D (tyA cyI cyZ cyW) A (wWP cyI cyZ cyW w0 w1 w2 w3 p0 p1 p2 p3 p4 wh lf co wi ho tubs pegs pwi flags pco pcl phr pho) res) args s 0 0 A) 4 D A 0 0 (wWP cyI cyZ cyW w0 w1 w2 w3 p0 p1 p2 p3 p4 wh lf co wi ho tubs pegs pwi flags pco pcl phr pho) 32 [(0, .ref w0), (1, .int x1), (2, .int x2), (3, .int x3)] [] := by
  unfold fX8_coloursOf_32 at h
  refine r_iinc (v := 1) (lv' := [(3, .int (x3 + (1 : Int32))), (0, .ref w0), (1, .int x1), (2, .int x2)]) C dX8_coloursOf_32 3 rfl ic_1 (by decide) rfl ?_
  refine r_goto (tgt := 4) C dX8_coloursOf_35 (by decide) ?_
  refine r_lv (lv' := [(0, .ref w0), (1, .int x1), (2, .int x2), (3, .int (x3 + (1 : Int32)))]) [1, 2, 3, 0] rfl ?_
  exact hrec4 x2 (x3 + (1 : Int32)) h
set_option maxHeartbeats 4000000 in
set_option maxRecDepth 100000 in
theorem LGX8_coloursOf_4 {p : Program} {l : Launch} {e : Env} {s : State} {m : MethodId} {args : Array Value} {below : List Frame} {meth : Method} {c : Code} {D : va_G} {cyI cyZ cyW : ClassId} {zW zO : Nat} {A : Nat → Prop} (C : Cx p s m args meth c cX8_coloursOf RX8 "coloursOf" wsX8_coloursOf (some .int) 4 D (tyA cyI cyZ cyW) zW zO A) {w0 : Nat} {w1 : Nat} {w2 : Nat} {w3 : Nat} {p0 : Nat} {p1 : Nat} {p2 : Nat} {p3 : Nat} {p4 : Nat} {wh : (Nat → Int32)} {lf : (Nat → Int32)} {co : (Nat → Int32)} {wi : Int32} {ho : Int32} {tubs : Int32} {pegs : Int32} {pwi : Int32} {flags : Int32} {pco : (Nat → Int32)} {pcl : (Nat → Int32)} {phr : (Nat → Int32)} {pho : (Nat → Int32)} {x1 : Int32} {x2 : Int32} {x3 : Int32} {rec4 : Int32 → Int32 → Option (Int32)} {res : Int32} (hrec4 : ∀ (x2 : Int32) (x3 : Int32), rec4 x2 x3 = some res → Mx p l e ({ frames := 0, cells := 0, slots := 0, locals := 0 } : Room) s m args below meth c (MQ below (QI D (tyA cyI cyZ cyW) A (wWP cyI cyZ cyW w0 w1 w2 w3 p0 p1 p2 p3 p4 wh lf co wi ho tubs pegs pwi flags pco pcl phr pho) res) args s 0 0 A) 4 D A 0 0 (wWP cyI cyZ cyW w0 w1 w2 w3 p0 p1 p2 p3 p4 wh lf co wi ho tubs pegs pwi flags pco pcl phr pho) 4 [(0, .ref w0), (1, .int x1), (2, .int x2), (3, .int x3)] []) (h : gX8_coloursOf_4 rec4 x1 x2 x3 co flags = some res) : Mx p l e ({ frames := 0, cells := 0, slots := 0, locals := 0 } : Room) s m args below meth c (MQ below (QI D (tyA cyI cyZ cyW) A (wWP cyI cyZ cyW w0 w1 w2 w3 p0 p1 p2 p3 p4 wh lf co wi ho tubs pegs pwi flags pco pcl phr pho) res) args s 0 0 A) 4 D A 0 0 (wWP cyI cyZ cyW w0 w1 w2 w3 p0 p1 p2 p3 p4 wh lf co wi ho tubs pegs pwi flags pco pcl phr pho) 4 [(0, .ref w0), (1, .int x1), (2, .int x2), (3, .int x3)] [] := by
  unfold gX8_coloursOf_4 at h
  refine r_iload_n C dX8_coloursOf_4 3 rfl rfl ?_
  refine r_aload_n C dX8_coloursOf_5 0 rfl rfl ?_
  refine r_get (ci := 5) (CC := RX8) (T := TX8) (N := 6) (v := .ref p0) C hinX8_coloursOf_X8 0 rfl rfl 0 (by decide) mX8_coloursOf_1 rfl rfl dX8_coloursOf_6 ?_
  refine r_get (ci := 2) (CC := RX4) (T := TX4) (N := 8) (v := .int flags) C hinX8_coloursOf_X4 4 rfl rfl 3 (by decide) mX8_coloursOf_2 rfl rfl dX8_coloursOf_9 ?_
  refine r_icmp_ge (tgt := 38) C dX8_coloursOf_12 (by decide) (fun c1 => ?_) (fun c1 => ?_)
  · replace h := ob_t h c1
    refine r_iload_n C dX8_coloursOf_38 2 rfl rfl ?_
    have h9 := Option.some.inj h
    subst h9
    exact r_iret C rfl dX8_coloursOf_39
  · replace h := ob_f h c1
    refine r_iload_n C dX8_coloursOf_15 1 rfl rfl ?_
    refine r_iload_n C dX8_coloursOf_16 3 rfl rfl ?_
    refine r_ishr C dX8_coloursOf_17 ?_
    refine r_iconst (v := 1) C dX8_coloursOf_18 ic_1 ?_
    refine r_iand C dX8_coloursOf_19 ?_
    refine r_if_eq (tgt := 32) C dX8_coloursOf_20 (by decide) (fun c2 => ?_) (fun c2 => ?_)
    · replace h := ob_t h c2
      refine r_lv (lv' := [(0, .ref w0), (1, .int x1), (2, .int x2), (3, .int x3)]) [0, 1, 2, 3] rfl ?_
      exact LX8_coloursOf_32 C (x1 := x1) (x2 := x2) (x3 := x3) (wh := wh) (lf := lf) (co := co) (wi := wi) (ho := ho) (tubs := tubs) (pegs := pegs) (pwi := pwi) (flags := flags) (pco := pco) (pcl := pcl) (phr := phr) (pho := pho) hrec4 h
    · replace h := ob_f h c2
      refine r_iload_n C dX8_coloursOf_23 2 rfl rfl ?_
      refine r_aload_n C dX8_coloursOf_24 0 rfl rfl ?_
      refine r_get (ci := 5) (CC := RX8) (T := TX8) (N := 6) (v := .ref w3) C hinX8_coloursOf_X8 0 rfl rfl 3 (by decide) mX8_coloursOf_3 rfl rfl dX8_coloursOf_25 ?_
      refine r_iload_n C dX8_coloursOf_28 3 rfl rfl ?_
      obtain ⟨hu3, h⟩ := ob_if h
      refine r_iald C 3 0 rfl rfl (inb_vp hu3) dX8_coloursOf_29 ?_
      refine r_ior C dX8_coloursOf_30 ?_
      refine r_istore_n (lv' := [(2, .int (x2 ||| (co x3.toNatClampNeg))), (0, .ref w0), (1, .int x1), (3, .int x3)]) C dX8_coloursOf_31 rfl (by decide) rfl ?_
      refine r_lv (lv' := [(0, .ref w0), (1, .int x1), (2, .int (x2 ||| (co x3.toNatClampNeg))), (3, .int x3)]) [1, 2, 0, 3] rfl ?_
      exact LX8_coloursOf_32 C (x1 := x1) (x2 := (x2 ||| (co x3.toNatClampNeg))) (x3 := x3) (wh := wh) (lf := lf) (co := co) (wi := wi) (ho := ho) (tubs := tubs) (pegs := pegs) (pwi := pwi) (flags := flags) (pco := pco) (pcl := pcl) (phr := phr) (pho := pho) hrec4 h
set_option maxHeartbeats 4000000 in
set_option maxRecDepth 100000 in
theorem LX8_coloursOf_4 {p : Program} {l : Launch} {e : Env} {s : State} {m : MethodId} {args : Array Value} {below : List Frame} {meth : Method} {c : Code} {D : va_G} {cyI cyZ cyW : ClassId} {zW zO : Nat} {A : Nat → Prop} (C : Cx p s m args meth c cX8_coloursOf RX8 "coloursOf" wsX8_coloursOf (some .int) 4 D (tyA cyI cyZ cyW) zW zO A) {w0 : Nat} {w1 : Nat} {w2 : Nat} {w3 : Nat} {p0 : Nat} {p1 : Nat} {p2 : Nat} {p3 : Nat} {p4 : Nat} {x1 : Int32} {wh : (Nat → Int32)} {lf : (Nat → Int32)} {co : (Nat → Int32)} {wi : Int32} {ho : Int32} {tubs : Int32} {pegs : Int32} {pwi : Int32} {flags : Int32} {pco : (Nat → Int32)} {pcl : (Nat → Int32)} {phr : (Nat → Int32)} {pho : (Nat → Int32)}  {res : Int32}  : ∀ (n : Nat) (x2 : Int32) (x3 : Int32), fX8_coloursOf_4  x1 co flags n x2 x3 = some res → Mx p l e ({ frames := 0, cells := 0, slots := 0, locals := 0 } : Room) s m args below meth c (MQ below (QI D (tyA cyI cyZ cyW) A (wWP cyI cyZ cyW w0 w1 w2 w3 p0 p1 p2 p3 p4 wh lf co wi ho tubs pegs pwi flags pco pcl phr pho) res) args s 0 0 A) 4 D A 0 0 (wWP cyI cyZ cyW w0 w1 w2 w3 p0 p1 p2 p3 p4 wh lf co wi ho tubs pegs pwi flags pco pcl phr pho) 4 [(0, .ref w0), (1, .int x1), (2, .int x2), (3, .int x3)] [] := by
  intro n
  induction n with
  | zero => intro x2 x3 h; cases h
  | succ n ih => intro x2 x3 h; exact LGX8_coloursOf_4 C ih h
set_option maxHeartbeats 4000000 in
set_option maxRecDepth 100000 in
theorem kX8_coloursOf {l : Launch} {D : va_G} {cyI cyZ cyW : ClassId} {zW zO : Nat} {w0 : Nat} {w1 : Nat} {w2 : Nat} {w3 : Nat} {p0 : Nat} {p1 : Nat} {p2 : Nat} {p3 : Nat} {p4 : Nat} {wh : (Nat → Int32)} {lf : (Nat → Int32)} {co : (Nat → Int32)} {wi : Int32} {ho : Int32} {tubs : Int32} {pegs : Int32} {pwi : Int32} {flags : Int32} {pco : (Nat → Int32)} {pcl : (Nat → Int32)} {phr : (Nat → Int32)} {pho : (Nat → Int32)} {x1 : Int32} {res : Int32} (h : fX8_coloursOf x1 co flags = some res) : KI l yX8_coloursOf wsX8_coloursOf ({ frames := 0, cells := 0, slots := 0, locals := 0 } : Room) D (tyA cyI cyZ cyW) zW zO [.ref w0, .int x1] (wWP cyI cyZ cyW w0 w1 w2 w3 p0 p1 p2 p3 p4 wh lf co wi ho tubs pegs pwi flags pco pcl phr pho) (wWP cyI cyZ cyW w0 w1 w2 w3 p0 p1 p2 p3 p4 wh lf co wi ho tubs pegs pwi flags pco pcl phr pho) res := by
  refine enterI (cc := cX8_coloursOf) (nL := 4) (ret := (some .int)) (by decide) rfl (Nat.le_of_ble_eq_true rfl) (fun p e s m below meth c A C => ?_)
  refine r_lv (lv' := [(0, .ref w0), (1, .int x1)]) [0, 1] rfl ?_
  unfold fX8_coloursOf at h
  refine r_iconst (v := 0) C dX8_coloursOf_0 ic_0 ?_
  refine r_istore_n (lv' := [(2, .int (0 : Int32)), (0, .ref w0), (1, .int x1)]) C dX8_coloursOf_1 rfl (by decide) rfl ?_
  refine r_iconst (v := 0) C dX8_coloursOf_2 ic_0 ?_
  refine r_istore_n (lv' := [(3, .int (0 : Int32)), (2, .int (0 : Int32)), (0, .ref w0), (1, .int x1)]) C dX8_coloursOf_3 rfl (by decide) rfl ?_
  refine r_lv (lv' := [(0, .ref w0), (1, .int x1), (2, .int (0 : Int32)), (3, .int (0 : Int32))]) [2, 3, 1, 0] rfl ?_
  exact LX8_coloursOf_4 C (x1 := x1) (wh := wh) (lf := lf) (co := co) (wi := wi) (ho := ho) (tubs := tubs) (pegs := pegs) (pwi := pwi) (flags := flags) (pco := pco) (pcl := pcl) (phr := phr) (pho := pho)  FU (0 : Int32) (0 : Int32) h

/-! ===== FlagWash$Wash.startAnew ===== -/
def gX8_startAnew_2 (rec2 : Int32 → (Nat → Int32) → (Nat → Int32) → (Nat → Int32) → Option ((Nat → Int32) × (Nat → Int32) × (Nat → Int32) × Int32 × Int32)) (x1 : Int32) (wh : (Nat → Int32)) (lf : (Nat → Int32)) (co : (Nat → Int32)) (pwi : Int32) (pco : (Nat → Int32)) : Option ((Nat → Int32) × (Nat → Int32) × (Nat → Int32) × Int32 × Int32) :=
 (if (5 : Int32) ≤ x1 then (some (wh, lf, co, pwi, (0 : Int32)))
 else (if inb x1 5 = true then (if inb x1 5 = true then (if inb x1 5 = true then (if inb x1 5 = true then (rec2 (x1 + (1 : Int32)) (upd wh x1.toNatClampNeg (0 : Int32)) (upd lf x1.toNatClampNeg (0 : Int32)) (upd co x1.toNatClampNeg (pco x1.toNatClampNeg))) else none) else none) else none) else none))
def fX8_startAnew_2  (pwi : Int32) (pco : (Nat → Int32)) : Nat → Int32 → (Nat → Int32) → (Nat → Int32) → (Nat → Int32) → Option ((Nat → Int32) × (Nat → Int32) × (Nat → Int32) × Int32 × Int32)
  | 0 => fun _ _ _ _ => none
  | n + 1 => fun x1 wh lf co => gX8_startAnew_2 (fX8_startAnew_2  pwi pco n) x1 wh lf co pwi pco
def fX8_startAnew  (wh : (Nat → Int32)) (lf : (Nat → Int32)) (co : (Nat → Int32)) (pwi : Int32) (pco : (Nat → Int32)) : Option ((Nat → Int32) × (Nat → Int32) × (Nat → Int32) × Int32 × Int32) :=
 (fX8_startAnew_2  pwi pco FU (0 : Int32) wh lf co)
theorem hinX8_startAnew_X8 : ∀ w ∈ u_ws RX8 TX8 6, w ∈ wsX8_startAnew := fun w h => List.mem_cons_of_mem _ (List.mem_append_left _ (List.mem_append_right _ h))
theorem mX8_startAnew_4 : Cond.fieldLink RX8 28 "FlagWash$Wash" "plan" "LFlagWash$Plan;" ∈ wsX8_startAnew := List.mem_of_getElem? (i := 4) rfl
theorem hinX8_startAnew_X4 : ∀ w ∈ u_ws RX4 TX4 8, w ∈ wsX8_startAnew := fun w h => List.mem_cons_of_mem _ (List.mem_append_right _ h)
theorem mX8_startAnew_6 : Cond.fieldLink RX8 35 "FlagWash$Plan" "wind" "I" ∈ wsX8_startAnew := List.mem_of_getElem? (i := 6) rfl
theorem mX8_startAnew_7 : Cond.fieldLink RX8 21 "FlagWash$Wash" "wind" "I" ∈ wsX8_startAnew := List.mem_of_getElem? (i := 7) rfl
theorem mX8_startAnew_8 : Cond.fieldLink RX8 25 "FlagWash$Wash" "hour" "I" ∈ wsX8_startAnew := List.mem_of_getElem? (i := 8) rfl
theorem mX8_startAnew_1 : Cond.fieldLink RX8 9 "FlagWash$Wash" "where" "[I" ∈ wsX8_startAnew := List.mem_of_getElem? (i := 1) rfl
theorem mX8_startAnew_2 : Cond.fieldLink RX8 15 "FlagWash$Wash" "left" "[I" ∈ wsX8_startAnew := List.mem_of_getElem? (i := 2) rfl
theorem mX8_startAnew_3 : Cond.fieldLink RX8 18 "FlagWash$Wash" "colours" "[I" ∈ wsX8_startAnew := List.mem_of_getElem? (i := 3) rfl
theorem mX8_startAnew_5 : Cond.fieldLink RX8 32 "FlagWash$Plan" "colours" "[I" ∈ wsX8_startAnew := List.mem_of_getElem? (i := 5) rfl
theorem hd_X8_startAnew : yX8_startAnew.cls ≠ "java/lang/invoke/MethodHandle" ∧ yX8_startAnew.cls ≠ "java/lang/invoke/VarHandle" ∧ (parseMethodDescriptor yX8_startAnew.desc).map (fun d => d.parameters.length) = some 0 := by decide +kernel
set_option maxHeartbeats 4000000 in
set_option maxRecDepth 100000 in
theorem LGX8_startAnew_2 {p : Program} {l : Launch} {e : Env} {s : State} {m : MethodId} {args : Array Value} {below : List Frame} {meth : Method} {c : Code} {D : va_G} {cyI cyZ cyW : ClassId} {zW zO : Nat} {A : Nat → Prop} (C : Cx p s m args meth c cX8_startAnew RX8 "startAnew" wsX8_startAnew none 2 D (tyA cyI cyZ cyW) zW zO A) {w0 : Nat} {w1 : Nat} {w2 : Nat} {w3 : Nat} {p0 : Nat} {p1 : Nat} {p2 : Nat} {p3 : Nat} {p4 : Nat} {wh : (Nat → Int32)} {lf : (Nat → Int32)} {co : (Nat → Int32)} {wi : Int32} {ho : Int32} {tubs : Int32} {pegs : Int32} {pwi : Int32} {flags : Int32} {pco : (Nat → Int32)} {pcl : (Nat → Int32)} {phr : (Nat → Int32)} {pho : (Nat → Int32)} {x1 : Int32} {rec2 : Int32 → (Nat → Int32) → (Nat → Int32) → (Nat → Int32) → Option ((Nat → Int32) × (Nat → Int32) × (Nat → Int32) × Int32 × Int32)} {res : (Nat → Int32) × (Nat → Int32) × (Nat → Int32) × Int32 × Int32} (hrec2 : ∀ (x1 : Int32) (wh : (Nat → Int32)) (lf : (Nat → Int32)) (co : (Nat → Int32)), rec2 x1 wh lf co = some res → Mx p l e ({ frames := 0, cells := 0, slots := 0, locals := 0 } : Room) s m args below meth c (MQ below (QV D (tyA cyI cyZ cyW) A (wWP cyI cyZ cyW w0 w1 w2 w3 p0 p1 p2 p3 p4 res.1 res.2.1 res.2.2.1 res.2.2.2.1 res.2.2.2.2 tubs pegs pwi flags pco pcl phr pho)) args s 0 0 A) 2 D A 0 0 (wWP cyI cyZ cyW w0 w1 w2 w3 p0 p1 p2 p3 p4 wh lf co wi ho tubs pegs pwi flags pco pcl phr pho) 2 [(0, .ref w0), (1, .int x1)] []) (h : gX8_startAnew_2 rec2 x1 wh lf co pwi pco = some res) : Mx p l e ({ frames := 0, cells := 0, slots := 0, locals := 0 } : Room) s m args below meth c (MQ below (QV D (tyA cyI cyZ cyW) A (wWP cyI cyZ cyW w0 w1 w2 w3 p0 p1 p2 p3 p4 res.1 res.2.1 res.2.2.1 res.2.2.2.1 res.2.2.2.2 tubs pegs pwi flags pco pcl phr pho)) args s 0 0 A) 2 D A 0 0 (wWP cyI cyZ cyW w0 w1 w2 w3 p0 p1 p2 p3 p4 wh lf co wi ho tubs pegs pwi flags pco pcl phr pho) 2 [(0, .ref w0), (1, .int x1)] [] := by
  unfold gX8_startAnew_2 at h
  refine r_iload_n C dX8_startAnew_2 1 rfl rfl ?_
  refine r_iconst (v := 5) C dX8_startAnew_3 ic_5 ?_
  refine r_icmp_ge (tgt := 42) C dX8_startAnew_4 (by decide) (fun c1 => ?_) (fun c1 => ?_)
  · replace h := ob_t h c1
    refine r_aload_n C dX8_startAnew_42 0 rfl rfl ?_
    refine r_aload_n C dX8_startAnew_43 0 rfl rfl ?_
    refine r_get (ci := 5) (CC := RX8) (T := TX8) (N := 6) (v := .ref p0) C hinX8_startAnew_X8 0 rfl rfl 0 (by decide) mX8_startAnew_4 rfl rfl dX8_startAnew_44 ?_
    refine r_get (ci := 2) (CC := RX4) (T := TX4) (N := 8) (v := .int pwi) C hinX8_startAnew_X4 4 rfl rfl 2 (by decide) mX8_startAnew_6 rfl rfl dX8_startAnew_47 ?_
    refine r_put (ci := 5) (CC := RX8) (T := TX8) (N := 6) (v := .int pwi) (ws1 := (wWP cyI cyZ cyW w0 w1 w2 w3 p0 p1 p2 p3 p4 wh lf co pwi ho tubs pegs pwi flags pco pcl phr pho)) (ty := .int) C hinX8_startAnew_X8 tyX8 tyX8_ok nmX8 0 rfl rfl 4 (by decide) mX8_startAnew_7 rfl rfl rfl rfl rfl (Nat.le_of_ble_eq_true rfl) rfl dX8_startAnew_50 ?_
    refine r_aload_n C dX8_startAnew_53 0 rfl rfl ?_
    refine r_iconst (v := 0) C dX8_startAnew_54 ic_0 ?_
    refine r_put (ci := 5) (CC := RX8) (T := TX8) (N := 6) (v := .int (0 : Int32)) (ws1 := (wWP cyI cyZ cyW w0 w1 w2 w3 p0 p1 p2 p3 p4 wh lf co pwi (0 : Int32) tubs pegs pwi flags pco pcl phr pho)) (ty := .int) C hinX8_startAnew_X8 tyX8 tyX8_ok nmX8 0 rfl rfl 5 (by decide) mX8_startAnew_8 rfl rfl rfl rfl rfl (Nat.le_of_ble_eq_true rfl) rfl dX8_startAnew_55 ?_
    have h9 := Option.some.inj h
    subst h9
    exact r_vret C rfl dX8_startAnew_58
  · replace h := ob_f h c1
    refine r_aload_n C dX8_startAnew_7 0 rfl rfl ?_
    refine r_get (ci := 5) (CC := RX8) (T := TX8) (N := 6) (v := .ref w1) C hinX8_startAnew_X8 0 rfl rfl 1 (by decide) mX8_startAnew_1 rfl rfl dX8_startAnew_8 ?_
    refine r_iload_n C dX8_startAnew_11 1 rfl rfl ?_
    refine r_iconst (v := 0) C dX8_startAnew_12 ic_0 ?_
    obtain ⟨hu2, h⟩ := ob_if h
    refine r_iast (ws1 := (wWP cyI cyZ cyW w0 w1 w2 w3 p0 p1 p2 p3 p4 (upd wh x1.toNatClampNeg (0 : Int32)) lf co wi ho tubs pegs pwi flags pco pcl phr pho)) C 1 0 rfl rfl (inb_vp hu2) rfl dX8_startAnew_13 ?_
    refine r_aload_n C dX8_startAnew_14 0 rfl rfl ?_
    refine r_get (ci := 5) (CC := RX8) (T := TX8) (N := 6) (v := .ref w2) C hinX8_startAnew_X8 0 rfl rfl 2 (by decide) mX8_startAnew_2 rfl rfl dX8_startAnew_15 ?_
    refine r_iload_n C dX8_startAnew_18 1 rfl rfl ?_
    refine r_iconst (v := 0) C dX8_startAnew_19 ic_0 ?_
    obtain ⟨hu3, h⟩ := ob_if h
    refine r_iast (ws1 := (wWP cyI cyZ cyW w0 w1 w2 w3 p0 p1 p2 p3 p4 (upd wh x1.toNatClampNeg (0 : Int32)) (upd lf x1.toNatClampNeg (0 : Int32)) co wi ho tubs pegs pwi flags pco pcl phr pho)) C 2 0 rfl rfl (inb_vp hu3) rfl dX8_startAnew_20 ?_
    refine r_aload_n C dX8_startAnew_21 0 rfl rfl ?_
    refine r_get (ci := 5) (CC := RX8) (T := TX8) (N := 6) (v := .ref w3) C hinX8_startAnew_X8 0 rfl rfl 3 (by decide) mX8_startAnew_3 rfl rfl dX8_startAnew_22 ?_
    refine r_iload_n C dX8_startAnew_25 1 rfl rfl ?_
    refine r_aload_n C dX8_startAnew_26 0 rfl rfl ?_
    refine r_get (ci := 5) (CC := RX8) (T := TX8) (N := 6) (v := .ref p0) C hinX8_startAnew_X8 0 rfl rfl 0 (by decide) mX8_startAnew_4 rfl rfl dX8_startAnew_27 ?_
    refine r_get (ci := 2) (CC := RX4) (T := TX4) (N := 8) (v := .ref p1) C hinX8_startAnew_X4 4 rfl rfl 4 (by decide) mX8_startAnew_5 rfl rfl dX8_startAnew_30 ?_
    refine r_iload_n C dX8_startAnew_33 1 rfl rfl ?_
    obtain ⟨hu4, h⟩ := ob_if h
    refine r_iald C 5 0 rfl rfl (inb_vp hu4) dX8_startAnew_34 ?_
    obtain ⟨hu5, h⟩ := ob_if h
    refine r_iast (ws1 := (wWP cyI cyZ cyW w0 w1 w2 w3 p0 p1 p2 p3 p4 (upd wh x1.toNatClampNeg (0 : Int32)) (upd lf x1.toNatClampNeg (0 : Int32)) (upd co x1.toNatClampNeg (pco x1.toNatClampNeg)) wi ho tubs pegs pwi flags pco pcl phr pho)) C 3 0 rfl rfl (inb_vp hu5) rfl dX8_startAnew_35 ?_
    refine r_iinc (v := 1) (lv' := [(1, .int (x1 + (1 : Int32))), (0, .ref w0)]) C dX8_startAnew_36 1 rfl ic_1 (by decide) rfl ?_
    refine r_goto (tgt := 2) C dX8_startAnew_39 (by decide) ?_
    refine r_lv (lv' := [(0, .ref w0), (1, .int (x1 + (1 : Int32)))]) [1, 0] rfl ?_
    exact hrec2 (x1 + (1 : Int32)) (upd wh x1.toNatClampNeg (0 : Int32)) (upd lf x1.toNatClampNeg (0 : Int32)) (upd co x1.toNatClampNeg (pco x1.toNatClampNeg)) h
set_option maxHeartbeats 4000000 in
set_option maxRecDepth 100000 in
theorem LX8_startAnew_2 {p : Program} {l : Launch} {e : Env} {s : State} {m : MethodId} {args : Array Value} {below : List Frame} {meth : Method} {c : Code} {D : va_G} {cyI cyZ cyW : ClassId} {zW zO : Nat} {A : Nat → Prop} (C : Cx p s m args meth c cX8_startAnew RX8 "startAnew" wsX8_startAnew none 2 D (tyA cyI cyZ cyW) zW zO A) {w0 : Nat} {w1 : Nat} {w2 : Nat} {w3 : Nat} {p0 : Nat} {p1 : Nat} {p2 : Nat} {p3 : Nat} {p4 : Nat} {wi : Int32} {ho : Int32} {tubs : Int32} {pegs : Int32} {pwi : Int32} {flags : Int32} {pco : (Nat → Int32)} {pcl : (Nat → Int32)} {phr : (Nat → Int32)} {pho : (Nat → Int32)}  {res : (Nat → Int32) × (Nat → Int32) × (Nat → Int32) × Int32 × Int32}  : ∀ (n : Nat) (x1 : Int32) (wh : (Nat → Int32)) (lf : (Nat → Int32)) (co : (Nat → Int32)), fX8_startAnew_2  pwi pco n x1 wh lf co = some res → Mx p l e ({ frames := 0, cells := 0, slots := 0, locals := 0 } : Room) s m args below meth c (MQ below (QV D (tyA cyI cyZ cyW) A (wWP cyI cyZ cyW w0 w1 w2 w3 p0 p1 p2 p3 p4 res.1 res.2.1 res.2.2.1 res.2.2.2.1 res.2.2.2.2 tubs pegs pwi flags pco pcl phr pho)) args s 0 0 A) 2 D A 0 0 (wWP cyI cyZ cyW w0 w1 w2 w3 p0 p1 p2 p3 p4 wh lf co wi ho tubs pegs pwi flags pco pcl phr pho) 2 [(0, .ref w0), (1, .int x1)] [] := by
  intro n
  induction n with
  | zero => intro x1 wh lf co h; cases h
  | succ n ih => intro x1 wh lf co h; exact LGX8_startAnew_2 C ih h
set_option maxHeartbeats 4000000 in
set_option maxRecDepth 100000 in
theorem kX8_startAnew {l : Launch} {D : va_G} {cyI cyZ cyW : ClassId} {zW zO : Nat} {w0 : Nat} {w1 : Nat} {w2 : Nat} {w3 : Nat} {p0 : Nat} {p1 : Nat} {p2 : Nat} {p3 : Nat} {p4 : Nat} {wh : (Nat → Int32)} {lf : (Nat → Int32)} {co : (Nat → Int32)} {wi : Int32} {ho : Int32} {tubs : Int32} {pegs : Int32} {pwi : Int32} {flags : Int32} {pco : (Nat → Int32)} {pcl : (Nat → Int32)} {phr : (Nat → Int32)} {pho : (Nat → Int32)}  {res : (Nat → Int32) × (Nat → Int32) × (Nat → Int32) × Int32 × Int32} (h : fX8_startAnew wh lf co pwi pco = some res) : KV l yX8_startAnew wsX8_startAnew ({ frames := 0, cells := 0, slots := 0, locals := 0 } : Room) D (tyA cyI cyZ cyW) zW zO [.ref w0] (wWP cyI cyZ cyW w0 w1 w2 w3 p0 p1 p2 p3 p4 wh lf co wi ho tubs pegs pwi flags pco pcl phr pho) (wWP cyI cyZ cyW w0 w1 w2 w3 p0 p1 p2 p3 p4 res.1 res.2.1 res.2.2.1 res.2.2.2.1 res.2.2.2.2 tubs pegs pwi flags pco pcl phr pho) := by
  refine enterV (cc := cX8_startAnew) (nL := 2) (ret := none) (by decide) rfl (Nat.le_of_ble_eq_true rfl) (fun p e s m below meth c A C => ?_)
  refine r_lv (lv' := [(0, .ref w0)]) [0] rfl ?_
  unfold fX8_startAnew at h
  refine r_iconst (v := 0) C dX8_startAnew_0 ic_0 ?_
  refine r_istore_n (lv' := [(1, .int (0 : Int32)), (0, .ref w0)]) C dX8_startAnew_1 rfl (by decide) rfl ?_
  refine r_lv (lv' := [(0, .ref w0), (1, .int (0 : Int32))]) [1, 0] rfl ?_
  exact LX8_startAnew_2 C (wi := wi) (ho := ho) (tubs := tubs) (pegs := pegs) (pwi := pwi) (flags := flags) (pco := pco) (pcl := pcl) (phr := phr) (pho := pho)  FU (0 : Int32) wh lf co h

/-! ===== FlagWash$Wash.pairsThatMayFight ===== -/
def fX8_pairsThatMayFight  (wh : (Nat → Int32)) (flags : Int32) (pho : (Nat → Int32)) : Option (Int32) :=
 ((fX8_homeBits wh flags).bind fun u1 => ((fX4_hostilePairs u1 flags pho).bind fun u2 => (some u2)))
theorem hinX8_pairsThatMayFight_X8 : ∀ w ∈ u_ws RX8 TX8 6, w ∈ wsX8_pairsThatMayFight := fun w h => List.mem_cons_of_mem _ (List.mem_append_left _ (List.mem_append_right _ h))
theorem mX8_pairsThatMayFight_1 : Cond.fieldLink RX8 28 "FlagWash$Wash" "plan" "LFlagWash$Plan;" ∈ wsX8_pairsThatMayFight := List.mem_of_getElem? (i := 1) rfl
theorem hd_X8_pairsThatMayFight : yX8_pairsThatMayFight.cls ≠ "java/lang/invoke/MethodHandle" ∧ yX8_pairsThatMayFight.cls ≠ "java/lang/invoke/VarHandle" ∧ (parseMethodDescriptor yX8_pairsThatMayFight.desc).map (fun d => d.parameters.length) = some 0 := by decide +kernel
set_option maxHeartbeats 4000000 in
set_option maxRecDepth 100000 in
theorem kX8_pairsThatMayFight {l : Launch} {D : va_G} {cyI cyZ cyW : ClassId} {zW zO : Nat} {w0 : Nat} {w1 : Nat} {w2 : Nat} {w3 : Nat} {p0 : Nat} {p1 : Nat} {p2 : Nat} {p3 : Nat} {p4 : Nat} {wh : (Nat → Int32)} {lf : (Nat → Int32)} {co : (Nat → Int32)} {wi : Int32} {ho : Int32} {tubs : Int32} {pegs : Int32} {pwi : Int32} {flags : Int32} {pco : (Nat → Int32)} {pcl : (Nat → Int32)} {phr : (Nat → Int32)} {pho : (Nat → Int32)}  {res : Int32} (h : fX8_pairsThatMayFight wh flags pho = some res) : KI l yX8_pairsThatMayFight wsX8_pairsThatMayFight ({ frames := 2, cells := 0, slots := 0, locals := 43 } : Room) D (tyA cyI cyZ cyW) zW zO [.ref w0] (wWP cyI cyZ cyW w0 w1 w2 w3 p0 p1 p2 p3 p4 wh lf co wi ho tubs pegs pwi flags pco pcl phr pho) (wWP cyI cyZ cyW w0 w1 w2 w3 p0 p1 p2 p3 p4 wh lf co wi ho tubs pegs pwi flags pco pcl phr pho) res := by
  refine enterI (cc := cX8_pairsThatMayFight) (nL := 1) (ret := (some .int)) (by decide) rfl (Nat.le_of_ble_eq_true rfl) (fun p e s m below meth c A C => ?_)
  refine r_lv (lv' := [(0, .ref w0)]) [0] rfl ?_
  unfold fX8_pairsThatMayFight at h
  refine r_aload_n C dX8_pairsThatMayFight_0 0 rfl rfl ?_
  refine r_get (ci := 5) (CC := RX8) (T := TX8) (N := 6) (v := .ref p0) C hinX8_pairsThatMayFight_X8 0 rfl rfl 0 (by decide) mX8_pairsThatMayFight_1 rfl rfl dX8_pairsThatMayFight_1 ?_
  refine r_aload_n C dX8_pairsThatMayFight_4 0 rfl rfl ?_
  obtain ⟨u1, hu1, h⟩ := ob_bind h
  refine r_readVI (q0 := 0) (As := []) (rest := [.ref p0]) C (kX8_homeBits (w0 := w0) (w1 := w1) (w2 := w2) (w3 := w3) (p0 := p0) (p1 := p1) (p2 := p2) (p3 := p3) (p4 := p4) (wh := wh) (lf := lf) (co := co) (wi := wi) (ho := ho) (tubs := tubs) (pegs := pegs) (pwi := pwi) (flags := flags) (pco := pco) (pcl := pcl) (phr := phr) (pho := pho)  hu1) gX8_pairsThatMayFight_X8_homeBits rfl rfl rfl ⟨rfl, hd_X8_homeBits⟩ ⟨by decide, by decide⟩ rfl rfl rfl rfl [0, 1, 2, 3, 4, 5, 6, 7, 8] (by decide) in_29 rfl (Nat.le_of_ble_eq_true rfl) dX8_pairsThatMayFight_5 ⟨Nat.zero_le _, Nat.zero_le _⟩ ?_
  obtain ⟨u2, hu2, h⟩ := ob_bind h
  refine r_readVI (q0 := 0) (As := [.int u1]) (rest := []) C (kX4_hostilePairs (p0 := p0) (p1 := p1) (p2 := p2) (p3 := p3) (p4 := p4) (tubs := tubs) (pegs := pegs) (pwi := pwi) (flags := flags) (pco := pco) (pcl := pcl) (phr := phr) (pho := pho) (x1 := u1) hu2) gX8_pairsThatMayFight_X4_hostilePairs rfl rfl rfl ⟨rfl, hd_X4_hostilePairs⟩ ⟨by decide, by decide⟩ rfl rfl rfl rfl [4, 5, 6, 7, 8] (by decide) in_28 rfl (Nat.le_of_ble_eq_true rfl) dX8_pairsThatMayFight_8 ⟨Nat.zero_le _, Nat.zero_le _⟩ ?_
  have h9 := Option.some.inj h
  subst h9
  exact r_iret C rfl dX8_pairsThatMayFight_11

/-! ===== FlagWash$Wash.canBeSent ===== -/
def fX8_canBeSent  (x1 : Int32) (wh : (Nat → Int32)) (tubs : Int32) (flags : Int32) : Option (Bool) :=
 ((fX4_has x1 flags).bind fun u1 => (if u1 = true then (if inb x1 5 = true then (if (wh x1.toNatClampNeg) = 0 then ((fX8_freeTubs wh tubs flags).bind fun u5 => (if u5 ≤ 0 then (some false)
 else (some true)))
 else (some false)) else none)
 else (some false)))
theorem hinX8_canBeSent_X8 : ∀ w ∈ u_ws RX8 TX8 6, w ∈ wsX8_canBeSent := fun w h => List.mem_cons_of_mem _ (List.mem_append_left _ (List.mem_append_right _ h))
theorem mX8_canBeSent_1 : Cond.fieldLink RX8 28 "FlagWash$Wash" "plan" "LFlagWash$Plan;" ∈ wsX8_canBeSent := List.mem_of_getElem? (i := 1) rfl
theorem mX8_canBeSent_2 : Cond.fieldLink RX8 9 "FlagWash$Wash" "where" "[I" ∈ wsX8_canBeSent := List.mem_of_getElem? (i := 2) rfl
theorem hd_X8_canBeSent : yX8_canBeSent.cls ≠ "java/lang/invoke/MethodHandle" ∧ yX8_canBeSent.cls ≠ "java/lang/invoke/VarHandle" ∧ (parseMethodDescriptor yX8_canBeSent.desc).map (fun d => d.parameters.length) = some 1 := by decide +kernel
set_option maxHeartbeats 4000000 in
set_option maxRecDepth 100000 in
theorem kX8_canBeSent {l : Launch} {D : va_G} {cyI cyZ cyW : ClassId} {zW zO : Nat} {w0 : Nat} {w1 : Nat} {w2 : Nat} {w3 : Nat} {p0 : Nat} {p1 : Nat} {p2 : Nat} {p3 : Nat} {p4 : Nat} {wh : (Nat → Int32)} {lf : (Nat → Int32)} {co : (Nat → Int32)} {wi : Int32} {ho : Int32} {tubs : Int32} {pegs : Int32} {pwi : Int32} {flags : Int32} {pco : (Nat → Int32)} {pcl : (Nat → Int32)} {phr : (Nat → Int32)} {pho : (Nat → Int32)} {x1 : Int32} {res : Bool} (h : fX8_canBeSent x1 wh tubs flags = some res) : KI l yX8_canBeSent wsX8_canBeSent ({ frames := 2, cells := 0, slots := 0, locals := 43 } : Room) D (tyA cyI cyZ cyW) zW zO [.ref w0, .int x1] (wWP cyI cyZ cyW w0 w1 w2 w3 p0 p1 p2 p3 p4 wh lf co wi ho tubs pegs pwi flags pco pcl phr pho) (wWP cyI cyZ cyW w0 w1 w2 w3 p0 p1 p2 p3 p4 wh lf co wi ho tubs pegs pwi flags pco pcl phr pho) (b2i res) := by
  refine enterI (cc := cX8_canBeSent) (nL := 2) (ret := (some .boolean)) (by decide) rfl (Nat.le_of_ble_eq_true rfl) (fun p e s m below meth c A C => ?_)
  refine r_lv (lv' := [(0, .ref w0), (1, .int x1)]) [0, 1] rfl ?_
  unfold fX8_canBeSent at h
  refine r_aload_n C dX8_canBeSent_0 0 rfl rfl ?_
  refine r_get (ci := 5) (CC := RX8) (T := TX8) (N := 6) (v := .ref p0) C hinX8_canBeSent_X8 0 rfl rfl 0 (by decide) mX8_canBeSent_1 rfl rfl dX8_canBeSent_1 ?_
  refine r_iload_n C dX8_canBeSent_4 1 rfl rfl ?_
  obtain ⟨u1, hu1, h⟩ := ob_bind h
  refine r_readVI (q0 := 0) (As := [.int x1]) (rest := []) C (kX4_has (p0 := p0) (p1 := p1) (p2 := p2) (p3 := p3) (p4 := p4) (tubs := tubs) (pegs := pegs) (pwi := pwi) (flags := flags) (pco := pco) (pcl := pcl) (phr := phr) (pho := pho) (x1 := x1) hu1) gX8_canBeSent_X4_has rfl rfl rfl ⟨rfl, hd_X4_has⟩ ⟨by decide, by decide⟩ rfl rfl rfl rfl [4, 5, 6, 7, 8] (by decide) in_28 rfl (Nat.le_of_ble_eq_true rfl) dX8_canBeSent_5 ⟨Nat.zero_le _, Nat.zero_le _⟩ ?_
  refine r_ifb_eq (tgt := 31) C dX8_canBeSent_8 (by decide) (fun c2 => ?_) (fun c2 => ?_)
  · replace h := ob_bf h c2
    refine r_iconst (v := 0) C dX8_canBeSent_31 ic_0 ?_
    have h9 := Option.some.inj h
    subst h9
    exact r_zret (b := false) C rfl dX8_canBeSent_32
  · replace h := ob_t h c2
    refine r_aload_n C dX8_canBeSent_11 0 rfl rfl ?_
    refine r_get (ci := 5) (CC := RX8) (T := TX8) (N := 6) (v := .ref w1) C hinX8_canBeSent_X8 0 rfl rfl 1 (by decide) mX8_canBeSent_2 rfl rfl dX8_canBeSent_12 ?_
    refine r_iload_n C dX8_canBeSent_15 1 rfl rfl ?_
    obtain ⟨hu3, h⟩ := ob_if h
    refine r_iald C 1 0 rfl rfl (inb_vp hu3) dX8_canBeSent_16 ?_
    refine r_if_ne (tgt := 31) C dX8_canBeSent_17 (by decide) (fun c4 => ?_) (fun c4 => ?_)
    · replace h := ob_f h c4
      refine r_iconst (v := 0) C dX8_canBeSent_31 ic_0 ?_
      have h9 := Option.some.inj h
      subst h9
      exact r_zret (b := false) C rfl dX8_canBeSent_32
    · replace h := ob_t h c4
      refine r_aload_n C dX8_canBeSent_20 0 rfl rfl ?_
      obtain ⟨u5, hu5, h⟩ := ob_bind h
      refine r_readVI (q0 := 0) (As := []) (rest := []) C (kX8_freeTubs (w0 := w0) (w1 := w1) (w2 := w2) (w3 := w3) (p0 := p0) (p1 := p1) (p2 := p2) (p3 := p3) (p4 := p4) (wh := wh) (lf := lf) (co := co) (wi := wi) (ho := ho) (tubs := tubs) (pegs := pegs) (pwi := pwi) (flags := flags) (pco := pco) (pcl := pcl) (phr := phr) (pho := pho)  hu5) gX8_canBeSent_X8_freeTubs rfl rfl rfl ⟨rfl, hd_X8_freeTubs⟩ ⟨by decide, by decide⟩ rfl rfl rfl rfl [0, 1, 2, 3, 4, 5, 6, 7, 8] (by decide) in_29 rfl (Nat.le_of_ble_eq_true rfl) dX8_canBeSent_21 ⟨Nat.zero_le _, Nat.zero_le _⟩ ?_
      refine r_if_le (tgt := 31) C dX8_canBeSent_24 (by decide) (fun c6 => ?_) (fun c6 => ?_)
      · replace h := ob_t h c6
        refine r_iconst (v := 0) C dX8_canBeSent_31 ic_0 ?_
        have h9 := Option.some.inj h
        subst h9
        exact r_zret (b := false) C rfl dX8_canBeSent_32
      · replace h := ob_f h c6
        refine r_iconst (v := 1) C dX8_canBeSent_27 ic_1 ?_
        refine r_goto (tgt := 32) C dX8_canBeSent_28 (by decide) ?_
        have h9 := Option.some.inj h
        subst h9
        exact r_zret (b := true) C rfl dX8_canBeSent_32

/-! ===== FlagWash$Wash.canBePulled ===== -/
def fX8_canBePulled  (x1 : Int32) (wh : (Nat → Int32)) (flags : Int32) : Option (Bool) :=
 ((fX4_has x1 flags).bind fun u1 => (if u1 = true then (if inb x1 5 = true then (if (wh x1.toNatClampNeg) = 0 then (some false)
 else (some true)) else none)
 else (some false)))
theorem hinX8_canBePulled_X8 : ∀ w ∈ u_ws RX8 TX8 6, w ∈ wsX8_canBePulled := fun w h => List.mem_cons_of_mem _ (List.mem_append_left _ (List.mem_append_right _ h))
theorem mX8_canBePulled_1 : Cond.fieldLink RX8 28 "FlagWash$Wash" "plan" "LFlagWash$Plan;" ∈ wsX8_canBePulled := List.mem_of_getElem? (i := 1) rfl
theorem mX8_canBePulled_2 : Cond.fieldLink RX8 9 "FlagWash$Wash" "where" "[I" ∈ wsX8_canBePulled := List.mem_of_getElem? (i := 2) rfl
theorem hd_X8_canBePulled : yX8_canBePulled.cls ≠ "java/lang/invoke/MethodHandle" ∧ yX8_canBePulled.cls ≠ "java/lang/invoke/VarHandle" ∧ (parseMethodDescriptor yX8_canBePulled.desc).map (fun d => d.parameters.length) = some 1 := by decide +kernel
set_option maxHeartbeats 4000000 in
set_option maxRecDepth 100000 in
theorem kX8_canBePulled {l : Launch} {D : va_G} {cyI cyZ cyW : ClassId} {zW zO : Nat} {w0 : Nat} {w1 : Nat} {w2 : Nat} {w3 : Nat} {p0 : Nat} {p1 : Nat} {p2 : Nat} {p3 : Nat} {p4 : Nat} {wh : (Nat → Int32)} {lf : (Nat → Int32)} {co : (Nat → Int32)} {wi : Int32} {ho : Int32} {tubs : Int32} {pegs : Int32} {pwi : Int32} {flags : Int32} {pco : (Nat → Int32)} {pcl : (Nat → Int32)} {phr : (Nat → Int32)} {pho : (Nat → Int32)} {x1 : Int32} {res : Bool} (h : fX8_canBePulled x1 wh flags = some res) : KI l yX8_canBePulled wsX8_canBePulled ({ frames := 1, cells := 0, slots := 0, locals := 21 } : Room) D (tyA cyI cyZ cyW) zW zO [.ref w0, .int x1] (wWP cyI cyZ cyW w0 w1 w2 w3 p0 p1 p2 p3 p4 wh lf co wi ho tubs pegs pwi flags pco pcl phr pho) (wWP cyI cyZ cyW w0 w1 w2 w3 p0 p1 p2 p3 p4 wh lf co wi ho tubs pegs pwi flags pco pcl phr pho) (b2i res) := by
  refine enterI (cc := cX8_canBePulled) (nL := 2) (ret := (some .boolean)) (by decide) rfl (Nat.le_of_ble_eq_true rfl) (fun p e s m below meth c A C => ?_)
  refine r_lv (lv' := [(0, .ref w0), (1, .int x1)]) [0, 1] rfl ?_
  unfold fX8_canBePulled at h
  refine r_aload_n C dX8_canBePulled_0 0 rfl rfl ?_
  refine r_get (ci := 5) (CC := RX8) (T := TX8) (N := 6) (v := .ref p0) C hinX8_canBePulled_X8 0 rfl rfl 0 (by decide) mX8_canBePulled_1 rfl rfl dX8_canBePulled_1 ?_
  refine r_iload_n C dX8_canBePulled_4 1 rfl rfl ?_
  obtain ⟨u1, hu1, h⟩ := ob_bind h
  refine r_readVI (q0 := 0) (As := [.int x1]) (rest := []) C (kX4_has (p0 := p0) (p1 := p1) (p2 := p2) (p3 := p3) (p4 := p4) (tubs := tubs) (pegs := pegs) (pwi := pwi) (flags := flags) (pco := pco) (pcl := pcl) (phr := phr) (pho := pho) (x1 := x1) hu1) gX8_canBePulled_X4_has rfl rfl rfl ⟨rfl, hd_X4_has⟩ ⟨by decide, by decide⟩ rfl rfl rfl rfl [4, 5, 6, 7, 8] (by decide) in_28 rfl (Nat.le_of_ble_eq_true rfl) dX8_canBePulled_5 ⟨Nat.zero_le _, Nat.zero_le _⟩ ?_
  refine r_ifb_eq (tgt := 24) C dX8_canBePulled_8 (by decide) (fun c2 => ?_) (fun c2 => ?_)
  · replace h := ob_bf h c2
    refine r_iconst (v := 0) C dX8_canBePulled_24 ic_0 ?_
    have h9 := Option.some.inj h
    subst h9
    exact r_zret (b := false) C rfl dX8_canBePulled_25
  · replace h := ob_t h c2
    refine r_aload_n C dX8_canBePulled_11 0 rfl rfl ?_
    refine r_get (ci := 5) (CC := RX8) (T := TX8) (N := 6) (v := .ref w1) C hinX8_canBePulled_X8 0 rfl rfl 1 (by decide) mX8_canBePulled_2 rfl rfl dX8_canBePulled_12 ?_
    refine r_iload_n C dX8_canBePulled_15 1 rfl rfl ?_
    obtain ⟨hu3, h⟩ := ob_if h
    refine r_iald C 1 0 rfl rfl (inb_vp hu3) dX8_canBePulled_16 ?_
    refine r_if_eq (tgt := 24) C dX8_canBePulled_17 (by decide) (fun c4 => ?_) (fun c4 => ?_)
    · replace h := ob_t h c4
      refine r_iconst (v := 0) C dX8_canBePulled_24 ic_0 ?_
      have h9 := Option.some.inj h
      subst h9
      exact r_zret (b := false) C rfl dX8_canBePulled_25
    · replace h := ob_f h c4
      refine r_iconst (v := 1) C dX8_canBePulled_20 ic_1 ?_
      refine r_goto (tgt := 25) C dX8_canBePulled_21 (by decide) ?_
      have h9 := Option.some.inj h
      subst h9
      exact r_zret (b := true) C rfl dX8_canBePulled_25

/-! ===== FlagWash$Wash.sendIfItCan ===== -/
def fX8_sendIfItCan  (x1 : Int32) (wh : (Nat → Int32)) (lf : (Nat → Int32)) (tubs : Int32) (flags : Int32) (phr : (Nat → Int32)) : Option (Bool × (Nat → Int32) × (Nat → Int32)) :=
 ((fX8_canBeSent x1 wh tubs flags).bind fun u1 => (if u1 = true then ((fX8_putInTub x1 wh lf flags phr).bind fun u3 => (some (u1, u3.1, u3.2)))
 else (some (u1, wh, lf))))
theorem hd_X8_sendIfItCan : yX8_sendIfItCan.cls ≠ "java/lang/invoke/MethodHandle" ∧ yX8_sendIfItCan.cls ≠ "java/lang/invoke/VarHandle" ∧ (parseMethodDescriptor yX8_sendIfItCan.desc).map (fun d => d.parameters.length) = some 1 := by decide +kernel
set_option maxHeartbeats 4000000 in
set_option maxRecDepth 100000 in
theorem kX8_sendIfItCan {l : Launch} {D : va_G} {cyI cyZ cyW : ClassId} {zW zO : Nat} {w0 : Nat} {w1 : Nat} {w2 : Nat} {w3 : Nat} {p0 : Nat} {p1 : Nat} {p2 : Nat} {p3 : Nat} {p4 : Nat} {wh : (Nat → Int32)} {lf : (Nat → Int32)} {co : (Nat → Int32)} {wi : Int32} {ho : Int32} {tubs : Int32} {pegs : Int32} {pwi : Int32} {flags : Int32} {pco : (Nat → Int32)} {pcl : (Nat → Int32)} {phr : (Nat → Int32)} {pho : (Nat → Int32)} {x1 : Int32} {res : Bool × (Nat → Int32) × (Nat → Int32)} (h : fX8_sendIfItCan x1 wh lf tubs flags phr = some res) : KI l yX8_sendIfItCan wsX8_sendIfItCan ({ frames := 3, cells := 0, slots := 0, locals := 64 } : Room) D (tyA cyI cyZ cyW) zW zO [.ref w0, .int x1] (wWP cyI cyZ cyW w0 w1 w2 w3 p0 p1 p2 p3 p4 wh lf co wi ho tubs pegs pwi flags pco pcl phr pho) (wWP cyI cyZ cyW w0 w1 w2 w3 p0 p1 p2 p3 p4 res.2.1 res.2.2 co wi ho tubs pegs pwi flags pco pcl phr pho) (b2i res.1) := by
  refine enterI (cc := cX8_sendIfItCan) (nL := 3) (ret := (some .boolean)) (by decide) rfl (Nat.le_of_ble_eq_true rfl) (fun p e s m below meth c A C => ?_)
  refine r_lv (lv' := [(0, .ref w0), (1, .int x1)]) [0, 1] rfl ?_
  unfold fX8_sendIfItCan at h
  refine r_aload_n C dX8_sendIfItCan_0 0 rfl rfl ?_
  refine r_iload_n C dX8_sendIfItCan_1 1 rfl rfl ?_
  obtain ⟨u1, hu1, h⟩ := ob_bind h
  refine r_readVI (q0 := 0) (As := [.int x1]) (rest := []) C (kX8_canBeSent (w0 := w0) (w1 := w1) (w2 := w2) (w3 := w3) (p0 := p0) (p1 := p1) (p2 := p2) (p3 := p3) (p4 := p4) (wh := wh) (lf := lf) (co := co) (wi := wi) (ho := ho) (tubs := tubs) (pegs := pegs) (pwi := pwi) (flags := flags) (pco := pco) (pcl := pcl) (phr := phr) (pho := pho) (x1 := x1) hu1) gX8_sendIfItCan_X8_canBeSent rfl rfl rfl ⟨rfl, hd_X8_canBeSent⟩ ⟨by decide, by decide⟩ rfl rfl rfl rfl [0, 1, 2, 3, 4, 5, 6, 7, 8] (by decide) in_29 rfl (Nat.le_of_ble_eq_true rfl) dX8_sendIfItCan_2 ⟨Nat.zero_le _, Nat.zero_le _⟩ ?_
  refine r_istore_n (lv' := [(2, .int (b2i u1)), (0, .ref w0), (1, .int x1)]) C dX8_sendIfItCan_5 rfl (by decide) rfl ?_
  refine r_iload_n C dX8_sendIfItCan_6 0 rfl rfl ?_
  refine r_ifb_eq (tgt := 15) C dX8_sendIfItCan_7 (by decide) (fun c2 => ?_) (fun c2 => ?_)
  · replace h := ob_bf h c2
    refine r_iload_n C dX8_sendIfItCan_15 0 rfl rfl ?_
    have h9 := Option.some.inj h
    subst h9
    exact r_zret (b := u1) C rfl dX8_sendIfItCan_16
  · replace h := ob_t h c2
    refine r_aload_n C dX8_sendIfItCan_10 1 rfl rfl ?_
    refine r_iload_n C dX8_sendIfItCan_11 2 rfl rfl ?_
    obtain ⟨u3, hu3, h⟩ := ob_bind h
    refine r_callVV (q0 := 0) (As := [.int x1]) (rest := []) (ws1 := (wWP cyI cyZ cyW w0 w1 w2 w3 p0 p1 p2 p3 p4 u3.1 u3.2 co wi ho tubs pegs pwi flags pco pcl phr pho)) C (kX8_putInTub (w0 := w0) (w1 := w1) (w2 := w2) (w3 := w3) (p0 := p0) (p1 := p1) (p2 := p2) (p3 := p3) (p4 := p4) (wh := wh) (lf := lf) (co := co) (wi := wi) (ho := ho) (tubs := tubs) (pegs := pegs) (pwi := pwi) (flags := flags) (pco := pco) (pcl := pcl) (phr := phr) (pho := pho) (x1 := x1) hu3) gX8_sendIfItCan_X8_putInTub rfl rfl rfl ⟨rfl, hd_X8_putInTub⟩ ⟨by decide, by decide⟩ rfl rfl rfl rfl [0, 1, 2, 3, 4, 5, 6, 7, 8] (by decide) in_30 se_30 (adrWP.trans adrWP.symm) rfl (Nat.le_of_ble_eq_true rfl) dX8_sendIfItCan_12 ⟨Nat.zero_le _, Nat.zero_le _⟩ ?_
    refine r_iload_n C dX8_sendIfItCan_15 0 rfl rfl ?_
    have h9 := Option.some.inj h
    subst h9
    exact r_zret (b := u1) C rfl dX8_sendIfItCan_16

/-! ===== FlagWash$Wash.doFigure ===== -/
def fX8_doFigure  (x1 : Int32) (wh : (Nat → Int32)) (lf : (Nat → Int32)) (co : (Nat → Int32)) (wi : Int32) (ho : Int32) (tubs : Int32) (pegs : Int32) (flags : Int32) (pcl : (Nat → Int32)) (phr : (Nat → Int32)) : Option (Bool × (Nat → Int32) × (Nat → Int32) × (Nat → Int32) × Int32) :=
 (if x1 = 0 then ((fX8_passHour wh lf co wi ho pegs flags pcl).bind fun u7 => (some (true, u7.2.1, u7.2.2.1, u7.2.2.2.1, u7.2.2.2.2)))
 else (if (5 : Int32) < x1 then ((fX8_canBePulled (x1 - (6 : Int32)) wh flags).bind fun u3 => (if u3 = true then ((fX8_bringHome (x1 - (6 : Int32)) wh lf flags).bind fun u5 => (some (u3, u5.1, u5.2, co, ho)))
 else (some (u3, wh, lf, co, ho))))
 else ((fX8_sendIfItCan (x1 - (1 : Int32)) wh lf tubs flags phr).bind fun u6 => (some (u6.1, u6.2.1, u6.2.2, co, ho)))))
theorem hd_X8_doFigure : yX8_doFigure.cls ≠ "java/lang/invoke/MethodHandle" ∧ yX8_doFigure.cls ≠ "java/lang/invoke/VarHandle" ∧ (parseMethodDescriptor yX8_doFigure.desc).map (fun d => d.parameters.length) = some 1 := by decide +kernel
set_option maxHeartbeats 4000000 in
set_option maxRecDepth 100000 in
theorem kX8_doFigure {l : Launch} {D : va_G} {cyI cyZ cyW : ClassId} {zW zO : Nat} {w0 : Nat} {w1 : Nat} {w2 : Nat} {w3 : Nat} {p0 : Nat} {p1 : Nat} {p2 : Nat} {p3 : Nat} {p4 : Nat} {wh : (Nat → Int32)} {lf : (Nat → Int32)} {co : (Nat → Int32)} {wi : Int32} {ho : Int32} {tubs : Int32} {pegs : Int32} {pwi : Int32} {flags : Int32} {pco : (Nat → Int32)} {pcl : (Nat → Int32)} {phr : (Nat → Int32)} {pho : (Nat → Int32)} {x1 : Int32} {res : Bool × (Nat → Int32) × (Nat → Int32) × (Nat → Int32) × Int32} (h : fX8_doFigure x1 wh lf co wi ho tubs pegs flags pcl phr = some res) : KI l yX8_doFigure wsX8_doFigure ({ frames := 4, cells := 0, slots := 0, locals := 86 } : Room) D (tyA cyI cyZ cyW) zW zO [.ref w0, .int x1] (wWP cyI cyZ cyW w0 w1 w2 w3 p0 p1 p2 p3 p4 wh lf co wi ho tubs pegs pwi flags pco pcl phr pho) (wWP cyI cyZ cyW w0 w1 w2 w3 p0 p1 p2 p3 p4 res.2.1 res.2.2.1 res.2.2.2.1 wi res.2.2.2.2 tubs pegs pwi flags pco pcl phr pho) (b2i res.1) := by
  refine enterI (cc := cX8_doFigure) (nL := 3) (ret := (some .boolean)) (by decide) rfl (Nat.le_of_ble_eq_true rfl) (fun p e s m below meth c A C => ?_)
  refine r_lv (lv' := [(0, .ref w0), (1, .int x1)]) [0, 1] rfl ?_
  unfold fX8_doFigure at h
  refine r_iload_n C dX8_doFigure_0 1 rfl rfl ?_
  refine r_if_ne (tgt := 11) C dX8_doFigure_1 (by decide) (fun c1 => ?_) (fun c1 => ?_)
  · replace h := ob_f h c1
    refine r_iload_n C dX8_doFigure_11 1 rfl rfl ?_
    refine r_iconst (v := 5) C dX8_doFigure_12 ic_5 ?_
    refine r_icmp_gt (tgt := 24) C dX8_doFigure_13 (by decide) (fun c2 => ?_) (fun c2 => ?_)
    · replace h := ob_t h c2
      refine r_aload_n C dX8_doFigure_24 0 rfl rfl ?_
      refine r_iload_n C dX8_doFigure_25 1 rfl rfl ?_
      refine r_bipush (v := 6) C dX8_doFigure_26 bp_6 ?_
      refine r_isub C dX8_doFigure_28 ?_
      obtain ⟨u3, hu3, h⟩ := ob_bind h
      refine r_readVI (q0 := 0) (As := [.int (x1 - (6 : Int32))]) (rest := []) C (kX8_canBePulled (w0 := w0) (w1 := w1) (w2 := w2) (w3 := w3) (p0 := p0) (p1 := p1) (p2 := p2) (p3 := p3) (p4 := p4) (wh := wh) (lf := lf) (co := co) (wi := wi) (ho := ho) (tubs := tubs) (pegs := pegs) (pwi := pwi) (flags := flags) (pco := pco) (pcl := pcl) (phr := phr) (pho := pho) (x1 := (x1 - (6 : Int32))) hu3) gX8_doFigure_X8_canBePulled rfl rfl rfl ⟨rfl, hd_X8_canBePulled⟩ ⟨by decide, by decide⟩ rfl rfl rfl rfl [0, 1, 2, 3, 4, 5, 6, 7, 8] (by decide) in_29 rfl (Nat.le_of_ble_eq_true rfl) dX8_doFigure_29 ⟨Nat.zero_le _, Nat.zero_le _⟩ ?_
      refine r_istore_n (lv' := [(2, .int (b2i u3)), (0, .ref w0), (1, .int x1)]) C dX8_doFigure_32 rfl (by decide) rfl ?_
      refine r_iload_n C dX8_doFigure_33 0 rfl rfl ?_
      refine r_ifb_eq (tgt := 45) C dX8_doFigure_34 (by decide) (fun c4 => ?_) (fun c4 => ?_)
      · replace h := ob_bf h c4
        refine r_iload_n C dX8_doFigure_45 0 rfl rfl ?_
        have h9 := Option.some.inj h
        subst h9
        exact r_zret (b := u3) C rfl dX8_doFigure_46
      · replace h := ob_t h c4
        refine r_aload_n C dX8_doFigure_37 1 rfl rfl ?_
        refine r_iload_n C dX8_doFigure_38 2 rfl rfl ?_
        refine r_bipush (v := 6) C dX8_doFigure_39 bp_6 ?_
        refine r_isub C dX8_doFigure_41 ?_
        obtain ⟨u5, hu5, h⟩ := ob_bind h
        refine r_callVV (q0 := 0) (As := [.int (x1 - (6 : Int32))]) (rest := []) (ws1 := (wWP cyI cyZ cyW w0 w1 w2 w3 p0 p1 p2 p3 p4 u5.1 u5.2 co wi ho tubs pegs pwi flags pco pcl phr pho)) C (kX8_bringHome (w0 := w0) (w1 := w1) (w2 := w2) (w3 := w3) (p0 := p0) (p1 := p1) (p2 := p2) (p3 := p3) (p4 := p4) (wh := wh) (lf := lf) (co := co) (wi := wi) (ho := ho) (tubs := tubs) (pegs := pegs) (pwi := pwi) (flags := flags) (pco := pco) (pcl := pcl) (phr := phr) (pho := pho) (x1 := (x1 - (6 : Int32))) hu5) gX8_doFigure_X8_bringHome rfl rfl rfl ⟨rfl, hd_X8_bringHome⟩ ⟨by decide, by decide⟩ rfl rfl rfl rfl [0, 1, 2, 3, 4, 5, 6, 7, 8] (by decide) in_30 se_30 (adrWP.trans adrWP.symm) rfl (Nat.le_of_ble_eq_true rfl) dX8_doFigure_42 ⟨Nat.zero_le _, Nat.zero_le _⟩ ?_
        refine r_iload_n C dX8_doFigure_45 0 rfl rfl ?_
        have h9 := Option.some.inj h
        subst h9
        exact r_zret (b := u3) C rfl dX8_doFigure_46
    · replace h := ob_f h c2
      refine r_aload_n C dX8_doFigure_16 0 rfl rfl ?_
      refine r_iload_n C dX8_doFigure_17 1 rfl rfl ?_
      refine r_iconst (v := 1) C dX8_doFigure_18 ic_1 ?_
      refine r_isub C dX8_doFigure_19 ?_
      obtain ⟨u6, hu6, h⟩ := ob_bind h
      refine r_callVI (q0 := 0) (As := [.int (x1 - (1 : Int32))]) (rest := []) (ws1 := (wWP cyI cyZ cyW w0 w1 w2 w3 p0 p1 p2 p3 p4 u6.2.1 u6.2.2 co wi ho tubs pegs pwi flags pco pcl phr pho)) C (kX8_sendIfItCan (w0 := w0) (w1 := w1) (w2 := w2) (w3 := w3) (p0 := p0) (p1 := p1) (p2 := p2) (p3 := p3) (p4 := p4) (wh := wh) (lf := lf) (co := co) (wi := wi) (ho := ho) (tubs := tubs) (pegs := pegs) (pwi := pwi) (flags := flags) (pco := pco) (pcl := pcl) (phr := phr) (pho := pho) (x1 := (x1 - (1 : Int32))) hu6) gX8_doFigure_X8_sendIfItCan rfl rfl rfl ⟨rfl, hd_X8_sendIfItCan⟩ ⟨by decide, by decide⟩ rfl rfl rfl rfl [0, 1, 2, 3, 4, 5, 6, 7, 8] (by decide) in_30 se_30 (adrWP.trans adrWP.symm) rfl (Nat.le_of_ble_eq_true rfl) dX8_doFigure_20 ⟨Nat.zero_le _, Nat.zero_le _⟩ ?_
      have h9 := Option.some.inj h
      subst h9
      exact r_zret (b := u6.1) C rfl dX8_doFigure_23
  · replace h := ob_t h c1
    refine r_aload_n C dX8_doFigure_4 0 rfl rfl ?_
    obtain ⟨u7, hu7, h⟩ := ob_bind h
    refine r_callVI (q0 := 0) (As := []) (rest := []) (ws1 := (wWP cyI cyZ cyW w0 w1 w2 w3 p0 p1 p2 p3 p4 u7.2.1 u7.2.2.1 u7.2.2.2.1 wi u7.2.2.2.2 tubs pegs pwi flags pco pcl phr pho)) C (kX8_passHour (w0 := w0) (w1 := w1) (w2 := w2) (w3 := w3) (p0 := p0) (p1 := p1) (p2 := p2) (p3 := p3) (p4 := p4) (wh := wh) (lf := lf) (co := co) (wi := wi) (ho := ho) (tubs := tubs) (pegs := pegs) (pwi := pwi) (flags := flags) (pco := pco) (pcl := pcl) (phr := phr) (pho := pho)  hu7) gX8_doFigure_X8_passHour rfl rfl rfl ⟨rfl, hd_X8_passHour⟩ ⟨by decide, by decide⟩ rfl rfl rfl rfl [0, 1, 2, 3, 4, 5, 6, 7, 8] (by decide) in_53 se_53 (adrWP.trans adrWP.symm) rfl (Nat.le_of_ble_eq_true rfl) dX8_doFigure_5 ⟨Nat.zero_le _, Nat.zero_le _⟩ ?_
    refine r_pop C dX8_doFigure_8 rfl ?_
    refine r_iconst (v := 1) C dX8_doFigure_9 ic_1 ?_
    have h9 := Option.some.inj h
    subst h9
    exact r_zret (b := true) C rfl dX8_doFigure_10
