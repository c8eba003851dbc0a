/-! ===== FlagWash$Wash.copyFrom ===== -/
def fX8_copyFrom  (wh : (Nat → Int32)) (lf : (Nat → Int32)) (co : (Nat → Int32)) (owh : (Nat → Int32)) (olf : (Nat → Int32)) (oco : (Nat → Int32)) (owi : Int32) (oho : Int32) : Option ((Nat → Int32) × (Nat → Int32) × (Nat → Int32) × Int32 × Int32) :=
 (some ((va_cpy owh wh (0 : Int32).toNatClampNeg (0 : Int32).toNatClampNeg (5 : Int32).toNatClampNeg), (va_cpy olf lf (0 : Int32).toNatClampNeg (0 : Int32).toNatClampNeg (5 : Int32).toNatClampNeg), (va_cpy oco co (0 : Int32).toNatClampNeg (0 : Int32).toNatClampNeg (5 : Int32).toNatClampNeg), owi, oho))
theorem hinX8_copyFrom_X8 : ∀ w ∈ u_ws RX8 TX8 6, w ∈ wsX8_copyFrom := fun w h => List.mem_cons_of_mem _ (List.mem_append_right _ h)
theorem mX8_copyFrom_1 : Cond.fieldLink RX8 9 "FlagWash$Wash" "where" "[I" ∈ wsX8_copyFrom := List.mem_of_getElem? (i := 1) rfl
theorem mX8_copyFrom_2 : Cond.methodLink RX8 36 arraycopyName ∈ wsX8_copyFrom := List.mem_of_getElem? (i := 2) rfl
theorem mX8_copyFrom_3 : Cond.native arraycopyName ∈ wsX8_copyFrom := List.mem_of_getElem? (i := 3) rfl
theorem mX8_copyFrom_4 : Cond.static arraycopyName ∈ wsX8_copyFrom := List.mem_of_getElem? (i := 4) rfl
theorem mX8_copyFrom_5 : Cond.initialized "java/lang/System" ∈ wsX8_copyFrom := List.mem_of_getElem? (i := 5) rfl
theorem mX8_copyFrom_6 : Cond.fieldLink RX8 15 "FlagWash$Wash" "left" "[I" ∈ wsX8_copyFrom := List.mem_of_getElem? (i := 6) rfl
theorem mX8_copyFrom_7 : Cond.fieldLink RX8 18 "FlagWash$Wash" "colours" "[I" ∈ wsX8_copyFrom := List.mem_of_getElem? (i := 7) rfl
theorem mX8_copyFrom_8 : Cond.fieldLink RX8 21 "FlagWash$Wash" "wind" "I" ∈ wsX8_copyFrom := List.mem_of_getElem? (i := 8) rfl
theorem mX8_copyFrom_9 : Cond.fieldLink RX8 25 "FlagWash$Wash" "hour" "I" ∈ wsX8_copyFrom := List.mem_of_getElem? (i := 9) rfl
theorem hd_X8_copyFrom : yX8_copyFrom.cls ≠ "java/lang/invoke/MethodHandle" ∧ yX8_copyFrom.cls ≠ "java/lang/invoke/VarHandle" ∧ (parseMethodDescriptor yX8_copyFrom.desc).map (fun d => d.parameters.length) = some 1 := by decide +kernel
set_option maxHeartbeats 4000000 in
set_option maxRecDepth 100000 in
theorem kX8_copyFrom {l : Launch} {D : va_G} {cyI cyZ cyW : ClassId} {zW zO : Nat} {w0 : Nat} {w1 : Nat} {w2 : Nat} {w3 : Nat} {v0 : Nat} {v1 : Nat} {v2 : Nat} {v3 : Nat} {p0 : Nat} {wh : (Nat → Int32)} {lf : (Nat → Int32)} {co : (Nat → Int32)} {wi : Int32} {ho : Int32} {owh : (Nat → Int32)} {olf : (Nat → Int32)} {oco : (Nat → Int32)} {owi : Int32} {oho : Int32}  {res : (Nat → Int32) × (Nat → Int32) × (Nat → Int32) × Int32 × Int32} (h : fX8_copyFrom wh lf co owh olf oco owi oho = some res) : KV l yX8_copyFrom wsX8_copyFrom ({ frames := 1, cells := 0, slots := 0, locals := 18 } : Room) D (tyA cyI cyZ cyW) zW zO [.ref w0, .ref v0] (wW2 cyI cyZ cyW w0 w1 w2 w3 v0 v1 v2 v3 p0 wh lf co wi ho owh olf oco owi oho) (wW2 cyI cyZ cyW w0 w1 w2 w3 v0 v1 v2 v3 p0 res.1 res.2.1 res.2.2.1 res.2.2.2.1 res.2.2.2.2 owh olf oco owi oho) := by
  refine enterV (cc := cX8_copyFrom) (nL := 2) (ret := none) (by decide) rfl (Nat.le_of_ble_eq_true rfl) (fun p e s m below meth c A C => ?_)
  refine r_lv (lv' := [(0, .ref w0), (1, .ref v0)]) [0, 1] rfl ?_
  unfold fX8_copyFrom at h
  refine r_aload_n C dX8_copyFrom_0 1 rfl rfl ?_
  refine r_get (ci := 5) (CC := RX8) (T := TX8) (N := 6) (v := .ref v1) C hinX8_copyFrom_X8 4 rfl rfl 1 (by decide) mX8_copyFrom_1 rfl rfl dX8_copyFrom_1 ?_
  refine r_iconst (v := 0) C dX8_copyFrom_4 ic_0 ?_
  refine r_aload_n C dX8_copyFrom_5 0 rfl rfl ?_
  refine r_get (ci := 5) (CC := RX8) (T := TX8) (N := 6) (v := .ref w1) C hinX8_copyFrom_X8 0 rfl rfl 1 (by decide) mX8_copyFrom_1 rfl rfl dX8_copyFrom_6 ?_
  refine r_iconst (v := 0) C dX8_copyFrom_9 ic_0 ?_
  refine r_iconst (v := 5) C dX8_copyFrom_10 ic_5 ?_
  refine r_copy (ws1 := (wW2 cyI cyZ cyW w0 w1 w2 w3 v0 v1 v2 v3 p0 (va_cpy owh wh (0 : Int32).toNatClampNeg (0 : Int32).toNatClampNeg (5 : Int32).toNatClampNeg) lf co wi ho owh olf oco owi oho)) C mX8_copyFrom_2 mX8_copyFrom_3 mX8_copyFrom_4 mX8_copyFrom_5 5 1 0 rfl rfl rfl (by decide) (by decide) (by decide) (by decide) (by decide) (by decide) (by decide) rfl dX8_copyFrom_11 ?_
  refine r_aload_n C dX8_copyFrom_14 1 rfl rfl ?_
  refine r_get (ci := 5) (CC := RX8) (T := TX8) (N := 6) (v := .ref v2) C hinX8_copyFrom_X8 4 rfl rfl 2 (by decide) mX8_copyFrom_6 rfl rfl dX8_copyFrom_15 ?_
  refine r_iconst (v := 0) C dX8_copyFrom_18 ic_0 ?_
  refine r_aload_n C dX8_copyFrom_19 0 rfl rfl ?_
  refine r_get (ci := 5) (CC := RX8) (T := TX8) (N := 6) (v := .ref w2) C hinX8_copyFrom_X8 0 rfl rfl 2 (by decide) mX8_copyFrom_6 rfl rfl dX8_copyFrom_20 ?_
  refine r_iconst (v := 0) C dX8_copyFrom_23 ic_0 ?_
  refine r_iconst (v := 5) C dX8_copyFrom_24 ic_5 ?_
  refine r_copy (ws1 := (wW2 cyI cyZ cyW w0 w1 w2 w3 v0 v1 v2 v3 p0 (va_cpy owh wh (0 : Int32).toNatClampNeg (0 : Int32).toNatClampNeg (5 : Int32).toNatClampNeg) (va_cpy olf lf (0 : Int32).toNatClampNeg (0 : Int32).toNatClampNeg (5 : Int32).toNatClampNeg) co wi ho owh olf oco owi oho)) C mX8_copyFrom_2 mX8_copyFrom_3 mX8_copyFrom_4 mX8_copyFrom_5 6 2 0 rfl rfl rfl (by decide) (by decide) (by decide) (by decide) (by decide) (by decide) (by decide) rfl dX8_copyFrom_25 ?_
  refine r_aload_n C dX8_copyFrom_28 1 rfl rfl ?_
  refine r_get (ci := 5) (CC := RX8) (T := TX8) (N := 6) (v := .ref v3) C hinX8_copyFrom_X8 4 rfl rfl 3 (by decide) mX8_copyFrom_7 rfl rfl dX8_copyFrom_29 ?_
  refine r_iconst (v := 0) C dX8_copyFrom_32 ic_0 ?_
  refine r_aload_n C dX8_copyFrom_33 0 rfl rfl ?_
  refine r_get (ci := 5) (CC := RX8) (T := TX8) (N := 6) (v := .ref w3) C hinX8_copyFrom_X8 0 rfl rfl 3 (by decide) mX8_copyFrom_7 rfl rfl dX8_copyFrom_34 ?_
  refine r_iconst (v := 0) C dX8_copyFrom_37 ic_0 ?_
  refine r_iconst (v := 5) C dX8_copyFrom_38 ic_5 ?_
  refine r_copy (ws1 := (wW2 cyI cyZ cyW w0 w1 w2 w3 v0 v1 v2 v3 p0 (va_cpy owh wh (0 : Int32).toNatClampNeg (0 : Int32).toNatClampNeg (5 : Int32).toNatClampNeg) (va_cpy olf lf (0 : Int32).toNatClampNeg (0 : Int32).toNatClampNeg (5 : Int32).toNatClampNeg) (va_cpy oco co (0 : Int32).toNatClampNeg (0 : Int32).toNatClampNeg (5 : Int32).toNatClampNeg) wi ho owh olf oco owi oho)) C mX8_copyFrom_2 mX8_copyFrom_3 mX8_copyFrom_4 mX8_copyFrom_5 7 3 0 rfl rfl rfl (by decide) (by decide) (by decide) (by decide) (by decide) (by decide) (by decide) rfl dX8_copyFrom_39 ?_
  refine r_aload_n C dX8_copyFrom_42 0 rfl rfl ?_
  refine r_aload_n C dX8_copyFrom_43 1 rfl rfl ?_
  refine r_get (ci := 5) (CC := RX8) (T := TX8) (N := 6) (v := .int owi) C hinX8_copyFrom_X8 4 rfl rfl 4 (by decide) mX8_copyFrom_8 rfl rfl dX8_copyFrom_44 ?_
  refine r_put (ci := 5) (CC := RX8) (T := TX8) (N := 6) (v := .int owi) (ws1 := (wW2 cyI cyZ cyW w0 w1 w2 w3 v0 v1 v2 v3 p0 (va_cpy owh wh (0 : Int32).toNatClampNeg (0 : Int32).toNatClampNeg (5 : Int32).toNatClampNeg) (va_cpy olf lf (0 : Int32).toNatClampNeg (0 : Int32).toNatClampNeg (5 : Int32).toNatClampNeg) (va_cpy oco co (0 : Int32).toNatClampNeg (0 : Int32).toNatClampNeg (5 : Int32).toNatClampNeg) owi ho owh olf oco owi oho)) (ty := .int) C hinX8_copyFrom_X8 tyX8 tyX8_ok nmX8 0 rfl rfl 4 (by decide) mX8_copyFrom_8 rfl rfl rfl rfl rfl (Nat.le_of_ble_eq_true rfl) rfl dX8_copyFrom_47 ?_
  refine r_aload_n C dX8_copyFrom_50 0 rfl rfl ?_
  refine r_aload_n C dX8_copyFrom_51 1 rfl rfl ?_
  refine r_get (ci := 5) (CC := RX8) (T := TX8) (N := 6) (v := .int oho) C hinX8_copyFrom_X8 4 rfl rfl 5 (by decide) mX8_copyFrom_9 rfl rfl dX8_copyFrom_52 ?_
  refine r_put (ci := 5) (CC := RX8) (T := TX8) (N := 6) (v := .int oho) (ws1 := (wW2 cyI cyZ cyW w0 w1 w2 w3 v0 v1 v2 v3 p0 (va_cpy owh wh (0 : Int32).toNatClampNeg (0 : Int32).toNatClampNeg (5 : Int32).toNatClampNeg) (va_cpy olf lf (0 : Int32).toNatClampNeg (0 : Int32).toNatClampNeg (5 : Int32).toNatClampNeg) (va_cpy oco co (0 : Int32).toNatClampNeg (0 : Int32).toNatClampNeg (5 : Int32).toNatClampNeg) owi oho owh olf oco owi oho)) (ty := .int) C hinX8_copyFrom_X8 tyX8 tyX8_ok nmX8 0 rfl rfl 5 (by decide) mX8_copyFrom_9 rfl rfl rfl rfl rfl (Nat.le_of_ble_eq_true rfl) rfl dX8_copyFrom_55 ?_
  have h9 := Option.some.inj h
  subst h9
  exact r_vret C rfl dX8_copyFrom_58

/-! ===== FlagWash$Wash.putInTub ===== -/
def fX8_putInTub  (x1 : Int32) (wh : (Nat → Int32)) (lf : (Nat → Int32)) (flags : Int32) (phr : (Nat → Int32)) : Option ((Nat → Int32) × (Nat → Int32)) :=
 ((fX4_has x1 flags).bind fun u1 => (if u1 = true then (if inb x1 5 = true then (if inb x1 5 = true then (if inb x1 5 = true then (some ((upd wh x1.toNatClampNeg (1 : Int32)), (upd lf x1.toNatClampNeg (phr x1.toNatClampNeg)))) else none) else none) else none)
 else (some (wh, lf))))
theorem hinX8_putInTub_X8 : ∀ w ∈ u_ws RX8 TX8 6, w ∈ wsX8_putInTub := fun w h => List.mem_cons_of_mem _ (List.mem_append_left _ (List.mem_append_right _ h))
theorem mX8_putInTub_1 : Cond.fieldLink RX8 28 "FlagWash$Wash" "plan" "LFlagWash$Plan;" ∈ wsX8_putInTub := List.mem_of_getElem? (i := 1) rfl
theorem mX8_putInTub_2 : Cond.fieldLink RX8 9 "FlagWash$Wash" "where" "[I" ∈ wsX8_putInTub := List.mem_of_getElem? (i := 2) rfl
theorem mX8_putInTub_3 : Cond.fieldLink RX8 15 "FlagWash$Wash" "left" "[I" ∈ wsX8_putInTub := List.mem_of_getElem? (i := 3) rfl
theorem hinX8_putInTub_X4 : ∀ w ∈ u_ws RX4 TX4 8, w ∈ wsX8_putInTub := fun w h => List.mem_cons_of_mem _ (List.mem_append_right _ h)
theorem mX8_putInTub_4 : Cond.fieldLink RX8 74 "FlagWash$Plan" "hours" "[I" ∈ wsX8_putInTub := List.mem_of_getElem? (i := 4) rfl
theorem hd_X8_putInTub : yX8_putInTub.cls ≠ "java/lang/invoke/MethodHandle" ∧ yX8_putInTub.cls ≠ "java/lang/invoke/VarHandle" ∧ (parseMethodDescriptor yX8_putInTub.desc).map (fun d => d.parameters.length) = some 1 := by decide +kernel
set_option maxHeartbeats 4000000 in
set_option maxRecDepth 100000 in
theorem kX8_putInTub {l : Launch} {D : va_G} {cyI cyZ cyW : ClassId} {zW zO : Nat} {w0 : Nat} {w1 : Nat} {w2 : Nat} {w3 : Nat} {p0 : Nat} {p1 : Nat} {p2 : Nat} {p3 : Nat} {p4 : Nat} {wh : (Nat → Int32)} {lf : (Nat → Int32)} {co : (Nat → Int32)} {wi : Int32} {ho : Int32} {tubs : Int32} {pegs : Int32} {pwi : Int32} {flags : Int32} {pco : (Nat → Int32)} {pcl : (Nat → Int32)} {phr : (Nat → Int32)} {pho : (Nat → Int32)} {x1 : Int32} {res : (Nat → Int32) × (Nat → Int32)} (h : fX8_putInTub x1 wh lf flags phr = some res) : KV l yX8_putInTub wsX8_putInTub ({ frames := 1, cells := 0, slots := 0, locals := 21 } : Room) D (tyA cyI cyZ cyW) zW zO [.ref w0, .int x1] (wWP cyI cyZ cyW w0 w1 w2 w3 p0 p1 p2 p3 p4 wh lf co wi ho tubs pegs pwi flags pco pcl phr pho) (wWP cyI cyZ cyW w0 w1 w2 w3 p0 p1 p2 p3 p4 res.1 res.2 co wi ho tubs pegs pwi flags pco pcl phr pho) := by
  refine enterV (cc := cX8_putInTub) (nL := 2) (ret := none) (by decide) rfl (Nat.le_of_ble_eq_true rfl) (fun p e s m below meth c A C => ?_)
  refine r_lv (lv' := [(0, .ref w0), (1, .int x1)]) [0, 1] rfl ?_
  unfold fX8_putInTub at h
  refine r_aload_n C dX8_putInTub_0 0 rfl rfl ?_
  refine r_get (ci := 5) (CC := RX8) (T := TX8) (N := 6) (v := .ref p0) C hinX8_putInTub_X8 0 rfl rfl 0 (by decide) mX8_putInTub_1 rfl rfl dX8_putInTub_1 ?_
  refine r_iload_n C dX8_putInTub_4 1 rfl rfl ?_
  obtain ⟨u1, hu1, h⟩ := ob_bind h
  refine r_readVI (q0 := 0) (As := [.int x1]) (rest := []) C (kX4_has (p0 := p0) (p1 := p1) (p2 := p2) (p3 := p3) (p4 := p4) (tubs := tubs) (pegs := pegs) (pwi := pwi) (flags := flags) (pco := pco) (pcl := pcl) (phr := phr) (pho := pho) (x1 := x1) hu1) gX8_putInTub_X4_has rfl rfl rfl ⟨rfl, hd_X4_has⟩ ⟨by decide, by decide⟩ rfl rfl rfl rfl [4, 5, 6, 7, 8] (by decide) in_28 rfl (Nat.le_of_ble_eq_true rfl) dX8_putInTub_5 ⟨Nat.zero_le _, Nat.zero_le _⟩ ?_
  refine r_ifb_eq (tgt := 33) C dX8_putInTub_8 (by decide) (fun c2 => ?_) (fun c2 => ?_)
  · replace h := ob_bf h c2
    have h9 := Option.some.inj h
    subst h9
    exact r_vret C rfl dX8_putInTub_33
  · replace h := ob_t h c2
    refine r_aload_n C dX8_putInTub_11 0 rfl rfl ?_
    refine r_get (ci := 5) (CC := RX8) (T := TX8) (N := 6) (v := .ref w1) C hinX8_putInTub_X8 0 rfl rfl 1 (by decide) mX8_putInTub_2 rfl rfl dX8_putInTub_12 ?_
    refine r_iload_n C dX8_putInTub_15 1 rfl rfl ?_
    refine r_iconst (v := 1) C dX8_putInTub_16 ic_1 ?_
    obtain ⟨hu3, h⟩ := ob_if h
    refine r_iast (ws1 := (wWP cyI cyZ cyW w0 w1 w2 w3 p0 p1 p2 p3 p4 (upd wh x1.toNatClampNeg (1 : Int32)) lf co wi ho tubs pegs pwi flags pco pcl phr pho)) C 1 0 rfl rfl (inb_vp hu3) rfl dX8_putInTub_17 ?_
    refine r_aload_n C dX8_putInTub_18 0 rfl rfl ?_
    refine r_get (ci := 5) (CC := RX8) (T := TX8) (N := 6) (v := .ref w2) C hinX8_putInTub_X8 0 rfl rfl 2 (by decide) mX8_putInTub_3 rfl rfl dX8_putInTub_19 ?_
    refine r_iload_n C dX8_putInTub_22 1 rfl rfl ?_
    refine r_aload_n C dX8_putInTub_23 0 rfl rfl ?_
    refine r_get (ci := 5) (CC := RX8) (T := TX8) (N := 6) (v := .ref p0) C hinX8_putInTub_X8 0 rfl rfl 0 (by decide) mX8_putInTub_1 rfl rfl dX8_putInTub_24 ?_
    refine r_get (ci := 2) (CC := RX4) (T := TX4) (N := 8) (v := .ref p3) C hinX8_putInTub_X4 4 rfl rfl 6 (by decide) mX8_putInTub_4 rfl rfl dX8_putInTub_27 ?_
    refine r_iload_n C dX8_putInTub_30 1 rfl rfl ?_
    obtain ⟨hu4, h⟩ := ob_if h
    refine r_iald C 7 0 rfl rfl (inb_vp hu4) dX8_putInTub_31 ?_
    obtain ⟨hu5, h⟩ := ob_if h
    refine r_iast (ws1 := (wWP cyI cyZ cyW w0 w1 w2 w3 p0 p1 p2 p3 p4 (upd wh x1.toNatClampNeg (1 : Int32)) (upd lf x1.toNatClampNeg (phr x1.toNatClampNeg)) co wi ho tubs pegs pwi flags pco pcl phr pho)) C 2 0 rfl rfl (inb_vp hu5) rfl dX8_putInTub_32 ?_
    have h9 := Option.some.inj h
    subst h9
    exact r_vret C rfl dX8_putInTub_33

/-! ===== FlagWash$Wash.bitsAt ===== -/
def fX8_bitsAt_31 (rec4 : Int32 → Int32 → Option (Int32)) (x1 : Int32) (x2 : Int32) (x3 : Int32) (wh : (Nat → Int32)) (flags : Int32) : Option (Int32) :=
 (rec4 x2 (x3 + (1 : Int32)))
def gX8_bitsAt_4 (rec4 : Int32 → Int32 → Option (Int32)) (x1 : Int32) (x2 : Int32) (x3 : Int32) (wh : (Nat → Int32)) (flags : Int32) : Option (Int32) :=
 (if flags ≤ x3 then (some x2)
 else (if inb x3 5 = true then (if (wh x3.toNatClampNeg) = x1 then (fX8_bitsAt_31 rec4 x1 (x2 ||| ((1 : Int32) <<< (x3 &&& 31))) x3 wh flags)
 else (fX8_bitsAt_31 rec4 x1 x2 x3 wh flags)) else none))
def fX8_bitsAt_4  (x1 : Int32) (wh : (Nat → Int32)) (flags : Int32) : Nat → Int32 → Int32 → Option (Int32)
  | 0 => fun _ _ => none
  | n + 1 => fun x2 x3 => gX8_bitsAt_4 (fX8_bitsAt_4  x1 wh flags n) x1 x2 x3 wh flags
def fX8_bitsAt  (x1 : Int32) (wh : (Nat → Int32)) (flags : Int32) : Option (Int32) :=
 (fX8_bitsAt_4  x1 wh flags FU (0 : Int32) (0 : Int32))
theorem hinX8_bitsAt_X8 : ∀ w ∈ u_ws RX8 TX8 6, w ∈ wsX8_bitsAt := fun w h => List.mem_cons_of_mem _ (List.mem_append_left _ (List.mem_append_right _ h))
theorem mX8_bitsAt_1 : Cond.fieldLink RX8 28 "FlagWash$Wash" "plan" "LFlagWash$Plan;" ∈ wsX8_bitsAt := List.mem_of_getElem? (i := 1) rfl
theorem hinX8_bitsAt_X4 : ∀ w ∈ u_ws RX4 TX4 8, w ∈ wsX8_bitsAt := fun w h => List.mem_cons_of_mem _ (List.mem_append_right _ h)
theorem mX8_bitsAt_2 : Cond.fieldLink RX8 42 "FlagWash$Plan" "flags" "I" ∈ wsX8_bitsAt := List.mem_of_getElem? (i := 2) rfl
theorem mX8_bitsAt_3 : Cond.fieldLink RX8 9 "FlagWash$Wash" "where" "[I" ∈ wsX8_bitsAt := List.mem_of_getElem? (i := 3) rfl
theorem hd_X8_bitsAt : yX8_bitsAt.cls ≠ "java/lang/invoke/MethodHandle" ∧ yX8_bitsAt.cls ≠ "java/lang/invoke/VarHandle" ∧ (parseMethodDescriptor yX8_bitsAt.desc).map (fun d => d.parameters.length) = some 1 := by decide +kernel
set_option maxHeartbeats 4000000 in
set_option maxRecDepth 100000 in
theorem LX8_bitsAt_31 {p : Program} {l : Launch} {e : Env} {s : State} {m : MethodId} {args : Array Value} {below : List Frame} {meth : Method} {c : Code} {D : va_G} {cyI cyZ cyW : ClassId} {zW zO : Nat} {A : Nat → Prop} (C : Cx p s m args meth c cX8_bitsAt RX8 "bitsAt" wsX8_bitsAt (some .int) 4 D (tyA cyI cyZ cyW) zW zO A) {w0 : Nat} {w1 : Nat} {w2 : Nat} {w3 : Nat} {p0 : Nat} {p1 : Nat} {p2 : Nat} {p3 : Nat} {p4 : Nat} {wh : (Nat → Int32)} {lf : (Nat → Int32)} {co : (Nat → Int32)} {wi : Int32} {ho : Int32} {tubs : Int32} {pegs : Int32} {pwi : Int32} {flags : Int32} {pco : (Nat → Int32)} {pcl : (Nat → Int32)} {phr : (Nat → Int32)} {pho : (Nat → Int32)} {x1 : Int32} {x2 : Int32} {x3 : Int32} {rec4 : Int32 → Int32 → Option (Int32)} {res : Int32} (hrec4 : ∀ (x2 : Int32) (x3 : Int32), rec4 x2 x3 = some res → Mx p l e ({ frames := 0, cells := 0, slots := 0, locals := 0 } : Room) s m args below meth c (MQ below (QI D (tyA cyI cyZ cyW) A (wWP cyI cyZ cyW w0 w1 w2 w3 p0 p1 p2 p3 p4 wh lf co wi ho tubs pegs pwi flags pco pcl phr pho) res) args s 0 0 A) 4 D A 0 0 (wWP cyI cyZ cyW w0 w1 w2 w3 p0 p1 p2 p3 p4 wh lf co wi ho tubs pegs pwi flags pco pcl phr pho) 4 [(0, .ref w0), (1, .int x1), (2, .int x2), (3, .int x3)] []) (h : fX8_bitsAt_31 rec4 x1 x2 x3 wh flags = some res) : Mx p l e ({ frames := 0, cells := 0, slots := 0, locals := 0 } : Room) s m args below meth c (MQ below (QI D (tyA cyI cyZ cyW) A (wWP cyI cyZ cyW w0 w1 w2 w3 p0 p1 p2 p3 p4 wh lf co wi ho tubs pegs pwi flags pco pcl phr pho) res) args s 0 0 A) 4 D A 0 0 (wWP cyI cyZ cyW w0 w1 w2 w3 p0 p1 p2 p3 p4 wh lf co wi ho tubs pegs pwi flags pco pcl phr pho) 31 [(0, .ref w0), (1, .int x1), (2, .int x2), (3, .int x3)] [] := by
  unfold fX8_bitsAt_31 at h
  refine r_iinc (v := 1) (lv' := [(3, .int (x3 + (1 : Int32))), (0, .ref w0), (1, .int x1), (2, .int x2)]) C dX8_bitsAt_31 3 rfl ic_1 (by decide) rfl ?_
  refine r_goto (tgt := 4) C dX8_bitsAt_34 (by decide) ?_
  refine r_lv (lv' := [(0, .ref w0), (1, .int x1), (2, .int x2), (3, .int (x3 + (1 : Int32)))]) [1, 2, 3, 0] rfl ?_
  exact hrec4 x2 (x3 + (1 : Int32)) h
set_option maxHeartbeats 4000000 in
set_option maxRecDepth 100000 in
theorem LGX8_bitsAt_4 {p : Program} {l : Launch} {e : Env} {s : State} {m : MethodId} {args : Array Value} {below : List Frame} {meth : Method} {c : Code} {D : va_G} {cyI cyZ cyW : ClassId} {zW zO : Nat} {A : Nat → Prop} (C : Cx p s m args meth c cX8_bitsAt RX8 "bitsAt" wsX8_bitsAt (some .int) 4 D (tyA cyI cyZ cyW) zW zO A) {w0 : Nat} {w1 : Nat} {w2 : Nat} {w3 : Nat} {p0 : Nat} {p1 : Nat} {p2 : Nat} {p3 : Nat} {p4 : Nat} {wh : (Nat → Int32)} {lf : (Nat → Int32)} {co : (Nat → Int32)} {wi : Int32} {ho : Int32} {tubs : Int32} {pegs : Int32} {pwi : Int32} {flags : Int32} {pco : (Nat → Int32)} {pcl : (Nat → Int32)} {phr : (Nat → Int32)} {pho : (Nat → Int32)} {x1 : Int32} {x2 : Int32} {x3 : Int32} {rec4 : Int32 → Int32 → Option (Int32)} {res : Int32} (hrec4 : ∀ (x2 : Int32) (x3 : Int32), rec4 x2 x3 = some res → Mx p l e ({ frames := 0, cells := 0, slots := 0, locals := 0 } : Room) s m args below meth c (MQ below (QI D (tyA cyI cyZ cyW) A (wWP cyI cyZ cyW w0 w1 w2 w3 p0 p1 p2 p3 p4 wh lf co wi ho tubs pegs pwi flags pco pcl phr pho) res) args s 0 0 A) 4 D A 0 0 (wWP cyI cyZ cyW w0 w1 w2 w3 p0 p1 p2 p3 p4 wh lf co wi ho tubs pegs pwi flags pco pcl phr pho) 4 [(0, .ref w0), (1, .int x1), (2, .int x2), (3, .int x3)] []) (h : gX8_bitsAt_4 rec4 x1 x2 x3 wh flags = some res) : Mx p l e ({ frames := 0, cells := 0, slots := 0, locals := 0 } : Room) s m args below meth c (MQ below (QI D (tyA cyI cyZ cyW) A (wWP cyI cyZ cyW w0 w1 w2 w3 p0 p1 p2 p3 p4 wh lf co wi ho tubs pegs pwi flags pco pcl phr pho) res) args s 0 0 A) 4 D A 0 0 (wWP cyI cyZ cyW w0 w1 w2 w3 p0 p1 p2 p3 p4 wh lf co wi ho tubs pegs pwi flags pco pcl phr pho) 4 [(0, .ref w0), (1, .int x1), (2, .int x2), (3, .int x3)] [] := by
  unfold gX8_bitsAt_4 at h
  refine r_iload_n C dX8_bitsAt_4 3 rfl rfl ?_
  refine r_aload_n C dX8_bitsAt_5 0 rfl rfl ?_
  refine r_get (ci := 5) (CC := RX8) (T := TX8) (N := 6) (v := .ref p0) C hinX8_bitsAt_X8 0 rfl rfl 0 (by decide) mX8_bitsAt_1 rfl rfl dX8_bitsAt_6 ?_
  refine r_get (ci := 2) (CC := RX4) (T := TX4) (N := 8) (v := .int flags) C hinX8_bitsAt_X4 4 rfl rfl 3 (by decide) mX8_bitsAt_2 rfl rfl dX8_bitsAt_9 ?_
  refine r_icmp_ge (tgt := 37) C dX8_bitsAt_12 (by decide) (fun c1 => ?_) (fun c1 => ?_)
  · replace h := ob_t h c1
    refine r_iload_n C dX8_bitsAt_37 2 rfl rfl ?_
    have h9 := Option.some.inj h
    subst h9
    exact r_iret C rfl dX8_bitsAt_38
  · replace h := ob_f h c1
    refine r_aload_n C dX8_bitsAt_15 0 rfl rfl ?_
    refine r_get (ci := 5) (CC := RX8) (T := TX8) (N := 6) (v := .ref w1) C hinX8_bitsAt_X8 0 rfl rfl 1 (by decide) mX8_bitsAt_3 rfl rfl dX8_bitsAt_16 ?_
    refine r_iload_n C dX8_bitsAt_19 3 rfl rfl ?_
    obtain ⟨hu2, h⟩ := ob_if h
    refine r_iald C 1 0 rfl rfl (inb_vp hu2) dX8_bitsAt_20 ?_
    refine r_iload_n C dX8_bitsAt_21 1 rfl rfl ?_
    refine r_icmp_ne (tgt := 31) C dX8_bitsAt_22 (by decide) (fun c3 => ?_) (fun c3 => ?_)
    · replace h := ob_f h c3
      refine r_lv (lv' := [(0, .ref w0), (1, .int x1), (2, .int x2), (3, .int x3)]) [0, 1, 2, 3] rfl ?_
      exact LX8_bitsAt_31 C (x1 := x1) (x2 := x2) (x3 := x3) (wh := wh) (lf := lf) (co := co) (wi := wi) (ho := ho) (tubs := tubs) (pegs := pegs) (pwi := pwi) (flags := flags) (pco := pco) (pcl := pcl) (phr := phr) (pho := pho) hrec4 h
    · replace h := ob_t h c3
      refine r_iload_n C dX8_bitsAt_25 2 rfl rfl ?_
      refine r_iconst (v := 1) C dX8_bitsAt_26 ic_1 ?_
      refine r_iload_n C dX8_bitsAt_27 3 rfl rfl ?_
      refine r_ishl C dX8_bitsAt_28 ?_
      refine r_ior C dX8_bitsAt_29 ?_
      refine r_istore_n (lv' := [(2, .int (x2 ||| ((1 : Int32) <<< (x3 &&& 31)))), (0, .ref w0), (1, .int x1), (3, .int x3)]) C dX8_bitsAt_30 rfl (by decide) rfl ?_
      refine r_lv (lv' := [(0, .ref w0), (1, .int x1), (2, .int (x2 ||| ((1 : Int32) <<< (x3 &&& 31)))), (3, .int x3)]) [1, 2, 0, 3] rfl ?_
      exact LX8_bitsAt_31 C (x1 := x1) (x2 := (x2 ||| ((1 : Int32) <<< (x3 &&& 31)))) (x3 := x3) (wh := wh) (lf := lf) (co := co) (wi := wi) (ho := ho) (tubs := tubs) (pegs := pegs) (pwi := pwi) (flags := flags) (pco := pco) (pcl := pcl) (phr := phr) (pho := pho) hrec4 h
set_option maxHeartbeats 4000000 in
set_option maxRecDepth 100000 in
theorem LX8_bitsAt_4 {p : Program} {l : Launch} {e : Env} {s : State} {m : MethodId} {args : Array Value} {below : List Frame} {meth : Method} {c : Code} {D : va_G} {cyI cyZ cyW : ClassId} {zW zO : Nat} {A : Nat → Prop} (C : Cx p s m args meth c cX8_bitsAt RX8 "bitsAt" wsX8_bitsAt (some .int) 4 D (tyA cyI cyZ cyW) zW zO A) {w0 : Nat} {w1 : Nat} {w2 : Nat} {w3 : Nat} {p0 : Nat} {p1 : Nat} {p2 : Nat} {p3 : Nat} {p4 : Nat} {x1 : Int32} {wh : (Nat → Int32)} {lf : (Nat → Int32)} {co : (Nat → Int32)} {wi : Int32} {ho : Int32} {tubs : Int32} {pegs : Int32} {pwi : Int32} {flags : Int32} {pco : (Nat → Int32)} {pcl : (Nat → Int32)} {phr : (Nat → Int32)} {pho : (Nat → Int32)}  {res : Int32}  : ∀ (n : Nat) (x2 : Int32) (x3 : Int32), fX8_bitsAt_4  x1 wh flags n x2 x3 = some res → Mx p l e ({ frames := 0, cells := 0, slots := 0, locals := 0 } : Room) s m args below meth c (MQ below (QI D (tyA cyI cyZ cyW) A (wWP cyI cyZ cyW w0 w1 w2 w3 p0 p1 p2 p3 p4 wh lf co wi ho tubs pegs pwi flags pco pcl phr pho) res) args s 0 0 A) 4 D A 0 0 (wWP cyI cyZ cyW w0 w1 w2 w3 p0 p1 p2 p3 p4 wh lf co wi ho tubs pegs pwi flags pco pcl phr pho) 4 [(0, .ref w0), (1, .int x1), (2, .int x2), (3, .int x3)] [] := by
  intro n
  induction n with
  | zero => intro x2 x3 h; cases h
  | succ n ih => intro x2 x3 h; exact LGX8_bitsAt_4 C ih h
set_option maxHeartbeats 4000000 in
set_option maxRecDepth 100000 in
theorem kX8_bitsAt {l : Launch} {D : va_G} {cyI cyZ cyW : ClassId} {zW zO : Nat} {w0 : Nat} {w1 : Nat} {w2 : Nat} {w3 : Nat} {p0 : Nat} {p1 : Nat} {p2 : Nat} {p3 : Nat} {p4 : Nat} {wh : (Nat → Int32)} {lf : (Nat → Int32)} {co : (Nat → Int32)} {wi : Int32} {ho : Int32} {tubs : Int32} {pegs : Int32} {pwi : Int32} {flags : Int32} {pco : (Nat → Int32)} {pcl : (Nat → Int32)} {phr : (Nat → Int32)} {pho : (Nat → Int32)} {x1 : Int32} {res : Int32} (h : fX8_bitsAt x1 wh flags = some res) : KI l yX8_bitsAt wsX8_bitsAt ({ frames := 0, cells := 0, slots := 0, locals := 0 } : Room) D (tyA cyI cyZ cyW) zW zO [.ref w0, .int x1] (wWP cyI cyZ cyW w0 w1 w2 w3 p0 p1 p2 p3 p4 wh lf co wi ho tubs pegs pwi flags pco pcl phr pho) (wWP cyI cyZ cyW w0 w1 w2 w3 p0 p1 p2 p3 p4 wh lf co wi ho tubs pegs pwi flags pco pcl phr pho) res := by
  refine enterI (cc := cX8_bitsAt) (nL := 4) (ret := (some .int)) (by decide) rfl (Nat.le_of_ble_eq_true rfl) (fun p e s m below meth c A C => ?_)
  refine r_lv (lv' := [(0, .ref w0), (1, .int x1)]) [0, 1] rfl ?_
  unfold fX8_bitsAt at h
  refine r_iconst (v := 0) C dX8_bitsAt_0 ic_0 ?_
  refine r_istore_n (lv' := [(2, .int (0 : Int32)), (0, .ref w0), (1, .int x1)]) C dX8_bitsAt_1 rfl (by decide) rfl ?_
  refine r_iconst (v := 0) C dX8_bitsAt_2 ic_0 ?_
  refine r_istore_n (lv' := [(3, .int (0 : Int32)), (2, .int (0 : Int32)), (0, .ref w0), (1, .int x1)]) C dX8_bitsAt_3 rfl (by decide) rfl ?_
  refine r_lv (lv' := [(0, .ref w0), (1, .int x1), (2, .int (0 : Int32)), (3, .int (0 : Int32))]) [2, 3, 1, 0] rfl ?_
  exact LX8_bitsAt_4 C (x1 := x1) (wh := wh) (lf := lf) (co := co) (wi := wi) (ho := ho) (tubs := tubs) (pegs := pegs) (pwi := pwi) (flags := flags) (pco := pco) (pcl := pcl) (phr := phr) (pho := pho)  FU (0 : Int32) (0 : Int32) h

/-! ===== FlagWash$Wash.homeBits ===== -/
def fX8_homeBits  (wh : (Nat → Int32)) (flags : Int32) : Option (Int32) :=
 ((fX8_bitsAt (0 : Int32) wh flags).bind fun u1 => (some u1))
theorem hd_X8_homeBits : yX8_homeBits.cls ≠ "java/lang/invoke/MethodHandle" ∧ yX8_homeBits.cls ≠ "java/lang/invoke/VarHandle" ∧ (parseMethodDescriptor yX8_homeBits.desc).map (fun d => d.parameters.length) = some 0 := by decide +kernel
set_option maxHeartbeats 4000000 in
set_option maxRecDepth 100000 in
theorem kX8_homeBits {l : Launch} {D : va_G} {cyI cyZ cyW : ClassId} {zW zO : Nat} {w0 : Nat} {w1 : Nat} {w2 : Nat} {w3 : Nat} {p0 : Nat} {p1 : Nat} {p2 : Nat} {p3 : Nat} {p4 : Nat} {wh : (Nat → Int32)} {lf : (Nat → Int32)} {co : (Nat → Int32)} {wi : Int32} {ho : Int32} {tubs : Int32} {pegs : Int32} {pwi : Int32} {flags : Int32} {pco : (Nat → Int32)} {pcl : (Nat → Int32)} {phr : (Nat → Int32)} {pho : (Nat → Int32)}  {res : Int32} (h : fX8_homeBits wh flags = some res) : KI l yX8_homeBits wsX8_homeBits ({ frames := 1, cells := 0, slots := 0, locals := 23 } : Room) D (tyA cyI cyZ cyW) zW zO [.ref w0] (wWP cyI cyZ cyW w0 w1 w2 w3 p0 p1 p2 p3 p4 wh lf co wi ho tubs pegs pwi flags pco pcl phr pho) (wWP cyI cyZ cyW w0 w1 w2 w3 p0 p1 p2 p3 p4 wh lf co wi ho tubs pegs pwi flags pco pcl phr pho) res := by
  refine enterI (cc := cX8_homeBits) (nL := 1) (ret := (some .int)) (by decide) rfl (Nat.le_of_ble_eq_true rfl) (fun p e s m below meth c A C => ?_)
  refine r_lv (lv' := [(0, .ref w0)]) [0] rfl ?_
  unfold fX8_homeBits at h
  refine r_aload_n C dX8_homeBits_0 0 rfl rfl ?_
  refine r_iconst (v := 0) C dX8_homeBits_1 ic_0 ?_
  obtain ⟨u1, hu1, h⟩ := ob_bind h
  refine r_readVI (q0 := 0) (As := [.int (0 : Int32)]) (rest := []) C (kX8_bitsAt (w0 := w0) (w1 := w1) (w2 := w2) (w3 := w3) (p0 := p0) (p1 := p1) (p2 := p2) (p3 := p3) (p4 := p4) (wh := wh) (lf := lf) (co := co) (wi := wi) (ho := ho) (tubs := tubs) (pegs := pegs) (pwi := pwi) (flags := flags) (pco := pco) (pcl := pcl) (phr := phr) (pho := pho) (x1 := (0 : Int32)) hu1) gX8_homeBits_X8_bitsAt rfl rfl rfl ⟨rfl, hd_X8_bitsAt⟩ ⟨by decide, by decide⟩ rfl rfl rfl rfl [0, 1, 2, 3, 4, 5, 6, 7, 8] (by decide) in_29 rfl (Nat.le_of_ble_eq_true rfl) dX8_homeBits_2 ⟨Nat.zero_le _, Nat.zero_le _⟩ ?_
  have h9 := Option.some.inj h
  subst h9
  exact r_iret C rfl dX8_homeBits_5

/-! ===== FlagWash$Wash.bringHome ===== -/
def fX8_bringHome  (x1 : Int32) (wh : (Nat → Int32)) (lf : (Nat → Int32)) (flags : Int32) : Option ((Nat → Int32) × (Nat → Int32)) :=
 ((fX4_has x1 flags).bind fun u1 => (if u1 = true then (if inb x1 5 = true then (if inb x1 5 = true then (some ((upd wh x1.toNatClampNeg (0 : Int32)), (upd lf x1.toNatClampNeg (0 : Int32)))) else none) else none)
 else (some (wh, lf))))
theorem hinX8_bringHome_X8 : ∀ w ∈ u_ws RX8 TX8 6, w ∈ wsX8_bringHome := fun w h => List.mem_cons_of_mem _ (List.mem_append_left _ (List.mem_append_right _ h))
theorem mX8_bringHome_1 : Cond.fieldLink RX8 28 "FlagWash$Wash" "plan" "LFlagWash$Plan;" ∈ wsX8_bringHome := List.mem_of_getElem? (i := 1) rfl
theorem mX8_bringHome_2 : Cond.fieldLink RX8 9 "FlagWash$Wash" "where" "[I" ∈ wsX8_bringHome := List.mem_of_getElem? (i := 2) rfl
theorem mX8_bringHome_3 : Cond.fieldLink RX8 15 "FlagWash$Wash" "left" "[I" ∈ wsX8_bringHome := List.mem_of_getElem? (i := 3) rfl
theorem hd_X8_bringHome : yX8_bringHome.cls ≠ "java/lang/invoke/MethodHandle" ∧ yX8_bringHome.cls ≠ "java/lang/invoke/VarHandle" ∧ (parseMethodDescriptor yX8_bringHome.desc).map (fun d => d.parameters.length) = some 1 := by decide +kernel
set_option maxHeartbeats 4000000 in
set_option maxRecDepth 100000 in
theorem kX8_bringHome {l : Launch} {D : va_G} {cyI cyZ cyW : ClassId} {zW zO : Nat} {w0 : Nat} {w1 : Nat} {w2 : Nat} {w3 : Nat} {p0 : Nat} {p1 : Nat} {p2 : Nat} {p3 : Nat} {p4 : Nat} {wh : (Nat → Int32)} {lf : (Nat → Int32)} {co : (Nat → Int32)} {wi : Int32} {ho : Int32} {tubs : Int32} {pegs : Int32} {pwi : Int32} {flags : Int32} {pco : (Nat → Int32)} {pcl : (Nat → Int32)} {phr : (Nat → Int32)} {pho : (Nat → Int32)} {x1 : Int32} {res : (Nat → Int32) × (Nat → Int32)} (h : fX8_bringHome x1 wh lf flags = some res) : KV l yX8_bringHome wsX8_bringHome ({ frames := 1, cells := 0, slots := 0, locals := 21 } : Room) D (tyA cyI cyZ cyW) zW zO [.ref w0, .int x1] (wWP cyI cyZ cyW w0 w1 w2 w3 p0 p1 p2 p3 p4 wh lf co wi ho tubs pegs pwi flags pco pcl phr pho) (wWP cyI cyZ cyW w0 w1 w2 w3 p0 p1 p2 p3 p4 res.1 res.2 co wi ho tubs pegs pwi flags pco pcl phr pho) := by
  refine enterV (cc := cX8_bringHome) (nL := 2) (ret := none) (by decide) rfl (Nat.le_of_ble_eq_true rfl) (fun p e s m below meth c A C => ?_)
  refine r_lv (lv' := [(0, .ref w0), (1, .int x1)]) [0, 1] rfl ?_
  unfold fX8_bringHome at h
  refine r_aload_n C dX8_bringHome_0 0 rfl rfl ?_
  refine r_get (ci := 5) (CC := RX8) (T := TX8) (N := 6) (v := .ref p0) C hinX8_bringHome_X8 0 rfl rfl 0 (by decide) mX8_bringHome_1 rfl rfl dX8_bringHome_1 ?_
  refine r_iload_n C dX8_bringHome_4 1 rfl rfl ?_
  obtain ⟨u1, hu1, h⟩ := ob_bind h
  refine r_readVI (q0 := 0) (As := [.int x1]) (rest := []) C (kX4_has (p0 := p0) (p1 := p1) (p2 := p2) (p3 := p3) (p4 := p4) (tubs := tubs) (pegs := pegs) (pwi := pwi) (flags := flags) (pco := pco) (pcl := pcl) (phr := phr) (pho := pho) (x1 := x1) hu1) gX8_bringHome_X4_has rfl rfl rfl ⟨rfl, hd_X4_has⟩ ⟨by decide, by decide⟩ rfl rfl rfl rfl [4, 5, 6, 7, 8] (by decide) in_28 rfl (Nat.le_of_ble_eq_true rfl) dX8_bringHome_5 ⟨Nat.zero_le _, Nat.zero_le _⟩ ?_
  refine r_ifb_eq (tgt := 25) C dX8_bringHome_8 (by decide) (fun c2 => ?_) (fun c2 => ?_)
  · replace h := ob_bf h c2
    have h9 := Option.some.inj h
    subst h9
    exact r_vret C rfl dX8_bringHome_25
  · replace h := ob_t h c2
    refine r_aload_n C dX8_bringHome_11 0 rfl rfl ?_
    refine r_get (ci := 5) (CC := RX8) (T := TX8) (N := 6) (v := .ref w1) C hinX8_bringHome_X8 0 rfl rfl 1 (by decide) mX8_bringHome_2 rfl rfl dX8_bringHome_12 ?_
    refine r_iload_n C dX8_bringHome_15 1 rfl rfl ?_
    refine r_iconst (v := 0) C dX8_bringHome_16 ic_0 ?_
    obtain ⟨hu3, h⟩ := ob_if h
    refine r_iast (ws1 := (wWP cyI cyZ cyW w0 w1 w2 w3 p0 p1 p2 p3 p4 (upd wh x1.toNatClampNeg (0 : Int32)) lf co wi ho tubs pegs pwi flags pco pcl phr pho)) C 1 0 rfl rfl (inb_vp hu3) rfl dX8_bringHome_17 ?_
    refine r_aload_n C dX8_bringHome_18 0 rfl rfl ?_
    refine r_get (ci := 5) (CC := RX8) (T := TX8) (N := 6) (v := .ref w2) C hinX8_bringHome_X8 0 rfl rfl 2 (by decide) mX8_bringHome_3 rfl rfl dX8_bringHome_19 ?_
    refine r_iload_n C dX8_bringHome_22 1 rfl rfl ?_
    refine r_iconst (v := 0) C dX8_bringHome_23 ic_0 ?_
    obtain ⟨hu4, h⟩ := ob_if h
    refine r_iast (ws1 := (wWP cyI cyZ cyW w0 w1 w2 w3 p0 p1 p2 p3 p4 (upd wh x1.toNatClampNeg (0 : Int32)) (upd lf x1.toNatClampNeg (0 : Int32)) co wi ho tubs pegs pwi flags pco pcl phr pho)) C 2 0 rfl rfl (inb_vp hu4) rfl dX8_bringHome_24 ?_
    have h9 := Option.some.inj h
    subst h9
    exact r_vret C rfl dX8_bringHome_25

/-! ===== FlagWash$Wash.dryOnLine ===== -/
def fX8_dryOnLine_60 (rec4 : Int32 → Int32 → (Nat → Int32) → (Nat → Int32) → Option (Int32 × (Nat → Int32) × (Nat → Int32))) (x1 : Int32) (x2 : Int32) (wh : (Nat → Int32)) (lf : (Nat → Int32)) (wi : Int32) (flags : Int32) : Option (Int32 × (Nat → Int32) × (Nat → Int32)) :=
 (rec4 x1 (x2 + (1 : Int32)) wh lf)
def gX8_dryOnLine_4 (rec4 : Int32 → Int32 → (Nat → Int32) → (Nat → Int32) → Option (Int32 × (Nat → Int32) × (Nat → Int32))) (x1 : Int32) (x2 : Int32) (wh : (Nat → Int32)) (lf : (Nat → Int32)) (wi : Int32) (flags : Int32) : Option (Int32 × (Nat → Int32) × (Nat → Int32)) :=
 (if flags ≤ x2 then (some (x1, wh, lf))
 else (if inb x2 5 = true then (if (wh x2.toNatClampNeg) = (2 : Int32) then (if inb x2 5 = true then (if inb x2 5 = true then (if inb x2 5 = true then (if 0 < ((upd lf x2.toNatClampNeg ((lf x2.toNatClampNeg) - ((1 : Int32) + wi))) x2.toNatClampNeg) then (fX8_dryOnLine_60 rec4 x1 x2 wh (upd lf x2.toNatClampNeg ((lf x2.toNatClampNeg) - ((1 : Int32) + wi))) wi flags)
 else ((fX8_bringHome x2 wh (upd lf x2.toNatClampNeg ((lf x2.toNatClampNeg) - ((1 : Int32) + wi))) flags).bind fun u8 => (fX8_dryOnLine_60 rec4 (x1 ||| ((1 : Int32) <<< (x2 &&& 31))) x2 u8.1 u8.2 wi flags))) else none) else none) else none)
 else (fX8_dryOnLine_60 rec4 x1 x2 wh lf wi flags)) else none))
def fX8_dryOnLine_4  (wi : Int32) (flags : Int32) : Nat → Int32 → Int32 → (Nat → Int32) → (Nat → Int32) → Option (Int32 × (Nat → Int32) × (Nat → Int32))
  | 0 => fun _ _ _ _ => none
  | n + 1 => fun x1 x2 wh lf => gX8_dryOnLine_4 (fX8_dryOnLine_4  wi flags n) x1 x2 wh lf wi flags
def fX8_dryOnLine  (wh : (Nat → Int32)) (lf : (Nat → Int32)) (wi : Int32) (flags : Int32) : Option (Int32 × (Nat → Int32) × (Nat → Int32)) :=
 (fX8_dryOnLine_4  wi flags FU (0 : Int32) (0 : Int32) wh lf)
theorem hinX8_dryOnLine_X8 : ∀ w ∈ u_ws RX8 TX8 6, w ∈ wsX8_dryOnLine := fun w h => List.mem_cons_of_mem _ (List.mem_append_left _ (List.mem_append_right _ h))
theorem mX8_dryOnLine_1 : Cond.fieldLink RX8 28 "FlagWash$Wash" "plan" "LFlagWash$Plan;" ∈ wsX8_dryOnLine := List.mem_of_getElem? (i := 1) rfl
theorem hinX8_dryOnLine_X4 : ∀ w ∈ u_ws RX4 TX4 8, w ∈ wsX8_dryOnLine := fun w h => List.mem_cons_of_mem _ (List.mem_append_right _ h)
theorem mX8_dryOnLine_2 : Cond.fieldLink RX8 42 "FlagWash$Plan" "flags" "I" ∈ wsX8_dryOnLine := List.mem_of_getElem? (i := 2) rfl
theorem mX8_dryOnLine_3 : Cond.fieldLink RX8 9 "FlagWash$Wash" "where" "[I" ∈ wsX8_dryOnLine := List.mem_of_getElem? (i := 3) rfl
theorem mX8_dryOnLine_4 : Cond.fieldLink RX8 15 "FlagWash$Wash" "left" "[I" ∈ wsX8_dryOnLine := List.mem_of_getElem? (i := 4) rfl
theorem mX8_dryOnLine_5 : Cond.fieldLink RX8 21 "FlagWash$Wash" "wind" "I" ∈ wsX8_dryOnLine := List.mem_of_getElem? (i := 5) rfl
theorem hd_X8_dryOnLine : yX8_dryOnLine.cls ≠ "java/lang/invoke/MethodHandle" ∧ yX8_dryOnLine.cls ≠ "java/lang/invoke/VarHandle" ∧ (parseMethodDescriptor yX8_dryOnLine.desc).map (fun d => d.parameters.length) = some 0 := by decide +kernel
set_option maxHeartbeats 4000000 in
set_option maxRecDepth 100000 in
theorem LX8_dryOnLine_60 {p : Program} {l : Launch} {e : Env} {s : State} {m : MethodId} {args : Array Value} {below : List Frame} {meth : Method} {c : Code} {D : va_G} {cyI cyZ cyW : ClassId} {zW zO : Nat} {A : Nat → Prop} (C : Cx p s m args meth c cX8_dryOnLine RX8 "dryOnLine" wsX8_dryOnLine (some .int) 3 D (tyA cyI cyZ cyW) zW zO A) {w0 : Nat} {w1 : Nat} {w2 : Nat} {w3 : Nat} {p0 : Nat} {p1 : Nat} {p2 : Nat} {p3 : Nat} {p4 : Nat} {wh : (Nat → Int32)} {lf : (Nat → Int32)} {co : (Nat → Int32)} {wi : Int32} {ho : Int32} {tubs : Int32} {pegs : Int32} {pwi : Int32} {flags : Int32} {pco : (Nat → Int32)} {pcl : (Nat → Int32)} {phr : (Nat → Int32)} {pho : (Nat → Int32)} {x1 : Int32} {x2 : Int32} {rec4 : Int32 → Int32 → (Nat → Int32) → (Nat → Int32) → Option (Int32 × (Nat → Int32) × (Nat → Int32))} {res : Int32 × (Nat → Int32) × (Nat → Int32)} (hrec4 : ∀ (x1 : Int32) (x2 : Int32) (wh : (Nat → Int32)) (lf : (Nat → Int32)), rec4 x1 x2 wh lf = some res → Mx p l e ({ frames := 2, cells := 0, slots := 0, locals := 42 } : Room) s m args below meth c (MQ below (QI D (tyA cyI cyZ cyW) A (wWP cyI cyZ cyW w0 w1 w2 w3 p0 p1 p2 p3 p4 res.2.1 res.2.2 co wi ho tubs pegs pwi flags pco pcl phr pho) res.1) args s 0 0 A) 3 D A 0 0 (wWP cyI cyZ cyW w0 w1 w2 w3 p0 p1 p2 p3 p4 wh lf co wi ho tubs pegs pwi flags pco pcl phr pho) 4 [(0, .ref w0), (1, .int x1), (2, .int x2)] []) (h : fX8_dryOnLine_60 rec4 x1 x2 wh lf wi flags = some res) : Mx p l e ({ frames := 2, cells := 0, slots := 0, locals := 42 } : Room) s m args below meth c (MQ below (QI D (tyA cyI cyZ cyW) A (wWP cyI cyZ cyW w0 w1 w2 w3 p0 p1 p2 p3 p4 res.2.1 res.2.2 co wi ho tubs pegs pwi flags pco pcl phr pho) res.1) args s 0 0 A) 3 D A 0 0 (wWP cyI cyZ cyW w0 w1 w2 w3 p0 p1 p2 p3 p4 wh lf co wi ho tubs pegs pwi flags pco pcl phr pho) 60 [(0, .ref w0), (1, .int x1), (2, .int x2)] [] := by
  unfold fX8_dryOnLine_60 at h
  refine r_iinc (v := 1) (lv' := [(2, .int (x2 + (1 : Int32))), (0, .ref w0), (1, .int x1)]) C dX8_dryOnLine_60 2 rfl ic_1 (by decide) rfl ?_
  refine r_goto (tgt := 4) C dX8_dryOnLine_63 (by decide) ?_
  refine r_lv (lv' := [(0, .ref w0), (1, .int x1), (2, .int (x2 + (1 : Int32)))]) [1, 2, 0] rfl ?_
  exact hrec4 x1 (x2 + (1 : Int32)) wh lf h
set_option maxHeartbeats 4000000 in
set_option maxRecDepth 100000 in
theorem LGX8_dryOnLine_4 {p : Program} {l : Launch} {e : Env} {s : State} {m : MethodId} {args : Array Value} {below : List Frame} {meth : Method} {c : Code} {D : va_G} {cyI cyZ cyW : ClassId} {zW zO : Nat} {A : Nat → Prop} (C : Cx p s m args meth c cX8_dryOnLine RX8 "dryOnLine" wsX8_dryOnLine (some .int) 3 D (tyA cyI cyZ cyW) zW zO A) {w0 : Nat} {w1 : Nat} {w2 : Nat} {w3 : Nat} {p0 : Nat} {p1 : Nat} {p2 : Nat} {p3 : Nat} {p4 : Nat} {wh : (Nat → Int32)} {lf : (Nat → Int32)} {co : (Nat → Int32)} {wi : Int32} {ho : Int32} {tubs : Int32} {pegs : Int32} {pwi : Int32} {flags : Int32} {pco : (Nat → Int32)} {pcl : (Nat → Int32)} {phr : (Nat → Int32)} {pho : (Nat → Int32)} {x1 : Int32} {x2 : Int32} {rec4 : Int32 → Int32 → (Nat → Int32) → (Nat → Int32) → Option (Int32 × (Nat → Int32) × (Nat → Int32))} {res : Int32 × (Nat → Int32) × (Nat → Int32)} (hrec4 : ∀ (x1 : Int32) (x2 : Int32) (wh : (Nat → Int32)) (lf : (Nat → Int32)), rec4 x1 x2 wh lf = some res → Mx p l e ({ frames := 2, cells := 0, slots := 0, locals := 42 } : Room) s m args below meth c (MQ below (QI D (tyA cyI cyZ cyW) A (wWP cyI cyZ cyW w0 w1 w2 w3 p0 p1 p2 p3 p4 res.2.1 res.2.2 co wi ho tubs pegs pwi flags pco pcl phr pho) res.1) args s 0 0 A) 3 D A 0 0 (wWP cyI cyZ cyW w0 w1 w2 w3 p0 p1 p2 p3 p4 wh lf co wi ho tubs pegs pwi flags pco pcl phr pho) 4 [(0, .ref w0), (1, .int x1), (2, .int x2)] []) (h : gX8_dryOnLine_4 rec4 x1 x2 wh lf wi flags = some res) : Mx p l e ({ frames := 2, cells := 0, slots := 0, locals := 42 } : Room) s m args below meth c (MQ below (QI D (tyA cyI cyZ cyW) A (wWP cyI cyZ cyW w0 w1 w2 w3 p0 p1 p2 p3 p4 res.2.1 res.2.2 co wi ho tubs pegs pwi flags pco pcl phr pho) res.1) args s 0 0 A) 3 D A 0 0 (wWP cyI cyZ cyW w0 w1 w2 w3 p0 p1 p2 p3 p4 wh lf co wi ho tubs pegs pwi flags pco pcl phr pho) 4 [(0, .ref w0), (1, .int x1), (2, .int x2)] [] := by
  unfold gX8_dryOnLine_4 at h
  refine r_iload_n C dX8_dryOnLine_4 2 rfl rfl ?_
  refine r_aload_n C dX8_dryOnLine_5 0 rfl rfl ?_
  refine r_get (ci := 5) (CC := RX8) (T := TX8) (N := 6) (v := .ref p0) C hinX8_dryOnLine_X8 0 rfl rfl 0 (by decide) mX8_dryOnLine_1 rfl rfl dX8_dryOnLine_6 ?_
  refine r_get (ci := 2) (CC := RX4) (T := TX4) (N := 8) (v := .int flags) C hinX8_dryOnLine_X4 4 rfl rfl 3 (by decide) mX8_dryOnLine_2 rfl rfl dX8_dryOnLine_9 ?_
  refine r_icmp_ge (tgt := 66) C dX8_dryOnLine_12 (by decide) (fun c1 => ?_) (fun c1 => ?_)
  · replace h := ob_t h c1
    refine r_iload_n C dX8_dryOnLine_66 1 rfl rfl ?_
    have h9 := Option.some.inj h
    subst h9
    exact r_iret C rfl dX8_dryOnLine_67
  · replace h := ob_f h c1
    refine r_aload_n C dX8_dryOnLine_15 0 rfl rfl ?_
    refine r_get (ci := 5) (CC := RX8) (T := TX8) (N := 6) (v := .ref w1) C hinX8_dryOnLine_X8 0 rfl rfl 1 (by decide) mX8_dryOnLine_3 rfl rfl dX8_dryOnLine_16 ?_
    refine r_iload_n C dX8_dryOnLine_19 2 rfl rfl ?_
    obtain ⟨hu2, h⟩ := ob_if h
    refine r_iald C 1 0 rfl rfl (inb_vp hu2) dX8_dryOnLine_20 ?_
    refine r_iconst (v := 2) C dX8_dryOnLine_21 ic_2 ?_
    refine r_icmp_ne (tgt := 60) C dX8_dryOnLine_22 (by decide) (fun c3 => ?_) (fun c3 => ?_)
    · replace h := ob_f h c3
      refine r_lv (lv' := [(0, .ref w0), (1, .int x1), (2, .int x2)]) [0, 1, 2] rfl ?_
      exact LX8_dryOnLine_60 C (x1 := x1) (x2 := x2) (wh := wh) (lf := lf) (co := co) (wi := wi) (ho := ho) (tubs := tubs) (pegs := pegs) (pwi := pwi) (flags := flags) (pco := pco) (pcl := pcl) (phr := phr) (pho := pho) hrec4 h
    · replace h := ob_t h c3
      refine r_aload_n C dX8_dryOnLine_25 0 rfl rfl ?_
      refine r_get (ci := 5) (CC := RX8) (T := TX8) (N := 6) (v := .ref w2) C hinX8_dryOnLine_X8 0 rfl rfl 2 (by decide) mX8_dryOnLine_4 rfl rfl dX8_dryOnLine_26 ?_
      refine r_iload_n C dX8_dryOnLine_29 2 rfl rfl ?_
      refine r_dup2 C dX8_dryOnLine_30 rfl rfl ?_
      obtain ⟨hu4, h⟩ := ob_if h
      refine r_iald C 2 0 rfl rfl (inb_vp hu4) dX8_dryOnLine_31 ?_
      refine r_iconst (v := 1) C dX8_dryOnLine_32 ic_1 ?_
      refine r_aload_n C dX8_dryOnLine_33 0 rfl rfl ?_
      refine r_get (ci := 5) (CC := RX8) (T := TX8) (N := 6) (v := .int wi) C hinX8_dryOnLine_X8 0 rfl rfl 4 (by decide) mX8_dryOnLine_5 rfl rfl dX8_dryOnLine_34 ?_
      refine r_iadd C dX8_dryOnLine_37 ?_
      refine r_isub C dX8_dryOnLine_38 ?_
      obtain ⟨hu5, h⟩ := ob_if h
      refine r_iast (ws1 := (wWP cyI cyZ cyW w0 w1 w2 w3 p0 p1 p2 p3 p4 wh (upd lf x2.toNatClampNeg ((lf x2.toNatClampNeg) - ((1 : Int32) + wi))) co wi ho tubs pegs pwi flags pco pcl phr pho)) C 2 0 rfl rfl (inb_vp hu5) rfl dX8_dryOnLine_39 ?_
      refine r_aload_n C dX8_dryOnLine_40 0 rfl rfl ?_
      refine r_get (ci := 5) (CC := RX8) (T := TX8) (N := 6) (v := .ref w2) C hinX8_dryOnLine_X8 0 rfl rfl 2 (by decide) mX8_dryOnLine_4 rfl rfl dX8_dryOnLine_41 ?_
      refine r_iload_n C dX8_dryOnLine_44 2 rfl rfl ?_
      obtain ⟨hu6, h⟩ := ob_if h
      refine r_iald C 2 0 rfl rfl (inb_vp hu6) dX8_dryOnLine_45 ?_
      refine r_if_gt (tgt := 60) C dX8_dryOnLine_46 (by decide) (fun c7 => ?_) (fun c7 => ?_)
      · replace h := ob_t h c7
        refine r_lv (lv' := [(0, .ref w0), (1, .int x1), (2, .int x2)]) [0, 1, 2] rfl ?_
        exact LX8_dryOnLine_60 C (x1 := x1) (x2 := x2) (wh := wh) (lf := (upd lf x2.toNatClampNeg ((lf x2.toNatClampNeg) - ((1 : Int32) + wi)))) (co := co) (wi := wi) (ho := ho) (tubs := tubs) (pegs := pegs) (pwi := pwi) (flags := flags) (pco := pco) (pcl := pcl) (phr := phr) (pho := pho) hrec4 h
      · replace h := ob_f h c7
        refine r_aload_n C dX8_dryOnLine_49 0 rfl rfl ?_
        refine r_iload_n C dX8_dryOnLine_50 2 rfl rfl ?_
        obtain ⟨u8, hu8, h⟩ := ob_bind h
        refine r_callVV (q0 := 0) (As := [.int x2]) (rest := []) (ws1 := (wWP cyI cyZ cyW w0 w1 w2 w3 p0 p1 p2 p3 p4 u8.1 u8.2 co wi ho tubs pegs pwi flags pco pcl phr pho)) C (kX8_bringHome (w0 := w0) (w1 := w1) (w2 := w2) (w3 := w3) (p0 := p0) (p1 := p1) (p2 := p2) (p3 := p3) (p4 := p4) (wh := wh) (lf := (upd lf x2.toNatClampNeg ((lf x2.toNatClampNeg) - ((1 : Int32) + wi)))) (co := co) (wi := wi) (ho := ho) (tubs := tubs) (pegs := pegs) (pwi := pwi) (flags := flags) (pco := pco) (pcl := pcl) (phr := phr) (pho := pho) (x1 := x2) hu8) gX8_dryOnLine_X8_bringHome rfl rfl rfl ⟨rfl, hd_X8_bringHome⟩ ⟨by decide, by decide⟩ rfl rfl rfl rfl [0, 1, 2, 3, 4, 5, 6, 7, 8] (by decide) in_30 se_30 (adrWP.trans adrWP.symm) rfl (Nat.le_of_ble_eq_true rfl) dX8_dryOnLine_51 ⟨Nat.zero_le _, Nat.zero_le _⟩ ?_
        refine r_iload_n C dX8_dryOnLine_54 1 rfl rfl ?_
        refine r_iconst (v := 1) C dX8_dryOnLine_55 ic_1 ?_
        refine r_iload_n C dX8_dryOnLine_56 2 rfl rfl ?_
        refine r_ishl C dX8_dryOnLine_57 ?_
        refine r_ior C dX8_dryOnLine_58 ?_
        refine r_istore_n (lv' := [(1, .int (x1 ||| ((1 : Int32) <<< (x2 &&& 31)))), (0, .ref w0), (2, .int x2)]) C dX8_dryOnLine_59 rfl (by decide) rfl ?_
        refine r_lv (lv' := [(0, .ref w0), (1, .int (x1 ||| ((1 : Int32) <<< (x2 &&& 31)))), (2, .int x2)]) [1, 0, 2] rfl ?_
        exact LX8_dryOnLine_60 C (x1 := (x1 ||| ((1 : Int32) <<< (x2 &&& 31)))) (x2 := x2) (wh := u8.1) (lf := u8.2) (co := co) (wi := wi) (ho := ho) (tubs := tubs) (pegs := pegs) (pwi := pwi) (flags := flags) (pco := pco) (pcl := pcl) (phr := phr) (pho := pho) hrec4 h
set_option maxHeartbeats 4000000 in
set_option maxRecDepth 100000 in
theorem LX8_dryOnLine_4 {p : Program} {l : Launch} {e : Env} {s : State} {m : MethodId} {args : Array Value} {below : List Frame} {meth : Method} {c : Code} {D : va_G} {cyI cyZ cyW : ClassId} {zW zO : Nat} {A : Nat → Prop} (C : Cx p s m args meth c cX8_dryOnLine RX8 "dryOnLine" wsX8_dryOnLine (some .int) 3 D (tyA cyI cyZ cyW) zW zO A) {w0 : Nat} {w1 : Nat} {w2 : Nat} {w3 : Nat} {p0 : Nat} {p1 : Nat} {p2 : Nat} {p3 : Nat} {p4 : Nat} {co : (Nat → Int32)} {wi : Int32} {ho : Int32} {tubs : Int32} {pegs : Int32} {pwi : Int32} {flags : Int32} {pco : (Nat → Int32)} {pcl : (Nat → Int32)} {phr : (Nat → Int32)} {pho : (Nat → Int32)}  {res : Int32 × (Nat → Int32) × (Nat → Int32)}  : ∀ (n : Nat) (x1 : Int32) (x2 : Int32) (wh : (Nat → Int32)) (lf : (Nat → Int32)), fX8_dryOnLine_4  wi flags n x1 x2 wh lf = some res → Mx p l e ({ frames := 2, cells := 0, slots := 0, locals := 42 } : Room) s m args below meth c (MQ below (QI D (tyA cyI cyZ cyW) A (wWP cyI cyZ cyW w0 w1 w2 w3 p0 p1 p2 p3 p4 res.2.1 res.2.2 co wi ho tubs pegs pwi flags pco pcl phr pho) res.1) args s 0 0 A) 3 D A 0 0 (wWP cyI cyZ cyW w0 w1 w2 w3 p0 p1 p2 p3 p4 wh lf co wi ho tubs pegs pwi flags pco pcl phr pho) 4 [(0, .ref w0), (1, .int x1), (2, .int x2)] [] := by
  intro n
  induction n with
  | zero => intro x1 x2 wh lf h; cases h
  | succ n ih => intro x1 x2 wh lf h; exact LGX8_dryOnLine_4 C ih h
set_option maxHeartbeats 4000000 in
set_option maxRecDepth 100000 in
theorem kX8_dryOnLine {l : Launch} {D : va_G} {cyI cyZ cyW : ClassId} {zW zO : Nat} {w0 : Nat} {w1 : Nat} {w2 : Nat} {w3 : Nat} {p0 : Nat} {p1 : Nat} {p2 : Nat} {p3 : Nat} {p4 : Nat} {wh : (Nat → Int32)} {lf : (Nat → Int32)} {co : (Nat → Int32)} {wi : Int32} {ho : Int32} {tubs : Int32} {pegs : Int32} {pwi : Int32} {flags : Int32} {pco : (Nat → Int32)} {pcl : (Nat → Int32)} {phr : (Nat → Int32)} {pho : (Nat → Int32)}  {res : Int32 × (Nat → Int32) × (Nat → Int32)} (h : fX8_dryOnLine wh lf wi flags = some res) : KI l yX8_dryOnLine wsX8_dryOnLine ({ frames := 2, cells := 0, slots := 0, locals := 42 } : Room) D (tyA cyI cyZ cyW) zW zO [.ref w0] (wWP cyI cyZ cyW w0 w1 w2 w3 p0 p1 p2 p3 p4 wh lf co wi ho tubs pegs pwi flags pco pcl phr pho) (wWP cyI cyZ cyW w0 w1 w2 w3 p0 p1 p2 p3 p4 res.2.1 res.2.2 co wi ho tubs pegs pwi flags pco pcl phr pho) res.1 := by
  refine enterI (cc := cX8_dryOnLine) (nL := 3) (ret := (some .int)) (by decide) rfl (Nat.le_of_ble_eq_true rfl) (fun p e s m below meth c A C => ?_)
  refine r_lv (lv' := [(0, .ref w0)]) [0] rfl ?_
  unfold fX8_dryOnLine at h
  refine r_iconst (v := 0) C dX8_dryOnLine_0 ic_0 ?_
  refine r_istore_n (lv' := [(1, .int (0 : Int32)), (0, .ref w0)]) C dX8_dryOnLine_1 rfl (by decide) rfl ?_
  refine r_iconst (v := 0) C dX8_dryOnLine_2 ic_0 ?_
  refine r_istore_n (lv' := [(2, .int (0 : Int32)), (1, .int (0 : Int32)), (0, .ref w0)]) C dX8_dryOnLine_3 rfl (by decide) rfl ?_
  refine r_lv (lv' := [(0, .ref w0), (1, .int (0 : Int32)), (2, .int (0 : Int32))]) [2, 1, 0] rfl ?_
  exact LX8_dryOnLine_4 C (co := co) (wi := wi) (ho := ho) (tubs := tubs) (pegs := pegs) (pwi := pwi) (flags := flags) (pco := pco) (pcl := pcl) (phr := phr) (pho := pho)  FU (0 : Int32) (0 : Int32) wh lf h
