/-! ===== FlagWash$Plan.makeHostile ===== -/
def fX4_makeHostile  (x1 : Int32) (x2 : Int32) (flags : Int32) (pho : (Nat → Int32)) : Option ((Nat → Int32)) :=
 ((fX4_has x1 flags).bind fun u1 => (if u1 = true then ((fX4_has x2 flags).bind fun u3 => (if u3 = true then (if inb x1 5 = true then (if inb x1 5 = true then (if inb x2 5 = true then (if inb x2 5 = true then (some (upd (upd pho x1.toNatClampNeg ((pho x1.toNatClampNeg) ||| ((1 : Int32) <<< (x2 &&& 31)))) x2.toNatClampNeg (((upd pho x1.toNatClampNeg ((pho x1.toNatClampNeg) ||| ((1 : Int32) <<< (x2 &&& 31)))) x2.toNatClampNeg) ||| ((1 : Int32) <<< (x1 &&& 31))))) else none) else none) else none) else none)
 else (some pho)))
 else (some pho)))
theorem hinX4_makeHostile_X4 : ∀ w ∈ u_ws RX4 TX4 8, w ∈ wsX4_makeHostile := fun w h => List.mem_cons_of_mem _ (List.mem_append_right _ h)
theorem mX4_makeHostile_1 : Cond.fieldLink RX4 34 "FlagWash$Plan" "hostile" "[I" ∈ wsX4_makeHostile := List.mem_of_getElem? (i := 1) rfl
theorem hd_X4_makeHostile : yX4_makeHostile.cls ≠ "java/lang/invoke/MethodHandle" ∧ yX4_makeHostile.cls ≠ "java/lang/invoke/VarHandle" ∧ (parseMethodDescriptor yX4_makeHostile.desc).map (fun d => d.parameters.length) = some 2 := by decide +kernel
set_option maxHeartbeats 4000000 in
set_option maxRecDepth 100000 in
theorem kX4_makeHostile {l : Launch} {D : va_G} {cyI cyZ cyW : ClassId} {zW zO : Nat} {p0 : Nat} {p1 : Nat} {p2 : Nat} {p3 : Nat} {p4 : Nat} {tubs : Int32} {pegs : Int32} {pwi : Int32} {flags : Int32} {pco : (Nat → Int32)} {pcl : (Nat → Int32)} {phr : (Nat → Int32)} {pho : (Nat → Int32)} {x1 : Int32} {x2 : Int32} {res : (Nat → Int32)} (h : fX4_makeHostile x1 x2 flags pho = some res) : KV l yX4_makeHostile wsX4_makeHostile ({ frames := 1, cells := 0, slots := 0, locals := 21 } : Room) D (tyA cyI cyZ cyW) zW zO [.ref p0, .int x1, .int x2] (wP cyI cyZ cyW p0 p1 p2 p3 p4 tubs pegs pwi flags pco pcl phr pho) (wP cyI cyZ cyW p0 p1 p2 p3 p4 tubs pegs pwi flags pco pcl phr res) := by
  refine enterV (cc := cX4_makeHostile) (nL := 3) (ret := none) (by decide) rfl (Nat.le_of_ble_eq_true rfl) (fun p e s m below meth c A C => ?_)
  refine r_lv (lv' := [(0, .ref p0), (1, .int x1), (2, .int x2)]) [0, 1, 2] rfl ?_
  unfold fX4_makeHostile at h
  refine r_aload_n C dX4_makeHostile_0 0 rfl rfl ?_
  refine r_iload_n C dX4_makeHostile_1 1 rfl rfl ?_
  obtain ⟨u1, hu1, h⟩ := ob_bind h
  refine r_readVI (q0 := 0) (As := [.int x1]) (rest := []) C (kX4_has (p0 := p0) (p1 := p1) (p2 := p2) (p3 := p3) (p4 := p4) (tubs := tubs) (pegs := pegs) (pwi := pwi) (flags := flags) (pco := pco) (pcl := pcl) (phr := phr) (pho := pho) (x1 := x1) hu1) gX4_makeHostile_X4_has rfl rfl rfl ⟨rfl, hd_X4_has⟩ ⟨by decide, by decide⟩ rfl rfl rfl rfl [0, 1, 2, 3, 4] (by decide) in_40 rfl (Nat.le_of_ble_eq_true rfl) dX4_makeHostile_2 ⟨Nat.zero_le _, Nat.zero_le _⟩ ?_
  refine r_ifb_eq (tgt := 40) C dX4_makeHostile_5 (by decide) (fun c2 => ?_) (fun c2 => ?_)
  · replace h := ob_bf h c2
    have h9 := Option.some.inj h
    subst h9
    exact r_vret C rfl dX4_makeHostile_40
  · replace h := ob_t h c2
    refine r_aload_n C dX4_makeHostile_8 0 rfl rfl ?_
    refine r_iload_n C dX4_makeHostile_9 2 rfl rfl ?_
    obtain ⟨u3, hu3, h⟩ := ob_bind h
    refine r_readVI (q0 := 0) (As := [.int x2]) (rest := []) C (kX4_has (p0 := p0) (p1 := p1) (p2 := p2) (p3 := p3) (p4 := p4) (tubs := tubs) (pegs := pegs) (pwi := pwi) (flags := flags) (pco := pco) (pcl := pcl) (phr := phr) (pho := pho) (x1 := x2) hu3) gX4_makeHostile_X4_has rfl rfl rfl ⟨rfl, hd_X4_has⟩ ⟨by decide, by decide⟩ rfl rfl rfl rfl [0, 1, 2, 3, 4] (by decide) in_40 rfl (Nat.le_of_ble_eq_true rfl) dX4_makeHostile_10 ⟨Nat.zero_le _, Nat.zero_le _⟩ ?_
    refine r_ifb_eq (tgt := 40) C dX4_makeHostile_13 (by decide) (fun c4 => ?_) (fun c4 => ?_)
    · replace h := ob_bf h c4
      have h9 := Option.some.inj h
      subst h9
      exact r_vret C rfl dX4_makeHostile_40
    · replace h := ob_t h c4
      refine r_aload_n C dX4_makeHostile_16 0 rfl rfl ?_
      refine r_get (ci := 2) (CC := RX4) (T := TX4) (N := 8) (v := .ref p4) C hinX4_makeHostile_X4 0 rfl rfl 7 (by decide) mX4_makeHostile_1 rfl rfl dX4_makeHostile_17 ?_
      refine r_iload_n C dX4_makeHostile_20 1 rfl rfl ?_
      refine r_dup2 C dX4_makeHostile_21 rfl rfl ?_
      obtain ⟨hu5, h⟩ := ob_if h
      refine r_iald C 4 0 rfl rfl (inb_vp hu5) dX4_makeHostile_22 ?_
      refine r_iconst (v := 1) C dX4_makeHostile_23 ic_1 ?_
      refine r_iload_n C dX4_makeHostile_24 2 rfl rfl ?_
      refine r_ishl C dX4_makeHostile_25 ?_
      refine r_ior C dX4_makeHostile_26 ?_
      obtain ⟨hu6, h⟩ := ob_if h
      refine r_iast (ws1 := (wP cyI cyZ cyW p0 p1 p2 p3 p4 tubs pegs pwi flags pco pcl phr (upd pho x1.toNatClampNeg ((pho x1.toNatClampNeg) ||| ((1 : Int32) <<< (x2 &&& 31)))))) C 4 0 rfl rfl (inb_vp hu6) rfl dX4_makeHostile_27 ?_
      refine r_aload_n C dX4_makeHostile_28 0 rfl rfl ?_
      refine r_get (ci := 2) (CC := RX4) (T := TX4) (N := 8) (v := .ref p4) C hinX4_makeHostile_X4 0 rfl rfl 7 (by decide) mX4_makeHostile_1 rfl rfl dX4_makeHostile_29 ?_
      refine r_iload_n C dX4_makeHostile_32 2 rfl rfl ?_
      refine r_dup2 C dX4_makeHostile_33 rfl rfl ?_
      obtain ⟨hu7, h⟩ := ob_if h
      refine r_iald C 4 0 rfl rfl (inb_vp hu7) dX4_makeHostile_34 ?_
      refine r_iconst (v := 1) C dX4_makeHostile_35 ic_1 ?_
      refine r_iload_n C dX4_makeHostile_36 1 rfl rfl ?_
      refine r_ishl C dX4_makeHostile_37 ?_
      refine r_ior C dX4_makeHostile_38 ?_
      obtain ⟨hu8, h⟩ := ob_if h
      refine r_iast (ws1 := (wP cyI cyZ cyW p0 p1 p2 p3 p4 tubs pegs pwi flags pco pcl phr (upd (upd pho x1.toNatClampNeg ((pho x1.toNatClampNeg) ||| ((1 : Int32) <<< (x2 &&& 31)))) x2.toNatClampNeg (((upd pho x1.toNatClampNeg ((pho x1.toNatClampNeg) ||| ((1 : Int32) <<< (x2 &&& 31)))) x2.toNatClampNeg) ||| ((1 : Int32) <<< (x1 &&& 31)))))) C 4 0 rfl rfl (inb_vp hu8) rfl dX4_makeHostile_39 ?_
      have h9 := Option.some.inj h
      subst h9
      exact r_vret C rfl dX4_makeHostile_40

/-! ===== FlagWash$Plan.notYetHostile ===== -/
def fX4_notYetHostile  (x1 : Int32) (flags : Int32) (pho : (Nat → Int32)) : Option (Int32) :=
 ((fX4_has x1 flags).bind fun u1 => (if u1 = true then ((fX4_allBits flags).bind fun u3 => (if inb x1 5 = true then (some ((u3 &&& (((1 : Int32) <<< (x1 &&& 31)) ^^^ (-1 : Int32))) &&& ((pho x1.toNatClampNeg) ^^^ (-1 : Int32)))) else none))
 else (some (0 : Int32))))
theorem hinX4_notYetHostile_X4 : ∀ w ∈ u_ws RX4 TX4 8, w ∈ wsX4_notYetHostile := fun w h => List.mem_cons_of_mem _ (List.mem_append_right _ h)
theorem mX4_notYetHostile_1 : Cond.fieldLink RX4 34 "FlagWash$Plan" "hostile" "[I" ∈ wsX4_notYetHostile := List.mem_of_getElem? (i := 1) rfl
theorem hd_X4_notYetHostile : yX4_notYetHostile.cls ≠ "java/lang/invoke/MethodHandle" ∧ yX4_notYetHostile.cls ≠ "java/lang/invoke/VarHandle" ∧ (parseMethodDescriptor yX4_notYetHostile.desc).map (fun d => d.parameters.length) = some 1 := by decide +kernel
set_option maxHeartbeats 4000000 in
set_option maxRecDepth 100000 in
theorem kX4_notYetHostile {l : Launch} {D : va_G} {cyI cyZ cyW : ClassId} {zW zO : Nat} {p0 : Nat} {p1 : Nat} {p2 : Nat} {p3 : Nat} {p4 : Nat} {tubs : Int32} {pegs : Int32} {pwi : Int32} {flags : Int32} {pco : (Nat → Int32)} {pcl : (Nat → Int32)} {phr : (Nat → Int32)} {pho : (Nat → Int32)} {x1 : Int32} {res : Int32} (h : fX4_notYetHostile x1 flags pho = some res) : KI l yX4_notYetHostile wsX4_notYetHostile ({ frames := 1, cells := 0, slots := 0, locals := 21 } : Room) D (tyA cyI cyZ cyW) zW zO [.ref p0, .int x1] (wP cyI cyZ cyW p0 p1 p2 p3 p4 tubs pegs pwi flags pco pcl phr pho) (wP cyI cyZ cyW p0 p1 p2 p3 p4 tubs pegs pwi flags pco pcl phr pho) res := by
  refine enterI (cc := cX4_notYetHostile) (nL := 2) (ret := (some .int)) (by decide) rfl (Nat.le_of_ble_eq_true rfl) (fun p e s m below meth c A C => ?_)
  refine r_lv (lv' := [(0, .ref p0), (1, .int x1)]) [0, 1] rfl ?_
  unfold fX4_notYetHostile at h
  refine r_aload_n C dX4_notYetHostile_0 0 rfl rfl ?_
  refine r_iload_n C dX4_notYetHostile_1 1 rfl rfl ?_
  obtain ⟨u1, hu1, h⟩ := ob_bind h
  refine r_readVI (q0 := 0) (As := [.int x1]) (rest := []) C (kX4_has (p0 := p0) (p1 := p1) (p2 := p2) (p3 := p3) (p4 := p4) (tubs := tubs) (pegs := pegs) (pwi := pwi) (flags := flags) (pco := pco) (pcl := pcl) (phr := phr) (pho := pho) (x1 := x1) hu1) gX4_notYetHostile_X4_has rfl rfl rfl ⟨rfl, hd_X4_has⟩ ⟨by decide, by decide⟩ rfl rfl rfl rfl [0, 1, 2, 3, 4] (by decide) in_40 rfl (Nat.le_of_ble_eq_true rfl) dX4_notYetHostile_2 ⟨Nat.zero_le _, Nat.zero_le _⟩ ?_
  refine r_ifb_eq (tgt := 30) C dX4_notYetHostile_5 (by decide) (fun c2 => ?_) (fun c2 => ?_)
  · replace h := ob_bf h c2
    refine r_iconst (v := 0) C dX4_notYetHostile_30 ic_0 ?_
    have h9 := Option.some.inj h
    subst h9
    exact r_iret C rfl dX4_notYetHostile_31
  · replace h := ob_t h c2
    refine r_aload_n C dX4_notYetHostile_8 0 rfl rfl ?_
    obtain ⟨u3, hu3, h⟩ := ob_bind h
    refine r_readVI (q0 := 0) (As := []) (rest := []) C (kX4_allBits (p0 := p0) (p1 := p1) (p2 := p2) (p3 := p3) (p4 := p4) (tubs := tubs) (pegs := pegs) (pwi := pwi) (flags := flags) (pco := pco) (pcl := pcl) (phr := phr) (pho := pho)  hu3) gX4_notYetHostile_X4_allBits rfl rfl rfl ⟨rfl, hd_X4_allBits⟩ ⟨by decide, by decide⟩ rfl rfl rfl rfl [0, 1, 2, 3, 4] (by decide) in_40 rfl (Nat.le_of_ble_eq_true rfl) dX4_notYetHostile_9 ⟨Nat.zero_le _, Nat.zero_le _⟩ ?_
    refine r_iconst (v := 1) C dX4_notYetHostile_12 ic_1 ?_
    refine r_iload_n C dX4_notYetHostile_13 1 rfl rfl ?_
    refine r_ishl C dX4_notYetHostile_14 ?_
    refine r_iconst (v := -1) C dX4_notYetHostile_15 ic_m1 ?_
    refine r_ixor C dX4_notYetHostile_16 ?_
    refine r_iand C dX4_notYetHostile_17 ?_
    refine r_aload_n C dX4_notYetHostile_18 0 rfl rfl ?_
    refine r_get (ci := 2) (CC := RX4) (T := TX4) (N := 8) (v := .ref p4) C hinX4_notYetHostile_X4 0 rfl rfl 7 (by decide) mX4_notYetHostile_1 rfl rfl dX4_notYetHostile_19 ?_
    refine r_iload_n C dX4_notYetHostile_22 1 rfl rfl ?_
    obtain ⟨hu4, h⟩ := ob_if h
    refine r_iald C 4 0 rfl rfl (inb_vp hu4) dX4_notYetHostile_23 ?_
    refine r_iconst (v := -1) C dX4_notYetHostile_24 ic_m1 ?_
    refine r_ixor C dX4_notYetHostile_25 ?_
    refine r_iand C dX4_notYetHostile_26 ?_
    refine r_goto (tgt := 31) C dX4_notYetHostile_27 (by decide) ?_
    have h9 := Option.some.inj h
    subst h9
    exact r_iret C rfl dX4_notYetHostile_31

/-! ===== FlagWash$Plan.anyNotYetHostile ===== -/
def gX4_anyNotYetHostile_2 (rec2 : Int32 → Option (Bool)) (x1 : Int32) (flags : Int32) (pho : (Nat → Int32)) : Option (Bool) :=
 (if flags ≤ x1 then (some false)
 else ((fX4_notYetHostile x1 flags pho).bind fun u2 => (if u2 = 0 then (rec2 (x1 + (1 : Int32)))
 else (some true))))
def fX4_anyNotYetHostile_2  (flags : Int32) (pho : (Nat → Int32)) : Nat → Int32 → Option (Bool)
  | 0 => fun _ => none
  | n + 1 => fun x1 => gX4_anyNotYetHostile_2 (fX4_anyNotYetHostile_2  flags pho n) x1 flags pho
def fX4_anyNotYetHostile  (flags : Int32) (pho : (Nat → Int32)) : Option (Bool) :=
 (fX4_anyNotYetHostile_2  flags pho FU (0 : Int32))
theorem hinX4_anyNotYetHostile_X4 : ∀ w ∈ u_ws RX4 TX4 8, w ∈ wsX4_anyNotYetHostile := fun w h => List.mem_cons_of_mem _ (List.mem_append_right _ h)
theorem mX4_anyNotYetHostile_1 : Cond.fieldLink RX4 21 "FlagWash$Plan" "flags" "I" ∈ wsX4_anyNotYetHostile := List.mem_of_getElem? (i := 1) rfl
theorem hd_X4_anyNotYetHostile : yX4_anyNotYetHostile.cls ≠ "java/lang/invoke/MethodHandle" ∧ yX4_anyNotYetHostile.cls ≠ "java/lang/invoke/VarHandle" ∧ (parseMethodDescriptor yX4_anyNotYetHostile.desc).map (fun d => d.parameters.length) = some 0 := by decide +kernel
set_option maxHeartbeats 4000000 in
set_option maxRecDepth 100000 in
theorem LGX4_anyNotYetHostile_2 {p : Program} {l : Launch} {e : Env} {s : State} {m : MethodId} {args : Array Value} {below : List Frame} {meth : Method} {c : Code} {D : va_G} {cyI cyZ cyW : ClassId} {zW zO : Nat} {A : Nat → Prop} (C : Cx p s m args meth c cX4_anyNotYetHostile RX4 "anyNotYetHostile" wsX4_anyNotYetHostile (some .boolean) 2 D (tyA cyI cyZ cyW) zW zO A) {p0 : Nat} {p1 : Nat} {p2 : Nat} {p3 : Nat} {p4 : Nat} {tubs : Int32} {pegs : Int32} {pwi : Int32} {flags : Int32} {pco : (Nat → Int32)} {pcl : (Nat → Int32)} {phr : (Nat → Int32)} {pho : (Nat → Int32)} {x1 : Int32} {rec2 : Int32 → Option (Bool)} {res : Bool} (hrec2 : ∀ (x1 : Int32), rec2 x1 = some res → Mx p l e ({ frames := 2, cells := 0, slots := 0, locals := 42 } : Room) s m args below meth c (MQ below (QI D (tyA cyI cyZ cyW) A (wP cyI cyZ cyW p0 p1 p2 p3 p4 tubs pegs pwi flags pco pcl phr pho) (b2i res)) args s 0 0 A) 2 D A 0 0 (wP cyI cyZ cyW p0 p1 p2 p3 p4 tubs pegs pwi flags pco pcl phr pho) 2 [(0, .ref p0), (1, .int x1)] []) (h : gX4_anyNotYetHostile_2 rec2 x1 flags pho = some res) : Mx p l e ({ frames := 2, cells := 0, slots := 0, locals := 42 } : Room) s m args below meth c (MQ below (QI D (tyA cyI cyZ cyW) A (wP cyI cyZ cyW p0 p1 p2 p3 p4 tubs pegs pwi flags pco pcl phr pho) (b2i res)) args s 0 0 A) 2 D A 0 0 (wP cyI cyZ cyW p0 p1 p2 p3 p4 tubs pegs pwi flags pco pcl phr pho) 2 [(0, .ref p0), (1, .int x1)] [] := by
  unfold gX4_anyNotYetHostile_2 at h
  refine r_iload_n C dX4_anyNotYetHostile_2 1 rfl rfl ?_
  refine r_aload_n C dX4_anyNotYetHostile_3 0 rfl rfl ?_
  refine r_get (ci := 2) (CC := RX4) (T := TX4) (N := 8) (v := .int flags) C hinX4_anyNotYetHostile_X4 0 rfl rfl 3 (by decide) mX4_anyNotYetHostile_1 rfl rfl dX4_anyNotYetHostile_4 ?_
  refine r_icmp_ge (tgt := 26) C dX4_anyNotYetHostile_7 (by decide) (fun c1 => ?_) (fun c1 => ?_)
  · replace h := ob_t h c1
    refine r_iconst (v := 0) C dX4_anyNotYetHostile_26 ic_0 ?_
    have h9 := Option.some.inj h
    subst h9
    exact r_zret (b := false) C rfl dX4_anyNotYetHostile_27
  · replace h := ob_f h c1
    refine r_aload_n C dX4_anyNotYetHostile_10 0 rfl rfl ?_
    refine r_iload_n C dX4_anyNotYetHostile_11 1 rfl rfl ?_
    obtain ⟨u2, hu2, h⟩ := ob_bind h
    refine r_readVI (q0 := 0) (As := [.int x1]) (rest := []) C (kX4_notYetHostile (p0 := p0) (p1 := p1) (p2 := p2) (p3 := p3) (p4 := p4) (tubs := tubs) (pegs := pegs) (pwi := pwi) (flags := flags) (pco := pco) (pcl := pcl) (phr := phr) (pho := pho) (x1 := x1) hu2) gX4_anyNotYetHostile_X4_notYetHostile rfl rfl rfl ⟨rfl, hd_X4_notYetHostile⟩ ⟨by decide, by decide⟩ rfl rfl rfl rfl [0, 1, 2, 3, 4] (by decide) in_40 rfl (Nat.le_of_ble_eq_true rfl) dX4_anyNotYetHostile_12 ⟨Nat.zero_le _, Nat.zero_le _⟩ ?_
    refine r_if_eq (tgt := 20) C dX4_anyNotYetHostile_15 (by decide) (fun c3 => ?_) (fun c3 => ?_)
    · replace h := ob_t h c3
      refine r_iinc (v := 1) (lv' := [(1, .int (x1 + (1 : Int32))), (0, .ref p0)]) C dX4_anyNotYetHostile_20 1 rfl ic_1 (by decide) rfl ?_
      refine r_goto (tgt := 2) C dX4_anyNotYetHostile_23 (by decide) ?_
      refine r_lv (lv' := [(0, .ref p0), (1, .int (x1 + (1 : Int32)))]) [1, 0] rfl ?_
      exact hrec2 (x1 + (1 : Int32)) h
    · replace h := ob_f h c3
      refine r_iconst (v := 1) C dX4_anyNotYetHostile_18 ic_1 ?_
      have h9 := Option.some.inj h
      subst h9
      exact r_zret (b := true) C rfl dX4_anyNotYetHostile_19
set_option maxHeartbeats 4000000 in
set_option maxRecDepth 100000 in
theorem LX4_anyNotYetHostile_2 {p : Program} {l : Launch} {e : Env} {s : State} {m : MethodId} {args : Array Value} {below : List Frame} {meth : Method} {c : Code} {D : va_G} {cyI cyZ cyW : ClassId} {zW zO : Nat} {A : Nat → Prop} (C : Cx p s m args meth c cX4_anyNotYetHostile RX4 "anyNotYetHostile" wsX4_anyNotYetHostile (some .boolean) 2 D (tyA cyI cyZ cyW) zW zO A) {p0 : Nat} {p1 : Nat} {p2 : Nat} {p3 : Nat} {p4 : Nat} {tubs : Int32} {pegs : Int32} {pwi : Int32} {flags : Int32} {pco : (Nat → Int32)} {pcl : (Nat → Int32)} {phr : (Nat → Int32)} {pho : (Nat → Int32)}  {res : Bool}  : ∀ (n : Nat) (x1 : Int32), fX4_anyNotYetHostile_2  flags pho n x1 = some res → Mx p l e ({ frames := 2, cells := 0, slots := 0, locals := 42 } : Room) s m args below meth c (MQ below (QI D (tyA cyI cyZ cyW) A (wP cyI cyZ cyW p0 p1 p2 p3 p4 tubs pegs pwi flags pco pcl phr pho) (b2i res)) args s 0 0 A) 2 D A 0 0 (wP cyI cyZ cyW p0 p1 p2 p3 p4 tubs pegs pwi flags pco pcl phr pho) 2 [(0, .ref p0), (1, .int x1)] [] := by
  intro n
  induction n with
  | zero => intro x1 h; cases h
  | succ n ih => intro x1 h; exact LGX4_anyNotYetHostile_2 C ih h
set_option maxHeartbeats 4000000 in
set_option maxRecDepth 100000 in
theorem kX4_anyNotYetHostile {l : Launch} {D : va_G} {cyI cyZ cyW : ClassId} {zW zO : Nat} {p0 : Nat} {p1 : Nat} {p2 : Nat} {p3 : Nat} {p4 : Nat} {tubs : Int32} {pegs : Int32} {pwi : Int32} {flags : Int32} {pco : (Nat → Int32)} {pcl : (Nat → Int32)} {phr : (Nat → Int32)} {pho : (Nat → Int32)}  {res : Bool} (h : fX4_anyNotYetHostile flags pho = some res) : KI l yX4_anyNotYetHostile wsX4_anyNotYetHostile ({ frames := 2, cells := 0, slots := 0, locals := 42 } : Room) D (tyA cyI cyZ cyW) zW zO [.ref p0] (wP cyI cyZ cyW p0 p1 p2 p3 p4 tubs pegs pwi flags pco pcl phr pho) (wP cyI cyZ cyW p0 p1 p2 p3 p4 tubs pegs pwi flags pco pcl phr pho) (b2i res) := by
  refine enterI (cc := cX4_anyNotYetHostile) (nL := 2) (ret := (some .boolean)) (by decide) rfl (Nat.le_of_ble_eq_true rfl) (fun p e s m below meth c A C => ?_)
  refine r_lv (lv' := [(0, .ref p0)]) [0] rfl ?_
  unfold fX4_anyNotYetHostile at h
  refine r_iconst (v := 0) C dX4_anyNotYetHostile_0 ic_0 ?_
  refine r_istore_n (lv' := [(1, .int (0 : Int32)), (0, .ref p0)]) C dX4_anyNotYetHostile_1 rfl (by decide) rfl ?_
  refine r_lv (lv' := [(0, .ref p0), (1, .int (0 : Int32))]) [1, 0] rfl ?_
  exact LX4_anyNotYetHostile_2 C (tubs := tubs) (pegs := pegs) (pwi := pwi) (flags := flags) (pco := pco) (pcl := pcl) (phr := phr) (pho := pho)  FU (0 : Int32) h

/-! ===== FlagWash.areColours ===== -/
def fX9_areColours  (x0 : Int32) : Option (Bool) :=
 (if x0 < 0 then (some false)
 else (if (15 : Int32) < x0 then (some false)
 else (some true)))
theorem hd_X9_areColours : yX9_areColours.cls ≠ "java/lang/invoke/MethodHandle" ∧ yX9_areColours.cls ≠ "java/lang/invoke/VarHandle" ∧ (parseMethodDescriptor yX9_areColours.desc).map (fun d => d.parameters.length) = some 1 := by decide +kernel
set_option maxHeartbeats 4000000 in
set_option maxRecDepth 100000 in
theorem kX9_areColours {l : Launch} {D : va_G} {cyI cyZ cyW : ClassId} {zW zO : Nat}   {x0 : Int32} {res : Bool} (h : fX9_areColours x0 = some res) : KI l yX9_areColours wsX9_areColours ({ frames := 0, cells := 0, slots := 0, locals := 0 } : Room) D (tyA cyI cyZ cyW) zW zO [.int x0] ([] : va_W) ([] : va_W) (b2i res) := by
  refine enterI (cc := cX9_areColours) (nL := 1) (ret := (some .boolean)) (by decide) rfl (Nat.le_of_ble_eq_true rfl) (fun p e s m below meth c A C => ?_)
  refine r_lv (lv' := [(0, .int x0)]) [0] rfl ?_
  unfold fX9_areColours at h
  refine r_iload_n C dX9_areColours_0 0 rfl rfl ?_
  refine r_if_lt (tgt := 14) C dX9_areColours_1 (by decide) (fun c1 => ?_) (fun c1 => ?_)
  · replace h := ob_t h c1
    refine r_iconst (v := 0) C dX9_areColours_14 ic_0 ?_
    have h9 := Option.some.inj h
    subst h9
    exact r_zret (b := false) C rfl dX9_areColours_15
  · replace h := ob_f h c1
    refine r_iload_n C dX9_areColours_4 0 rfl rfl ?_
    refine r_bipush (v := 15) C dX9_areColours_5 bp_15 ?_
    refine r_icmp_gt (tgt := 14) C dX9_areColours_7 (by decide) (fun c2 => ?_) (fun c2 => ?_)
    · replace h := ob_t h c2
      refine r_iconst (v := 0) C dX9_areColours_14 ic_0 ?_
      have h9 := Option.some.inj h
      subst h9
      exact r_zret (b := false) C rfl dX9_areColours_15
    · replace h := ob_f h c2
      refine r_iconst (v := 1) C dX9_areColours_10 ic_1 ?_
      refine r_goto (tgt := 15) C dX9_areColours_11 (by decide) ?_
      have h9 := Option.some.inj h
      subst h9
      exact r_zret (b := true) C rfl dX9_areColours_15

/-! ===== FlagWash$Shares.orders ===== -/
def fX6_orders  (x0 : Int32) : Option (Int32) :=
 (if x0 < 0 then (some (1 : Int32))
 else (if (6 : Int32) ≤ x0 then (some (1 : Int32))
 else (if inb x0 6 = true then (some (ordT x0.toNatClampNeg)) else none)))
theorem mX6_orders_1 : Cond.fieldLink RX6 9 "FlagWash$Shares" "ORDERS" "[I" ∈ wsX6_orders := List.mem_of_getElem? (i := 1) rfl
theorem hd_X6_orders : yX6_orders.cls ≠ "java/lang/invoke/MethodHandle" ∧ yX6_orders.cls ≠ "java/lang/invoke/VarHandle" ∧ (parseMethodDescriptor yX6_orders.desc).map (fun d => d.parameters.length) = some 1 := by decide +kernel
set_option maxHeartbeats 4000000 in
set_option maxRecDepth 100000 in
theorem kX6_orders {l : Launch} {D : va_G} {cyI cyZ cyW : ClassId} {zW zO : Nat}   {x0 : Int32} {res : Int32} (h : fX6_orders x0 = some res) : KI l yX6_orders wsX6_orders ({ frames := 0, cells := 0, slots := 0, locals := 0 } : Room) D (tyA cyI cyZ cyW) zW zO [.int x0] ([] : va_W) ([] : va_W) res := by
  refine enterI (cc := cX6_orders) (nL := 1) (ret := (some .int)) (by decide) rfl (Nat.le_of_ble_eq_true rfl) (fun p e s m below meth c A C => ?_)
  refine r_lv (lv' := [(0, .int x0)]) [0] rfl ?_
  unfold fX6_orders at h
  refine r_iload_n C dX6_orders_0 0 rfl rfl ?_
  refine r_if_lt (tgt := 20) C dX6_orders_1 (by decide) (fun c1 => ?_) (fun c1 => ?_)
  · replace h := ob_t h c1
    refine r_iconst (v := 1) C dX6_orders_20 ic_1 ?_
    have h9 := Option.some.inj h
    subst h9
    exact r_iret C rfl dX6_orders_21
  · replace h := ob_f h c1
    refine r_iload_n C dX6_orders_4 0 rfl rfl ?_
    refine r_getsO C mX6_orders_1 dX6_orders_5 ?_
    refine r_tlO C dX6_orders_8 ?_
    refine r_icmp_ge (tgt := 20) C dX6_orders_9 (by decide) (fun c2 => ?_) (fun c2 => ?_)
    · replace h := ob_t h c2
      refine r_iconst (v := 1) C dX6_orders_20 ic_1 ?_
      have h9 := Option.some.inj h
      subst h9
      exact r_iret C rfl dX6_orders_21
    · replace h := ob_f h c2
      refine r_getsO C mX6_orders_1 dX6_orders_12 ?_
      refine r_iload_n C dX6_orders_15 0 rfl rfl ?_
      obtain ⟨hu3, h⟩ := ob_if h
      refine r_tiO C (inb_vp hu3) dX6_orders_16 ?_
      refine r_goto (tgt := 21) C dX6_orders_17 (by decide) ?_
      have h9 := Option.some.inj h
      subst h9
      exact r_iret C rfl dX6_orders_21

/-! ===== FlagWash$Shares.inPeace ===== -/
def fX6_inPeace_48 (rec4 : Int32 → Int32 → Option (Int32)) (x1 : Int32) (x2 : Int32) (x3 : Int32) (flags : Int32) (pho : (Nat → Int32)) : Option (Int32) :=
 (rec4 x2 (x3 + (1 : Int32)))
def fX6_inPeace_45 (rec4 : Int32 → Int32 → Option (Int32)) (x1 : Int32) (x2 : Int32) (x3 : Int32) (flags : Int32) (pho : (Nat → Int32)) : Option (Int32) :=
 (fX6_inPeace_48 rec4 x1 (x2 + (1 : Int32)) x3 flags pho)
def fX6_inPeace_25 (rec4 : Int32 → Int32 → Option (Int32)) (x1 : Int32) (x2 : Int32) (x3 : Int32) (y0 : Bool) (flags : Int32) (pho : (Nat → Int32)) : Option (Int32) :=
 (if y0 = true then (fX6_inPeace_45 rec4 x1 x2 x3 flags pho)
 else (if inb x3 5 = true then ((fX9_isWithin (pho x3.toNatClampNeg) x1).bind fun u5 => (if u5 = true then (fX6_inPeace_45 rec4 x1 x2 x3 flags pho)
 else (fX6_inPeace_48 rec4 x1 x2 x3 flags pho))) else none))
def gX6_inPeace_4 (rec4 : Int32 → Int32 → Option (Int32)) (x1 : Int32) (x2 : Int32) (x3 : Int32) (flags : Int32) (pho : (Nat → Int32)) : Option (Int32) :=
 (if flags ≤ x3 then (some x2)
 else (if ((x1 >>> (x3 &&& 31)) &&& (1 : Int32)) = 0 then (fX6_inPeace_25 rec4 x1 x2 x3 false flags pho)
 else (fX6_inPeace_25 rec4 x1 x2 x3 true flags pho)))
def fX6_inPeace_4  (x1 : Int32) (flags : Int32) (pho : (Nat → Int32)) : Nat → Int32 → Int32 → Option (Int32)
  | 0 => fun _ _ => none
  | n + 1 => fun x2 x3 => gX6_inPeace_4 (fX6_inPeace_4  x1 flags pho n) x1 x2 x3 flags pho
def fX6_inPeace  (x1 : Int32) (flags : Int32) (pho : (Nat → Int32)) : Option (Int32) :=
 (fX6_inPeace_4  x1 flags pho FU (0 : Int32) (0 : Int32))
theorem hinX6_inPeace_X4 : ∀ w ∈ u_ws RX4 TX4 8, w ∈ wsX6_inPeace := fun w h => List.mem_cons_of_mem _ (List.mem_append_right _ h)
theorem mX6_inPeace_1 : Cond.fieldLink RX6 38 "FlagWash$Plan" "flags" "I" ∈ wsX6_inPeace := List.mem_of_getElem? (i := 1) rfl
theorem mX6_inPeace_2 : Cond.fieldLink RX6 42 "FlagWash$Plan" "hostile" "[I" ∈ wsX6_inPeace := List.mem_of_getElem? (i := 2) rfl
theorem mX6_inPeace_4 : Cond.initialized RX9 ∈ wsX6_inPeace := List.mem_of_getElem? (i := 4) rfl
theorem mX6_inPeace_3 : Cond.static yX9_isWithin ∈ wsX6_inPeace := List.mem_of_getElem? (i := 3) rfl
theorem hd_X6_inPeace : yX6_inPeace.cls ≠ "java/lang/invoke/MethodHandle" ∧ yX6_inPeace.cls ≠ "java/lang/invoke/VarHandle" ∧ (parseMethodDescriptor yX6_inPeace.desc).map (fun d => d.parameters.length) = some 2 := by decide +kernel
set_option maxHeartbeats 4000000 in
set_option maxRecDepth 100000 in
theorem LX6_inPeace_48 {p : Program} {l : Launch} {e : Env} {s : State} {m : MethodId} {args : Array Value} {below : List Frame} {meth : Method} {c : Code} {D : va_G} {cyI cyZ cyW : ClassId} {zW zO : Nat} {A : Nat → Prop} (C : Cx p s m args meth c cX6_inPeace RX6 "inPeace" wsX6_inPeace (some .int) 5 D (tyA cyI cyZ cyW) zW zO A) {p0 : Nat} {p1 : Nat} {p2 : Nat} {p3 : Nat} {p4 : Nat} {tubs : Int32} {pegs : Int32} {pwi : Int32} {flags : Int32} {pco : (Nat → Int32)} {pcl : (Nat → Int32)} {phr : (Nat → Int32)} {pho : (Nat → Int32)} {x1 : Int32} {x2 : Int32} {x3 : Int32} {rec4 : Int32 → Int32 → Option (Int32)} {res : Int32} (hrec4 : ∀ (x2 : Int32) (x3 : Int32), rec4 x2 x3 = some res → Mx p l e ({ frames := 1, cells := 0, slots := 0, locals := 21 } : Room) s m args below meth c (MQ below (QI D (tyA cyI cyZ cyW) A (wP cyI cyZ cyW p0 p1 p2 p3 p4 tubs pegs pwi flags pco pcl phr pho) res) args s 0 0 A) 5 D A 0 0 (wP cyI cyZ cyW p0 p1 p2 p3 p4 tubs pegs pwi flags pco pcl phr pho) 4 [(0, .ref p0), (1, .int x1), (2, .int x2), (3, .int x3)] []) (h : fX6_inPeace_48 rec4 x1 x2 x3 flags pho = some res) : Mx p l e ({ frames := 1, cells := 0, slots := 0, locals := 21 } : Room) s m args below meth c (MQ below (QI D (tyA cyI cyZ cyW) A (wP cyI cyZ cyW p0 p1 p2 p3 p4 tubs pegs pwi flags pco pcl phr pho) res) args s 0 0 A) 5 D A 0 0 (wP cyI cyZ cyW p0 p1 p2 p3 p4 tubs pegs pwi flags pco pcl phr pho) 48 [(0, .ref p0), (1, .int x1), (2, .int x2), (3, .int x3)] [] := by
  unfold fX6_inPeace_48 at h
  refine r_iinc (v := 1) (lv' := [(3, .int (x3 + (1 : Int32))), (0, .ref p0), (1, .int x1), (2, .int x2)]) C dX6_inPeace_48 3 rfl ic_1 (by decide) rfl ?_
  refine r_goto (tgt := 4) C dX6_inPeace_51 (by decide) ?_
  refine r_lv (lv' := [(0, .ref p0), (1, .int x1), (2, .int x2), (3, .int (x3 + (1 : Int32)))]) [1, 2, 3, 0] rfl ?_
  exact hrec4 x2 (x3 + (1 : Int32)) h
set_option maxHeartbeats 4000000 in
set_option maxRecDepth 100000 in
theorem LX6_inPeace_45 {p : Program} {l : Launch} {e : Env} {s : State} {m : MethodId} {args : Array Value} {below : List Frame} {meth : Method} {c : Code} {D : va_G} {cyI cyZ cyW : ClassId} {zW zO : Nat} {A : Nat → Prop} (C : Cx p s m args meth c cX6_inPeace RX6 "inPeace" wsX6_inPeace (some .int) 5 D (tyA cyI cyZ cyW) zW zO A) {p0 : Nat} {p1 : Nat} {p2 : Nat} {p3 : Nat} {p4 : Nat} {tubs : Int32} {pegs : Int32} {pwi : Int32} {flags : Int32} {pco : (Nat → Int32)} {pcl : (Nat → Int32)} {phr : (Nat → Int32)} {pho : (Nat → Int32)} {x1 : Int32} {x2 : Int32} {x3 : Int32} {rec4 : Int32 → Int32 → Option (Int32)} {res : Int32} (hrec4 : ∀ (x2 : Int32) (x3 : Int32), rec4 x2 x3 = some res → Mx p l e ({ frames := 1, cells := 0, slots := 0, locals := 21 } : Room) s m args below meth c (MQ below (QI D (tyA cyI cyZ cyW) A (wP cyI cyZ cyW p0 p1 p2 p3 p4 tubs pegs pwi flags pco pcl phr pho) res) args s 0 0 A) 5 D A 0 0 (wP cyI cyZ cyW p0 p1 p2 p3 p4 tubs pegs pwi flags pco pcl phr pho) 4 [(0, .ref p0), (1, .int x1), (2, .int x2), (3, .int x3)] []) (h : fX6_inPeace_45 rec4 x1 x2 x3 flags pho = some res) : Mx p l e ({ frames := 1, cells := 0, slots := 0, locals := 21 } : Room) s m args below meth c (MQ below (QI D (tyA cyI cyZ cyW) A (wP cyI cyZ cyW p0 p1 p2 p3 p4 tubs pegs pwi flags pco pcl phr pho) res) args s 0 0 A) 5 D A 0 0 (wP cyI cyZ cyW p0 p1 p2 p3 p4 tubs pegs pwi flags pco pcl phr pho) 45 [(0, .ref p0), (1, .int x1), (2, .int x2), (3, .int x3)] [] := by
  unfold fX6_inPeace_45 at h
  refine r_iinc (v := 1) (lv' := [(2, .int (x2 + (1 : Int32))), (0, .ref p0), (1, .int x1), (3, .int x3)]) C dX6_inPeace_45 2 rfl ic_1 (by decide) rfl ?_
  refine r_lv (lv' := [(0, .ref p0), (1, .int x1), (2, .int (x2 + (1 : Int32))), (3, .int x3)]) [1, 2, 0, 3] rfl ?_
  exact LX6_inPeace_48 C (x1 := x1) (x2 := (x2 + (1 : Int32))) (x3 := x3) (tubs := tubs) (pegs := pegs) (pwi := pwi) (flags := flags) (pco := pco) (pcl := pcl) (phr := phr) (pho := pho) hrec4 h
set_option maxHeartbeats 4000000 in
set_option maxRecDepth 100000 in
theorem LX6_inPeace_25 {p : Program} {l : Launch} {e : Env} {s : State} {m : MethodId} {args : Array Value} {below : List Frame} {meth : Method} {c : Code} {D : va_G} {cyI cyZ cyW : ClassId} {zW zO : Nat} {A : Nat → Prop} (C : Cx p s m args meth c cX6_inPeace RX6 "inPeace" wsX6_inPeace (some .int) 5 D (tyA cyI cyZ cyW) zW zO A) {p0 : Nat} {p1 : Nat} {p2 : Nat} {p3 : Nat} {p4 : Nat} {tubs : Int32} {pegs : Int32} {pwi : Int32} {flags : Int32} {pco : (Nat → Int32)} {pcl : (Nat → Int32)} {phr : (Nat → Int32)} {pho : (Nat → Int32)} {x1 : Int32} {x2 : Int32} {x3 : Int32} {y0 : Bool} {rec4 : Int32 → Int32 → Option (Int32)} {res : Int32} (hrec4 : ∀ (x2 : Int32) (x3 : Int32), rec4 x2 x3 = some res → Mx p l e ({ frames := 1, cells := 0, slots := 0, locals := 21 } : Room) s m args below meth c (MQ below (QI D (tyA cyI cyZ cyW) A (wP cyI cyZ cyW p0 p1 p2 p3 p4 tubs pegs pwi flags pco pcl phr pho) res) args s 0 0 A) 5 D A 0 0 (wP cyI cyZ cyW p0 p1 p2 p3 p4 tubs pegs pwi flags pco pcl phr pho) 4 [(0, .ref p0), (1, .int x1), (2, .int x2), (3, .int x3)] []) (h : fX6_inPeace_25 rec4 x1 x2 x3 y0 flags pho = some res) : Mx p l e ({ frames := 1, cells := 0, slots := 0, locals := 21 } : Room) s m args below meth c (MQ below (QI D (tyA cyI cyZ cyW) A (wP cyI cyZ cyW p0 p1 p2 p3 p4 tubs pegs pwi flags pco pcl phr pho) res) args s 0 0 A) 5 D A 0 0 (wP cyI cyZ cyW p0 p1 p2 p3 p4 tubs pegs pwi flags pco pcl phr pho) 25 [(0, .ref p0), (1, .int x1), (2, .int x2), (3, .int x3)] [.int (b2i y0)] := by
  unfold fX6_inPeace_25 at h
  refine r_istore (lv' := [(4, .int (b2i y0)), (0, .ref p0), (1, .int x1), (2, .int x2), (3, .int x3)]) C dX6_inPeace_25 (by decide) rfl ?_
  refine r_iload C dX6_inPeace_27 0 rfl ?_
  refine r_ifb_ne (tgt := 45) C dX6_inPeace_29 (by decide) (fun c3 => ?_) (fun c3 => ?_)
  · replace h := ob_t h c3
    refine r_lv (lv' := [(0, .ref p0), (1, .int x1), (2, .int x2), (3, .int x3)]) [1, 2, 3, 4] rfl ?_
    exact LX6_inPeace_45 C (x1 := x1) (x2 := x2) (x3 := x3) (tubs := tubs) (pegs := pegs) (pwi := pwi) (flags := flags) (pco := pco) (pcl := pcl) (phr := phr) (pho := pho) hrec4 h
  · replace h := ob_bf h c3
    refine r_aload_n C dX6_inPeace_32 1 rfl rfl ?_
    refine r_get (ci := 2) (CC := RX4) (T := TX4) (N := 8) (v := .ref p4) C hinX6_inPeace_X4 0 rfl rfl 7 (by decide) mX6_inPeace_2 rfl rfl dX6_inPeace_33 ?_
    refine r_iload_n C dX6_inPeace_36 4 rfl rfl ?_
    obtain ⟨hu4, h⟩ := ob_if h
    refine r_iald C 4 0 rfl rfl (inb_vp hu4) dX6_inPeace_37 ?_
    refine r_iload_n C dX6_inPeace_38 2 rfl rfl ?_
    obtain ⟨u5, hu5, h⟩ := ob_bind h
    refine r_readSNI (host := RX9) (As := [.int (pho x3.toNatClampNeg), .int x1]) (rest := []) C (kX9_isWithin   (x0 := (pho x3.toNatClampNeg)) (x1 := x1) hu5) gX6_inPeace_X9_isWithin_n21 rfl rfl rfl (by decide +kernel) mX6_inPeace_4 mX6_inPeace_3 hd_X9_isWithin ⟨by decide, by decide⟩ rfl [] (by decide) rfl rfl (Nat.le_of_ble_eq_true rfl) dX6_inPeace_39 ⟨Nat.zero_le _, Nat.zero_le _⟩ ?_
    refine r_ifb_eq (tgt := 48) C dX6_inPeace_42 (by decide) (fun c6 => ?_) (fun c6 => ?_)
    · replace h := ob_bf h c6
      refine r_lv (lv' := [(0, .ref p0), (1, .int x1), (2, .int x2), (3, .int x3)]) [1, 2, 3, 4] rfl ?_
      exact LX6_inPeace_48 C (x1 := x1) (x2 := x2) (x3 := x3) (tubs := tubs) (pegs := pegs) (pwi := pwi) (flags := flags) (pco := pco) (pcl := pcl) (phr := phr) (pho := pho) hrec4 h
    · replace h := ob_t h c6
      refine r_lv (lv' := [(0, .ref p0), (1, .int x1), (2, .int x2), (3, .int x3)]) [1, 2, 3, 4] rfl ?_
      exact LX6_inPeace_45 C (x1 := x1) (x2 := x2) (x3 := x3) (tubs := tubs) (pegs := pegs) (pwi := pwi) (flags := flags) (pco := pco) (pcl := pcl) (phr := phr) (pho := pho) hrec4 h
set_option maxHeartbeats 4000000 in
set_option maxRecDepth 100000 in
theorem LGX6_inPeace_4 {p : Program} {l : Launch} {e : Env} {s : State} {m : MethodId} {args : Array Value} {below : List Frame} {meth : Method} {c : Code} {D : va_G} {cyI cyZ cyW : ClassId} {zW zO : Nat} {A : Nat → Prop} (C : Cx p s m args meth c cX6_inPeace RX6 "inPeace" wsX6_inPeace (some .int) 5 D (tyA cyI cyZ cyW) zW zO A) {p0 : Nat} {p1 : Nat} {p2 : Nat} {p3 : Nat} {p4 : Nat} {tubs : Int32} {pegs : Int32} {pwi : Int32} {flags : Int32} {pco : (Nat → Int32)} {pcl : (Nat → Int32)} {phr : (Nat → Int32)} {pho : (Nat → Int32)} {x1 : Int32} {x2 : Int32} {x3 : Int32} {rec4 : Int32 → Int32 → Option (Int32)} {res : Int32} (hrec4 : ∀ (x2 : Int32) (x3 : Int32), rec4 x2 x3 = some res → Mx p l e ({ frames := 1, cells := 0, slots := 0, locals := 21 } : Room) s m args below meth c (MQ below (QI D (tyA cyI cyZ cyW) A (wP cyI cyZ cyW p0 p1 p2 p3 p4 tubs pegs pwi flags pco pcl phr pho) res) args s 0 0 A) 5 D A 0 0 (wP cyI cyZ cyW p0 p1 p2 p3 p4 tubs pegs pwi flags pco pcl phr pho) 4 [(0, .ref p0), (1, .int x1), (2, .int x2), (3, .int x3)] []) (h : gX6_inPeace_4 rec4 x1 x2 x3 flags pho = some res) : Mx p l e ({ frames := 1, cells := 0, slots := 0, locals := 21 } : Room) s m args below meth c (MQ below (QI D (tyA cyI cyZ cyW) A (wP cyI cyZ cyW p0 p1 p2 p3 p4 tubs pegs pwi flags pco pcl phr pho) res) args s 0 0 A) 5 D A 0 0 (wP cyI cyZ cyW p0 p1 p2 p3 p4 tubs pegs pwi flags pco pcl phr pho) 4 [(0, .ref p0), (1, .int x1), (2, .int x2), (3, .int x3)] [] := by
  unfold gX6_inPeace_4 at h
  refine r_iload_n C dX6_inPeace_4 3 rfl rfl ?_
  refine r_aload_n C dX6_inPeace_5 0 rfl rfl ?_
  refine r_get (ci := 2) (CC := RX4) (T := TX4) (N := 8) (v := .int flags) C hinX6_inPeace_X4 0 rfl rfl 3 (by decide) mX6_inPeace_1 rfl rfl dX6_inPeace_6 ?_
  refine r_icmp_ge (tgt := 54) C dX6_inPeace_9 (by decide) (fun c1 => ?_) (fun c1 => ?_)
  · replace h := ob_t h c1
    refine r_iload_n C dX6_inPeace_54 2 rfl rfl ?_
    have h9 := Option.some.inj h
    subst h9
    exact r_iret C rfl dX6_inPeace_55
  · replace h := ob_f h c1
    refine r_iload_n C dX6_inPeace_12 1 rfl rfl ?_
    refine r_iload_n C dX6_inPeace_13 3 rfl rfl ?_
    refine r_ishr C dX6_inPeace_14 ?_
    refine r_iconst (v := 1) C dX6_inPeace_15 ic_1 ?_
    refine r_iand C dX6_inPeace_16 ?_
    refine r_if_eq (tgt := 24) C dX6_inPeace_17 (by decide) (fun c2 => ?_) (fun c2 => ?_)
    · replace h := ob_t h c2
      refine r_iconst (v := 0) C dX6_inPeace_24 ic_0 ?_
      refine r_lv (lv' := [(0, .ref p0), (1, .int x1), (2, .int x2), (3, .int x3)]) [0, 1, 2, 3] rfl ?_
      exact LX6_inPeace_25 C (x1 := x1) (x2 := x2) (x3 := x3) (y0 := false) (tubs := tubs) (pegs := pegs) (pwi := pwi) (flags := flags) (pco := pco) (pcl := pcl) (phr := phr) (pho := pho) hrec4 h
    · replace h := ob_f h c2
      refine r_iconst (v := 1) C dX6_inPeace_20 ic_1 ?_
      refine r_goto (tgt := 25) C dX6_inPeace_21 (by decide) ?_
      refine r_lv (lv' := [(0, .ref p0), (1, .int x1), (2, .int x2), (3, .int x3)]) [0, 1, 2, 3] rfl ?_
      exact LX6_inPeace_25 C (x1 := x1) (x2 := x2) (x3 := x3) (y0 := true) (tubs := tubs) (pegs := pegs) (pwi := pwi) (flags := flags) (pco := pco) (pcl := pcl) (phr := phr) (pho := pho) hrec4 h
set_option maxHeartbeats 4000000 in
set_option maxRecDepth 100000 in
theorem LX6_inPeace_4 {p : Program} {l : Launch} {e : Env} {s : State} {m : MethodId} {args : Array Value} {below : List Frame} {meth : Method} {c : Code} {D : va_G} {cyI cyZ cyW : ClassId} {zW zO : Nat} {A : Nat → Prop} (C : Cx p s m args meth c cX6_inPeace RX6 "inPeace" wsX6_inPeace (some .int) 5 D (tyA cyI cyZ cyW) zW zO A) {p0 : Nat} {p1 : Nat} {p2 : Nat} {p3 : Nat} {p4 : Nat} {x1 : Int32} {tubs : Int32} {pegs : Int32} {pwi : Int32} {flags : Int32} {pco : (Nat → Int32)} {pcl : (Nat → Int32)} {phr : (Nat → Int32)} {pho : (Nat → Int32)}  {res : Int32}  : ∀ (n : Nat) (x2 : Int32) (x3 : Int32), fX6_inPeace_4  x1 flags pho n x2 x3 = some res → Mx p l e ({ frames := 1, cells := 0, slots := 0, locals := 21 } : Room) s m args below meth c (MQ below (QI D (tyA cyI cyZ cyW) A (wP cyI cyZ cyW p0 p1 p2 p3 p4 tubs pegs pwi flags pco pcl phr pho) res) args s 0 0 A) 5 D A 0 0 (wP cyI cyZ cyW p0 p1 p2 p3 p4 tubs pegs pwi flags pco pcl phr pho) 4 [(0, .ref p0), (1, .int x1), (2, .int x2), (3, .int x3)] [] := by
  intro n
  induction n with
  | zero => intro x2 x3 h; cases h
  | succ n ih => intro x2 x3 h; exact LGX6_inPeace_4 C ih h
set_option maxHeartbeats 4000000 in
set_option maxRecDepth 100000 in
theorem kX6_inPeace {l : Launch} {D : va_G} {cyI cyZ cyW : ClassId} {zW zO : Nat} {p0 : Nat} {p1 : Nat} {p2 : Nat} {p3 : Nat} {p4 : Nat} {tubs : Int32} {pegs : Int32} {pwi : Int32} {flags : Int32} {pco : (Nat → Int32)} {pcl : (Nat → Int32)} {phr : (Nat → Int32)} {pho : (Nat → Int32)} {x1 : Int32} {res : Int32} (h : fX6_inPeace x1 flags pho = some res) : KI l yX6_inPeace wsX6_inPeace ({ frames := 1, cells := 0, slots := 0, locals := 21 } : Room) D (tyA cyI cyZ cyW) zW zO [.ref p0, .int x1] (wP cyI cyZ cyW p0 p1 p2 p3 p4 tubs pegs pwi flags pco pcl phr pho) (wP cyI cyZ cyW p0 p1 p2 p3 p4 tubs pegs pwi flags pco pcl phr pho) res := by
  refine enterI (cc := cX6_inPeace) (nL := 5) (ret := (some .int)) (by decide) rfl (Nat.le_of_ble_eq_true rfl) (fun p e s m below meth c A C => ?_)
  refine r_lv (lv' := [(0, .ref p0), (1, .int x1)]) [0, 1] rfl ?_
  unfold fX6_inPeace at h
  refine r_iconst (v := 0) C dX6_inPeace_0 ic_0 ?_
  refine r_istore_n (lv' := [(2, .int (0 : Int32)), (0, .ref p0), (1, .int x1)]) C dX6_inPeace_1 rfl (by decide) rfl ?_
  refine r_iconst (v := 0) C dX6_inPeace_2 ic_0 ?_
  refine r_istore_n (lv' := [(3, .int (0 : Int32)), (2, .int (0 : Int32)), (0, .ref p0), (1, .int x1)]) C dX6_inPeace_3 rfl (by decide) rfl ?_
  refine r_lv (lv' := [(0, .ref p0), (1, .int x1), (2, .int (0 : Int32)), (3, .int (0 : Int32))]) [2, 3, 1, 0] rfl ?_
  exact LX6_inPeace_4 C (x1 := x1) (tubs := tubs) (pegs := pegs) (pwi := pwi) (flags := flags) (pco := pco) (pcl := pcl) (phr := phr) (pho := pho)  FU (0 : Int32) (0 : Int32) h

/-! ===== FlagWash$Shares.gainInAllOrders ===== -/
def fX6_gainInAllOrders_74 (rec4 : Int32 → Int32 → Option (Int32)) (x1 : Int32) (x2 : Int32) (x3 : Int32) (flags : Int32) (pho : (Nat → Int32)) : Option (Int32) :=
 (rec4 x2 (x3 + (1 : Int32)))
def gX6_gainInAllOrders_4 (rec4 : Int32 → Int32 → Option (Int32)) (x1 : Int32) (x2 : Int32) (x3 : Int32) (flags : Int32) (pho : (Nat → Int32)) : Option (Int32) :=
 (if (31 : Int32) < x3 then (some x2)
 else ((fX4_allBits flags).bind fun u2 => ((fX9_isWithin x3 (u2 &&& (((1 : Int32) <<< (x1 &&& 31)) ^^^ (-1 : Int32)))).bind fun u3 => (if u3 = true then ((fJ6_bitCount_0f7a4 x3).bind fun u5 => ((fX6_inPeace (x3 ||| ((1 : Int32) <<< (x1 &&& 31))) flags pho).bind fun u6 => ((fX6_inPeace x3 flags pho).bind fun u7 => ((fX6_orders u5).bind fun u8 => ((fX6_orders ((flags - (1 : Int32)) - u5)).bind fun u9 => (fX6_gainInAllOrders_74 rec4 x1 (x2 + (((u6 - u7) * u8) * u9)) x3 flags pho))))))
 else (fX6_gainInAllOrders_74 rec4 x1 x2 x3 flags pho)))))
def fX6_gainInAllOrders_4  (x1 : Int32) (flags : Int32) (pho : (Nat → Int32)) : Nat → Int32 → Int32 → Option (Int32)
  | 0 => fun _ _ => none
  | n + 1 => fun x2 x3 => gX6_gainInAllOrders_4 (fX6_gainInAllOrders_4  x1 flags pho n) x1 x2 x3 flags pho
def fX6_gainInAllOrders  (x1 : Int32) (flags : Int32) (pho : (Nat → Int32)) : Option (Int32) :=
 (fX6_gainInAllOrders_4  x1 flags pho FU (0 : Int32) (0 : Int32))
theorem mX6_gainInAllOrders_9 : Cond.initialized RX9 ∈ wsX6_gainInAllOrders := List.mem_of_getElem? (i := 9) rfl
theorem mX6_gainInAllOrders_8 : Cond.static yX9_isWithin ∈ wsX6_gainInAllOrders := List.mem_of_getElem? (i := 8) rfl
theorem hinX6_gainInAllOrders_X4 : ∀ w ∈ u_ws RX4 TX4 8, w ∈ wsX6_gainInAllOrders := fun w h => List.mem_cons_of_mem _ (List.mem_append_right _ h)
theorem mX6_gainInAllOrders_1 : Cond.fieldLink RX6 38 "FlagWash$Plan" "flags" "I" ∈ wsX6_gainInAllOrders := List.mem_of_getElem? (i := 1) rfl
theorem hd_X6_gainInAllOrders : yX6_gainInAllOrders.cls ≠ "java/lang/invoke/MethodHandle" ∧ yX6_gainInAllOrders.cls ≠ "java/lang/invoke/VarHandle" ∧ (parseMethodDescriptor yX6_gainInAllOrders.desc).map (fun d => d.parameters.length) = some 2 := by decide +kernel
set_option maxHeartbeats 4000000 in
set_option maxRecDepth 100000 in
theorem LX6_gainInAllOrders_74 {p : Program} {l : Launch} {e : Env} {s : State} {m : MethodId} {args : Array Value} {below : List Frame} {meth : Method} {c : Code} {D : va_G} {cyI cyZ cyW : ClassId} {zW zO : Nat} {A : Nat → Prop} (C : Cx p s m args meth c cX6_gainInAllOrders RX6 "gainInAllOrders" wsX6_gainInAllOrders (some .int) 6 D (tyA cyI cyZ cyW) zW zO A) {p0 : Nat} {p1 : Nat} {p2 : Nat} {p3 : Nat} {p4 : Nat} {tubs : Int32} {pegs : Int32} {pwi : Int32} {flags : Int32} {pco : (Nat → Int32)} {pcl : (Nat → Int32)} {phr : (Nat → Int32)} {pho : (Nat → Int32)} {x1 : Int32} {x2 : Int32} {x3 : Int32} {rec4 : Int32 → Int32 → Option (Int32)} {res : Int32} (hrec4 : ∀ (x2 : Int32) (x3 : Int32), rec4 x2 x3 = some res → Mx p l e ({ frames := 2, cells := 0, slots := 0, locals := 45 } : Room) s m args below meth c (MQ below (QI D (tyA cyI cyZ cyW) A (wP cyI cyZ cyW p0 p1 p2 p3 p4 tubs pegs pwi flags pco pcl phr pho) res) args s 0 0 A) 6 D A 0 0 (wP cyI cyZ cyW p0 p1 p2 p3 p4 tubs pegs pwi flags pco pcl phr pho) 4 [(0, .ref p0), (1, .int x1), (2, .int x2), (3, .int x3)] []) (h : fX6_gainInAllOrders_74 rec4 x1 x2 x3 flags pho = some res) : Mx p l e ({ frames := 2, cells := 0, slots := 0, locals := 45 } : Room) s m args below meth c (MQ below (QI D (tyA cyI cyZ cyW) A (wP cyI cyZ cyW p0 p1 p2 p3 p4 tubs pegs pwi flags pco pcl phr pho) res) args s 0 0 A) 6 D A 0 0 (wP cyI cyZ cyW p0 p1 p2 p3 p4 tubs pegs pwi flags pco pcl phr pho) 74 [(0, .ref p0), (1, .int x1), (2, .int x2), (3, .int x3)] [] := by
  unfold fX6_gainInAllOrders_74 at h
  refine r_iinc (v := 1) (lv' := [(3, .int (x3 + (1 : Int32))), (0, .ref p0), (1, .int x1), (2, .int x2)]) C dX6_gainInAllOrders_74 3 rfl ic_1 (by decide) rfl ?_
  refine r_goto (tgt := 4) C dX6_gainInAllOrders_77 (by decide) ?_
  refine r_lv (lv' := [(0, .ref p0), (1, .int x1), (2, .int x2), (3, .int (x3 + (1 : Int32)))]) [1, 2, 3, 0] rfl ?_
  exact hrec4 x2 (x3 + (1 : Int32)) h
set_option maxHeartbeats 4000000 in
set_option maxRecDepth 100000 in
theorem LGX6_gainInAllOrders_4 {p : Program} {l : Launch} {e : Env} {s : State} {m : MethodId} {args : Array Value} {below : List Frame} {meth : Method} {c : Code} {D : va_G} {cyI cyZ cyW : ClassId} {zW zO : Nat} {A : Nat → Prop} (C : Cx p s m args meth c cX6_gainInAllOrders RX6 "gainInAllOrders" wsX6_gainInAllOrders (some .int) 6 D (tyA cyI cyZ cyW) zW zO A) {p0 : Nat} {p1 : Nat} {p2 : Nat} {p3 : Nat} {p4 : Nat} {tubs : Int32} {pegs : Int32} {pwi : Int32} {flags : Int32} {pco : (Nat → Int32)} {pcl : (Nat → Int32)} {phr : (Nat → Int32)} {pho : (Nat → Int32)} {x1 : Int32} {x2 : Int32} {x3 : Int32} {rec4 : Int32 → Int32 → Option (Int32)} {res : Int32} (hrec4 : ∀ (x2 : Int32) (x3 : Int32), rec4 x2 x3 = some res → Mx p l e ({ frames := 2, cells := 0, slots := 0, locals := 45 } : Room) s m args below meth c (MQ below (QI D (tyA cyI cyZ cyW) A (wP cyI cyZ cyW p0 p1 p2 p3 p4 tubs pegs pwi flags pco pcl phr pho) res) args s 0 0 A) 6 D A 0 0 (wP cyI cyZ cyW p0 p1 p2 p3 p4 tubs pegs pwi flags pco pcl phr pho) 4 [(0, .ref p0), (1, .int x1), (2, .int x2), (3, .int x3)] []) (h : gX6_gainInAllOrders_4 rec4 x1 x2 x3 flags pho = some res) : Mx p l e ({ frames := 2, cells := 0, slots := 0, locals := 45 } : Room) s m args below meth c (MQ below (QI D (tyA cyI cyZ cyW) A (wP cyI cyZ cyW p0 p1 p2 p3 p4 tubs pegs pwi flags pco pcl phr pho) res) args s 0 0 A) 6 D A 0 0 (wP cyI cyZ cyW p0 p1 p2 p3 p4 tubs pegs pwi flags pco pcl phr pho) 4 [(0, .ref p0), (1, .int x1), (2, .int x2), (3, .int x3)] [] := by
  unfold gX6_gainInAllOrders_4 at h
  refine r_iload_n C dX6_gainInAllOrders_4 3 rfl rfl ?_
  refine r_bipush (v := 31) C dX6_gainInAllOrders_5 bp_31 ?_
  refine r_icmp_gt (tgt := 80) C dX6_gainInAllOrders_7 (by decide) (fun c1 => ?_) (fun c1 => ?_)
  · replace h := ob_t h c1
    refine r_iload_n C dX6_gainInAllOrders_80 2 rfl rfl ?_
    have h9 := Option.some.inj h
    subst h9
    exact r_iret C rfl dX6_gainInAllOrders_81
  · replace h := ob_f h c1
    refine r_iload_n C dX6_gainInAllOrders_10 3 rfl rfl ?_
    refine r_aload_n C dX6_gainInAllOrders_11 0 rfl rfl ?_
    obtain ⟨u2, hu2, h⟩ := ob_bind h
    refine r_readVI (q0 := 0) (As := []) (rest := [.int x3]) C (kX4_allBits (p0 := p0) (p1 := p1) (p2 := p2) (p3 := p3) (p4 := p4) (tubs := tubs) (pegs := pegs) (pwi := pwi) (flags := flags) (pco := pco) (pcl := pcl) (phr := phr) (pho := pho)  hu2) gX6_gainInAllOrders_X4_allBits rfl rfl rfl ⟨rfl, hd_X4_allBits⟩ ⟨by decide, by decide⟩ rfl rfl rfl rfl [0, 1, 2, 3, 4] (by decide) in_40 rfl (Nat.le_of_ble_eq_true rfl) dX6_gainInAllOrders_12 ⟨Nat.zero_le _, Nat.zero_le _⟩ ?_
    refine r_iconst (v := 1) C dX6_gainInAllOrders_15 ic_1 ?_
    refine r_iload_n C dX6_gainInAllOrders_16 1 rfl rfl ?_
    refine r_ishl C dX6_gainInAllOrders_17 ?_
    refine r_iconst (v := -1) C dX6_gainInAllOrders_18 ic_m1 ?_
    refine r_ixor C dX6_gainInAllOrders_19 ?_
    refine r_iand C dX6_gainInAllOrders_20 ?_
    obtain ⟨u3, hu3, h⟩ := ob_bind h
    refine r_readSNI (host := RX9) (As := [.int x3, .int (u2 &&& (((1 : Int32) <<< (x1 &&& 31)) ^^^ (-1 : Int32)))]) (rest := []) C (kX9_isWithin   (x0 := x3) (x1 := (u2 &&& (((1 : Int32) <<< (x1 &&& 31)) ^^^ (-1 : Int32)))) hu3) gX6_gainInAllOrders_X9_isWithin_n21 rfl rfl rfl (by decide +kernel) mX6_gainInAllOrders_9 mX6_gainInAllOrders_8 hd_X9_isWithin ⟨by decide, by decide⟩ rfl [] (by decide) rfl rfl (Nat.le_of_ble_eq_true rfl) dX6_gainInAllOrders_21 ⟨Nat.zero_le _, Nat.zero_le _⟩ ?_
    refine r_ifb_eq (tgt := 74) C dX6_gainInAllOrders_24 (by decide) (fun c4 => ?_) (fun c4 => ?_)
    · replace h := ob_bf h c4
      refine r_lv (lv' := [(0, .ref p0), (1, .int x1), (2, .int x2), (3, .int x3)]) [0, 1, 2, 3] rfl ?_
      exact LX6_gainInAllOrders_74 C (x1 := x1) (x2 := x2) (x3 := x3) (tubs := tubs) (pegs := pegs) (pwi := pwi) (flags := flags) (pco := pco) (pcl := pcl) (phr := phr) (pho := pho) hrec4 h
    · replace h := ob_t h c4
      refine r_iload_n C dX6_gainInAllOrders_27 3 rfl rfl ?_
      obtain ⟨u5, hu5, h⟩ := ob_bind h
      refine r_readSI (As := [.int x3]) (rest := []) C (kJ6_bitCount_0f7a4   (x0 := x3) hu5) gX6_gainInAllOrders_J6_bitCount_0f7a4 rfl rfl rfl hd_J6_bitCount_0f7a4 ⟨by decide, by decide⟩ rfl [] (by decide) rfl rfl (Nat.le_of_ble_eq_true rfl) dX6_gainInAllOrders_28 ⟨Nat.zero_le _, Nat.zero_le _⟩ ?_
      refine r_istore (lv' := [(4, .int u5), (0, .ref p0), (1, .int x1), (2, .int x2), (3, .int x3)]) C dX6_gainInAllOrders_31 (by decide) rfl ?_
      refine r_aload_n C dX6_gainInAllOrders_33 1 rfl rfl ?_
      refine r_iload_n C dX6_gainInAllOrders_34 4 rfl rfl ?_
      refine r_iconst (v := 1) C dX6_gainInAllOrders_35 ic_1 ?_
      refine r_iload_n C dX6_gainInAllOrders_36 2 rfl rfl ?_
      refine r_ishl C dX6_gainInAllOrders_37 ?_
      refine r_ior C dX6_gainInAllOrders_38 ?_
      obtain ⟨u6, hu6, h⟩ := ob_bind h
      refine r_readSI (As := [.ref p0, .int (x3 ||| ((1 : Int32) <<< (x1 &&& 31)))]) (rest := []) C (kX6_inPeace (p0 := p0) (p1 := p1) (p2 := p2) (p3 := p3) (p4 := p4) (tubs := tubs) (pegs := pegs) (pwi := pwi) (flags := flags) (pco := pco) (pcl := pcl) (phr := phr) (pho := pho) (x1 := (x3 ||| ((1 : Int32) <<< (x1 &&& 31)))) hu6) gX6_gainInAllOrders_X6_inPeace rfl rfl rfl hd_X6_inPeace ⟨by decide, by decide⟩ rfl [0, 1, 2, 3, 4] (by decide) in_40 rfl (Nat.le_of_ble_eq_true rfl) dX6_gainInAllOrders_39 ⟨Nat.zero_le _, Nat.zero_le _⟩ ?_
      refine r_aload_n C dX6_gainInAllOrders_42 1 rfl rfl ?_
      refine r_iload_n C dX6_gainInAllOrders_43 4 rfl rfl ?_
      obtain ⟨u7, hu7, h⟩ := ob_bind h
      refine r_readSI (As := [.ref p0, .int x3]) (rest := [.int u6]) C (kX6_inPeace (p0 := p0) (p1 := p1) (p2 := p2) (p3 := p3) (p4 := p4) (tubs := tubs) (pegs := pegs) (pwi := pwi) (flags := flags) (pco := pco) (pcl := pcl) (phr := phr) (pho := pho) (x1 := x3) hu7) gX6_gainInAllOrders_X6_inPeace rfl rfl rfl hd_X6_inPeace ⟨by decide, by decide⟩ rfl [0, 1, 2, 3, 4] (by decide) in_40 rfl (Nat.le_of_ble_eq_true rfl) dX6_gainInAllOrders_44 ⟨Nat.zero_le _, Nat.zero_le _⟩ ?_
      refine r_isub C dX6_gainInAllOrders_47 ?_
      refine r_istore (lv' := [(5, .int (u6 - u7)), (4, .int u5), (0, .ref p0), (1, .int x1), (2, .int x2), (3, .int x3)]) C dX6_gainInAllOrders_48 (by decide) rfl ?_
      refine r_iload_n C dX6_gainInAllOrders_50 4 rfl rfl ?_
      refine r_iload C dX6_gainInAllOrders_51 0 rfl ?_
      refine r_iload C dX6_gainInAllOrders_53 1 rfl ?_
      obtain ⟨u8, hu8, h⟩ := ob_bind h
      refine r_readSI (As := [.int u5]) (rest := [.int (u6 - u7), .int x2]) C (kX6_orders   (x0 := u5) hu8) gX6_gainInAllOrders_X6_orders rfl rfl rfl hd_X6_orders ⟨by decide, by decide⟩ rfl [] (by decide) rfl rfl (Nat.le_of_ble_eq_true rfl) dX6_gainInAllOrders_55 ⟨Nat.zero_le _, Nat.zero_le _⟩ ?_
      refine r_imul C dX6_gainInAllOrders_58 ?_
      refine r_aload_n C dX6_gainInAllOrders_59 2 rfl rfl ?_
      refine r_get (ci := 2) (CC := RX4) (T := TX4) (N := 8) (v := .int flags) C hinX6_gainInAllOrders_X4 0 rfl rfl 3 (by decide) mX6_gainInAllOrders_1 rfl rfl dX6_gainInAllOrders_60 ?_
      refine r_iconst (v := 1) C dX6_gainInAllOrders_63 ic_1 ?_
      refine r_isub C dX6_gainInAllOrders_64 ?_
      refine r_iload C dX6_gainInAllOrders_65 1 rfl ?_
      refine r_isub C dX6_gainInAllOrders_67 ?_
      obtain ⟨u9, hu9, h⟩ := ob_bind h
      refine r_readSI (As := [.int ((flags - (1 : Int32)) - u5)]) (rest := [.int ((u6 - u7) * u8), .int x2]) C (kX6_orders   (x0 := ((flags - (1 : Int32)) - u5)) hu9) gX6_gainInAllOrders_X6_orders rfl rfl rfl hd_X6_orders ⟨by decide, by decide⟩ rfl [] (by decide) rfl rfl (Nat.le_of_ble_eq_true rfl) dX6_gainInAllOrders_68 ⟨Nat.zero_le _, Nat.zero_le _⟩ ?_
      refine r_imul C dX6_gainInAllOrders_71 ?_
      refine r_iadd C dX6_gainInAllOrders_72 ?_
      refine r_istore_n (lv' := [(2, .int (x2 + (((u6 - u7) * u8) * u9))), (5, .int (u6 - u7)), (4, .int u5), (0, .ref p0), (1, .int x1), (3, .int x3)]) C dX6_gainInAllOrders_73 rfl (by decide) rfl ?_
      refine r_lv (lv' := [(0, .ref p0), (1, .int x1), (2, .int (x2 + (((u6 - u7) * u8) * u9))), (3, .int x3)]) [3, 4, 0, 5] rfl ?_
      exact LX6_gainInAllOrders_74 C (x1 := x1) (x2 := (x2 + (((u6 - u7) * u8) * u9))) (x3 := x3) (tubs := tubs) (pegs := pegs) (pwi := pwi) (flags := flags) (pco := pco) (pcl := pcl) (phr := phr) (pho := pho) hrec4 h
set_option maxHeartbeats 4000000 in
set_option maxRecDepth 100000 in
theorem LX6_gainInAllOrders_4 {p : Program} {l : Launch} {e : Env} {s : State} {m : MethodId} {args : Array Value} {below : List Frame} {meth : Method} {c : Code} {D : va_G} {cyI cyZ cyW : ClassId} {zW zO : Nat} {A : Nat → Prop} (C : Cx p s m args meth c cX6_gainInAllOrders RX6 "gainInAllOrders" wsX6_gainInAllOrders (some .int) 6 D (tyA cyI cyZ cyW) zW zO A) {p0 : Nat} {p1 : Nat} {p2 : Nat} {p3 : Nat} {p4 : Nat} {x1 : Int32} {tubs : Int32} {pegs : Int32} {pwi : Int32} {flags : Int32} {pco : (Nat → Int32)} {pcl : (Nat → Int32)} {phr : (Nat → Int32)} {pho : (Nat → Int32)}  {res : Int32}  : ∀ (n : Nat) (x2 : Int32) (x3 : Int32), fX6_gainInAllOrders_4  x1 flags pho n x2 x3 = some res → Mx p l e ({ frames := 2, cells := 0, slots := 0, locals := 45 } : Room) s m args below meth c (MQ below (QI D (tyA cyI cyZ cyW) A (wP cyI cyZ cyW p0 p1 p2 p3 p4 tubs pegs pwi flags pco pcl phr pho) res) args s 0 0 A) 6 D A 0 0 (wP cyI cyZ cyW p0 p1 p2 p3 p4 tubs pegs pwi flags pco pcl phr pho) 4 [(0, .ref p0), (1, .int x1), (2, .int x2), (3, .int x3)] [] := by
  intro n
  induction n with
  | zero => intro x2 x3 h; cases h
  | succ n ih => intro x2 x3 h; exact LGX6_gainInAllOrders_4 C ih h
set_option maxHeartbeats 4000000 in
set_option maxRecDepth 100000 in
theorem kX6_gainInAllOrders {l : Launch} {D : va_G} {cyI cyZ cyW : ClassId} {zW zO : Nat} {p0 : Nat} {p1 : Nat} {p2 : Nat} {p3 : Nat} {p4 : Nat} {tubs : Int32} {pegs : Int32} {pwi : Int32} {flags : Int32} {pco : (Nat → Int32)} {pcl : (Nat → Int32)} {phr : (Nat → Int32)} {pho : (Nat → Int32)} {x1 : Int32} {res : Int32} (h : fX6_gainInAllOrders x1 flags pho = some res) : KI l yX6_gainInAllOrders wsX6_gainInAllOrders ({ frames := 2, cells := 0, slots := 0, locals := 45 } : Room) D (tyA cyI cyZ cyW) zW zO [.ref p0, .int x1] (wP cyI cyZ cyW p0 p1 p2 p3 p4 tubs pegs pwi flags pco pcl phr pho) (wP cyI cyZ cyW p0 p1 p2 p3 p4 tubs pegs pwi flags pco pcl phr pho) res := by
  refine enterI (cc := cX6_gainInAllOrders) (nL := 6) (ret := (some .int)) (by decide) rfl (Nat.le_of_ble_eq_true rfl) (fun p e s m below meth c A C => ?_)
  refine r_lv (lv' := [(0, .ref p0), (1, .int x1)]) [0, 1] rfl ?_
  unfold fX6_gainInAllOrders at h
  refine r_iconst (v := 0) C dX6_gainInAllOrders_0 ic_0 ?_
  refine r_istore_n (lv' := [(2, .int (0 : Int32)), (0, .ref p0), (1, .int x1)]) C dX6_gainInAllOrders_1 rfl (by decide) rfl ?_
  refine r_iconst (v := 0) C dX6_gainInAllOrders_2 ic_0 ?_
  refine r_istore_n (lv' := [(3, .int (0 : Int32)), (2, .int (0 : Int32)), (0, .ref p0), (1, .int x1)]) C dX6_gainInAllOrders_3 rfl (by decide) rfl ?_
  refine r_lv (lv' := [(0, .ref p0), (1, .int x1), (2, .int (0 : Int32)), (3, .int (0 : Int32))]) [2, 3, 1, 0] rfl ?_
  exact LX6_gainInAllOrders_4 C (x1 := x1) (tubs := tubs) (pegs := pegs) (pwi := pwi) (flags := flags) (pco := pco) (pcl := pcl) (phr := phr) (pho := pho)  FU (0 : Int32) (0 : Int32) h

/-! ===== FlagWash.withoutLastFigures ===== -/
def gX9_withoutLastFigures_4 (rec4 : Int32 → Int32 → Option (Int32)) (x1 : Int32) (x2 : Int32) (x3 : Int32) : Option (Int32) :=
 (if x1 ≤ x3 then (some x2)
 else (rec4 (x2 / (10 : Int32)) (x3 + (1 : Int32))))
def fX9_withoutLastFigures_4  (x1 : Int32) : Nat → Int32 → Int32 → Option (Int32)
  | 0 => fun _ _ => none
  | n + 1 => fun x2 x3 => gX9_withoutLastFigures_4 (fX9_withoutLastFigures_4  x1 n) x1 x2 x3
def fX9_withoutLastFigures  (x0 : Int32) (x1 : Int32) : Option (Int32) :=
 (fX9_withoutLastFigures_4  x1 FU x0 (0 : Int32))
theorem hd_X9_withoutLastFigures : yX9_withoutLastFigures.cls ≠ "java/lang/invoke/MethodHandle" ∧ yX9_withoutLastFigures.cls ≠ "java/lang/invoke/VarHandle" ∧ (parseMethodDescriptor yX9_withoutLastFigures.desc).map (fun d => d.parameters.length) = some 2 := by decide +kernel
set_option maxHeartbeats 4000000 in
set_option maxRecDepth 100000 in
theorem LGX9_withoutLastFigures_4 {p : Program} {l : Launch} {e : Env} {s : State} {m : MethodId} {args : Array Value} {below : List Frame} {meth : Method} {c : Code} {D : va_G} {cyI cyZ cyW : ClassId} {zW zO : Nat} {A : Nat → Prop} (C : Cx p s m args meth c cX9_withoutLastFigures RX9 "withoutLastFigures" wsX9_withoutLastFigures (some .int) 4 D (tyA cyI cyZ cyW) zW zO A)   {x1 : Int32} {x2 : Int32} {x3 : Int32} {rec4 : Int32 → Int32 → Option (Int32)} {res : Int32} (hrec4 : ∀ (x2 : Int32) (x3 : Int32), rec4 x2 x3 = some res → Mx p l e ({ frames := 0, cells := 0, slots := 0, locals := 0 } : Room) s m args below meth c (MQ below (QI D (tyA cyI cyZ cyW) A ([] : va_W) res) args s 0 0 A) 4 D A 0 0 ([] : va_W) 4 [(1, .int x1), (2, .int x2), (3, .int x3)] []) (h : gX9_withoutLastFigures_4 rec4 x1 x2 x3 = some res) : Mx p l e ({ frames := 0, cells := 0, slots := 0, locals := 0 } : Room) s m args below meth c (MQ below (QI D (tyA cyI cyZ cyW) A ([] : va_W) res) args s 0 0 A) 4 D A 0 0 ([] : va_W) 4 [(1, .int x1), (2, .int x2), (3, .int x3)] [] := by
  unfold gX9_withoutLastFigures_4 at h
  refine r_iload_n C dX9_withoutLastFigures_4 2 rfl rfl ?_
  refine r_iload_n C dX9_withoutLastFigures_5 0 rfl rfl ?_
  refine r_icmp_ge (tgt := 20) C dX9_withoutLastFigures_6 (by decide) (fun c1 => ?_) (fun c1 => ?_)
  · replace h := ob_t h c1
    refine r_iload_n C dX9_withoutLastFigures_20 1 rfl rfl ?_
    have h9 := Option.some.inj h
    subst h9
    exact r_iret C rfl dX9_withoutLastFigures_21
  · replace h := ob_f h c1
    refine r_iload_n C dX9_withoutLastFigures_9 1 rfl rfl ?_
    refine r_bipush (v := 10) C dX9_withoutLastFigures_10 bp_10 ?_
    refine r_idiv C dX9_withoutLastFigures_12 (by decide) ?_
    refine r_istore_n (lv' := [(2, .int (x2 / (10 : Int32))), (1, .int x1), (3, .int x3)]) C dX9_withoutLastFigures_13 rfl (by decide) rfl ?_
    refine r_iinc (v := 1) (lv' := [(3, .int (x3 + (1 : Int32))), (2, .int (x2 / (10 : Int32))), (1, .int x1)]) C dX9_withoutLastFigures_14 2 rfl ic_1 (by decide) rfl ?_
    refine r_goto (tgt := 4) C dX9_withoutLastFigures_17 (by decide) ?_
    refine r_lv (lv' := [(1, .int x1), (2, .int (x2 / (10 : Int32))), (3, .int (x3 + (1 : Int32)))]) [2, 1, 0] rfl ?_
    exact hrec4 (x2 / (10 : Int32)) (x3 + (1 : Int32)) h
set_option maxHeartbeats 4000000 in
set_option maxRecDepth 100000 in
theorem LX9_withoutLastFigures_4 {p : Program} {l : Launch} {e : Env} {s : State} {m : MethodId} {args : Array Value} {below : List Frame} {meth : Method} {c : Code} {D : va_G} {cyI cyZ cyW : ClassId} {zW zO : Nat} {A : Nat → Prop} (C : Cx p s m args meth c cX9_withoutLastFigures RX9 "withoutLastFigures" wsX9_withoutLastFigures (some .int) 4 D (tyA cyI cyZ cyW) zW zO A)  {x1 : Int32}  {res : Int32}  : ∀ (n : Nat) (x2 : Int32) (x3 : Int32), fX9_withoutLastFigures_4  x1 n x2 x3 = some res → Mx p l e ({ frames := 0, cells := 0, slots := 0, locals := 0 } : Room) s m args below meth c (MQ below (QI D (tyA cyI cyZ cyW) A ([] : va_W) res) args s 0 0 A) 4 D A 0 0 ([] : va_W) 4 [(1, .int x1), (2, .int x2), (3, .int x3)] [] := by
  intro n
  induction n with
  | zero => intro x2 x3 h; cases h
  | succ n ih => intro x2 x3 h; exact LGX9_withoutLastFigures_4 C ih h
set_option maxHeartbeats 4000000 in
set_option maxRecDepth 100000 in
theorem kX9_withoutLastFigures {l : Launch} {D : va_G} {cyI cyZ cyW : ClassId} {zW zO : Nat}   {x0 : Int32} {x1 : Int32} {res : Int32} (h : fX9_withoutLastFigures x0 x1 = some res) : KI l yX9_withoutLastFigures wsX9_withoutLastFigures ({ frames := 0, cells := 0, slots := 0, locals := 0 } : Room) D (tyA cyI cyZ cyW) zW zO [.int x0, .int x1] ([] : va_W) ([] : va_W) res := by
  refine enterI (cc := cX9_withoutLastFigures) (nL := 4) (ret := (some .int)) (by decide) rfl (Nat.le_of_ble_eq_true rfl) (fun p e s m below meth c A C => ?_)
  refine r_lv (lv' := [(0, .int x0), (1, .int x1)]) [0, 1] rfl ?_
  unfold fX9_withoutLastFigures at h
  refine r_iload_n C dX9_withoutLastFigures_0 0 rfl rfl ?_
  refine r_istore_n (lv' := [(2, .int x0), (0, .int x0), (1, .int x1)]) C dX9_withoutLastFigures_1 rfl (by decide) rfl ?_
  refine r_iconst (v := 0) C dX9_withoutLastFigures_2 ic_0 ?_
  refine r_istore_n (lv' := [(3, .int (0 : Int32)), (2, .int x0), (0, .int x0), (1, .int x1)]) C dX9_withoutLastFigures_3 rfl (by decide) rfl ?_
  refine r_lv (lv' := [(1, .int x1), (2, .int x0), (3, .int (0 : Int32))]) [3, 1, 0] rfl ?_
  exact LX9_withoutLastFigures_4 C (x1 := x1)  FU x0 (0 : Int32) h
