/-! ===== FlagWash.write ===== -/
def fX9_write  (x1 : Int32) (letters : (Nat → Int32)) (length : Int32) : Option (Int32 × (Nat → Int32) × Int32) :=
 (if x1 < 0 then (some ((-2 : Int32), letters, length))
 else (if x1 ≤ (255 : Int32) then (if length < (48 : Int32) then (if inb length 48 = true then (some ((length + (1 : Int32)), (upd letters length.toNatClampNeg x1), (length + (1 : Int32)))) else none)
 else (some ((-4 : Int32), letters, length)))
 else (some ((-2 : Int32), letters, length))))
theorem hinX9_write_X9 : ∀ w ∈ u_ws RX9 TX9 12, w ∈ wsX9_write := fun w h => List.mem_cons_of_mem _ (List.mem_append_right _ h)
theorem mX9_write_1 : Cond.fieldLink RX9 13 "FlagWash" "length" "I" ∈ wsX9_write := List.mem_of_getElem? (i := 1) rfl
theorem mX9_write_2 : Cond.fieldLink RX9 9 "FlagWash" "letters" "[I" ∈ wsX9_write := List.mem_of_getElem? (i := 2) rfl
theorem hd_X9_write : yX9_write.cls ≠ "java/lang/invoke/MethodHandle" ∧ yX9_write.cls ≠ "java/lang/invoke/VarHandle" ∧ (parseMethodDescriptor yX9_write.desc).map (fun d => d.parameters.length) = some 1 := by decide +kernel
set_option maxHeartbeats 4000000 in
set_option maxRecDepth 100000 in
theorem kX9_write {l : Launch} {D : va_G} {cyI cyZ cyW : ClassId} {zW zO : Nat} {ad : Nat → Nat} {letters : (Nat → Int32)} {length : Int32} {stage : Int32} {rco : Int32} {rcl : Int32} {ron : Int32} {rtubs : Int32} {rpegs : Int32} {rpwi : Int32} {rflags : Int32} {rpco : (Nat → Int32)} {rpcl : (Nat → Int32)} {rphr : (Nat → Int32)} {rpho : (Nat → Int32)} {tubs : Int32} {pegs : Int32} {pwi : Int32} {flags : Int32} {pco : (Nat → Int32)} {pcl : (Nat → Int32)} {phr : (Nat → Int32)} {pho : (Nat → Int32)} {wh : (Nat → Int32)} {lf : (Nat → Int32)} {co : (Nat → Int32)} {wi : Int32} {ho : Int32} {twh : (Nat → Int32)} {tlf : (Nat → Int32)} {tco : (Nat → Int32)} {twi : Int32} {tho : Int32} {first : Int32} {size : Int32} {awh : (Nat → Nat → Int32)} {alf : (Nat → Nat → Int32)} {aco : (Nat → Nat → Int32)} {awi : (Nat → Int32)} {aho : (Nat → Int32)} {sfl : (Nat → Int32)} {sco : (Nat → Int32)} {swt : (Nat → Int32)} {ssz : Int32} {kwh : (Nat → Nat → Int32)} {klf : (Nat → Nat → Int32)} {kco : (Nat → Nat → Int32)} {kwi : (Nat → Int32)} {kho : (Nat → Int32)} {kept : (Nat → Int32)} {seed : Int64} {x1 : Int32} {res : Int32 × (Nat → Int32) × Int32} (h : fX9_write x1 letters length = some res) : KI l yX9_write wsX9_write ({ frames := 0, cells := 0, slots := 0, locals := 0 } : Room) D (tyA cyI cyZ cyW) zW zO [.ref (ad 0), .int x1] (wFW cyI cyZ cyW ad letters length stage rco rcl ron rtubs rpegs rpwi rflags rpco rpcl rphr rpho tubs pegs pwi flags pco pcl phr pho wh lf co wi ho twh tlf tco twi tho first size awh alf aco awi aho sfl sco swt ssz kwh klf kco kwi kho kept seed) (wFW cyI cyZ cyW ad res.2.1 res.2.2 stage rco rcl ron rtubs rpegs rpwi rflags rpco rpcl rphr rpho tubs pegs pwi flags pco pcl phr pho wh lf co wi ho twh tlf tco twi tho first size awh alf aco awi aho sfl sco swt ssz kwh klf kco kwi kho kept seed) res.1 := by
  refine enterI (cc := cX9_write) (nL := 2) (ret := (some .int)) (by decide) rfl (Nat.le_of_ble_eq_true rfl) (fun p e s m below meth c A C => ?_)
  refine r_lv (lv' := [(0, .ref (ad 0)), (1, .int x1)]) [0, 1] rfl ?_
  unfold fX9_write at h
  refine r_iload_n C dX9_write_0 1 rfl rfl ?_
  refine r_if_lt (tgt := 11) C dX9_write_1 (by decide) (fun c1 => ?_) (fun c1 => ?_)
  · replace h := ob_t h c1
    refine r_bipush (v := -2) C dX9_write_11 bp_m2 ?_
    have h9 := Option.some.inj h
    subst h9
    exact r_iret C rfl dX9_write_13
  · replace h := ob_f h c1
    refine r_iload_n C dX9_write_4 1 rfl rfl ?_
    refine r_sipush (v := 255) C dX9_write_5 sp_255 ?_
    refine r_icmp_le (tgt := 14) C dX9_write_8 (by decide) (fun c2 => ?_) (fun c2 => ?_)
    · replace h := ob_t h c2
      refine r_aload_n C dX9_write_14 0 rfl rfl ?_
      refine r_get (ci := 6) (CC := RX9) (T := TX9) (N := 12) (v := .int length) C hinX9_write_X9 0 rfl rfl 1 (by decide) mX9_write_1 rfl rfl dX9_write_15 ?_
      refine r_bipush (v := 48) C dX9_write_18 bp_48 ?_
      refine r_icmp_lt (tgt := 26) C dX9_write_20 (by decide) (fun c3 => ?_) (fun c3 => ?_)
      · replace h := ob_t h c3
        refine r_aload_n C dX9_write_26 0 rfl rfl ?_
        refine r_get (ci := 6) (CC := RX9) (T := TX9) (N := 12) (v := .ref (ad 1)) C hinX9_write_X9 0 rfl rfl 0 (by decide) mX9_write_2 rfl rfl dX9_write_27 ?_
        refine r_aload_n C dX9_write_30 0 rfl rfl ?_
        refine r_get (ci := 6) (CC := RX9) (T := TX9) (N := 12) (v := .int length) C hinX9_write_X9 0 rfl rfl 1 (by decide) mX9_write_1 rfl rfl dX9_write_31 ?_
        refine r_iload_n C dX9_write_34 1 rfl rfl ?_
        obtain ⟨hu4, h⟩ := ob_if h
        refine r_iast (ws1 := (wFW cyI cyZ cyW ad (upd letters length.toNatClampNeg x1) length stage rco rcl ron rtubs rpegs rpwi rflags rpco rpcl rphr rpho tubs pegs pwi flags pco pcl phr pho wh lf co wi ho twh tlf tco twi tho first size awh alf aco awi aho sfl sco swt ssz kwh klf kco kwi kho kept seed)) C 1 0 rfl rfl (inb_vp hu4) rfl dX9_write_35 ?_
        refine r_aload_n C dX9_write_36 0 rfl rfl ?_
        refine r_dup C dX9_write_37 rfl ?_
        refine r_get (ci := 6) (CC := RX9) (T := TX9) (N := 12) (v := .int length) C hinX9_write_X9 0 rfl rfl 1 (by decide) mX9_write_1 rfl rfl dX9_write_38 ?_
        refine r_iconst (v := 1) C dX9_write_41 ic_1 ?_
        refine r_iadd C dX9_write_42 ?_
        refine r_put (ci := 6) (CC := RX9) (T := TX9) (N := 12) (v := .int (length + (1 : Int32))) (ws1 := (wFW cyI cyZ cyW ad (upd letters length.toNatClampNeg x1) (length + (1 : Int32)) stage rco rcl ron rtubs rpegs rpwi rflags rpco rpcl rphr rpho tubs pegs pwi flags pco pcl phr pho wh lf co wi ho twh tlf tco twi tho first size awh alf aco awi aho sfl sco swt ssz kwh klf kco kwi kho kept seed)) (ty := .int) C hinX9_write_X9 tyX9 tyX9_ok nmX9 0 rfl rfl 1 (by decide) mX9_write_1 rfl rfl rfl rfl rfl (Nat.le_of_ble_eq_true rfl) rfl dX9_write_43 ?_
        refine r_aload_n C dX9_write_46 0 rfl rfl ?_
        refine r_get (ci := 6) (CC := RX9) (T := TX9) (N := 12) (v := .int (length + (1 : Int32))) C hinX9_write_X9 0 rfl rfl 1 (by decide) mX9_write_1 rfl rfl dX9_write_47 ?_
        have h9 := Option.some.inj h
        subst h9
        exact r_iret C rfl dX9_write_50
      · replace h := ob_f h c3
        refine r_bipush (v := -4) C dX9_write_23 bp_m4 ?_
        have h9 := Option.some.inj h
        subst h9
        exact r_iret C rfl dX9_write_25
    · replace h := ob_f h c2
      refine r_bipush (v := -2) C dX9_write_11 bp_m2 ?_
      have h9 := Option.some.inj h
      subst h9
      exact r_iret C rfl dX9_write_13

/-! ===== FlagWash.wipe ===== -/
def fX9_wipe  (length : Int32) : Option (Int32 × Int32) :=
 (some (length, (0 : Int32)))
theorem hinX9_wipe_X9 : ∀ w ∈ u_ws RX9 TX9 12, w ∈ wsX9_wipe := fun w h => List.mem_cons_of_mem _ (List.mem_append_right _ h)
theorem mX9_wipe_1 : Cond.fieldLink RX9 13 "FlagWash" "length" "I" ∈ wsX9_wipe := List.mem_of_getElem? (i := 1) rfl
theorem hd_X9_wipe : yX9_wipe.cls ≠ "java/lang/invoke/MethodHandle" ∧ yX9_wipe.cls ≠ "java/lang/invoke/VarHandle" ∧ (parseMethodDescriptor yX9_wipe.desc).map (fun d => d.parameters.length) = some 0 := by decide +kernel
set_option maxHeartbeats 4000000 in
set_option maxRecDepth 100000 in
theorem kX9_wipe {l : Launch} {D : va_G} {cyI cyZ cyW : ClassId} {zW zO : Nat} {ad : Nat → Nat} {letters : (Nat → Int32)} {length : Int32} {stage : Int32} {rco : Int32} {rcl : Int32} {ron : Int32} {rtubs : Int32} {rpegs : Int32} {rpwi : Int32} {rflags : Int32} {rpco : (Nat → Int32)} {rpcl : (Nat → Int32)} {rphr : (Nat → Int32)} {rpho : (Nat → Int32)} {tubs : Int32} {pegs : Int32} {pwi : Int32} {flags : Int32} {pco : (Nat → Int32)} {pcl : (Nat → Int32)} {phr : (Nat → Int32)} {pho : (Nat → Int32)} {wh : (Nat → Int32)} {lf : (Nat → Int32)} {co : (Nat → Int32)} {wi : Int32} {ho : Int32} {twh : (Nat → Int32)} {tlf : (Nat → Int32)} {tco : (Nat → Int32)} {twi : Int32} {tho : Int32} {first : Int32} {size : Int32} {awh : (Nat → Nat → Int32)} {alf : (Nat → Nat → Int32)} {aco : (Nat → Nat → Int32)} {awi : (Nat → Int32)} {aho : (Nat → Int32)} {sfl : (Nat → Int32)} {sco : (Nat → Int32)} {swt : (Nat → Int32)} {ssz : Int32} {kwh : (Nat → Nat → Int32)} {klf : (Nat → Nat → Int32)} {kco : (Nat → Nat → Int32)} {kwi : (Nat → Int32)} {kho : (Nat → Int32)} {kept : (Nat → Int32)} {seed : Int64}  {res : Int32 × Int32} (h : fX9_wipe length = some res) : KI l yX9_wipe wsX9_wipe ({ frames := 0, cells := 0, slots := 0, locals := 0 } : Room) D (tyA cyI cyZ cyW) zW zO [.ref (ad 0)] (wFW cyI cyZ cyW ad letters length stage rco rcl ron rtubs rpegs rpwi rflags rpco rpcl rphr rpho tubs pegs pwi flags pco pcl phr pho wh lf co wi ho twh tlf tco twi tho first size awh alf aco awi aho sfl sco swt ssz kwh klf kco kwi kho kept seed) (wFW cyI cyZ cyW ad letters res.2 stage rco rcl ron rtubs rpegs rpwi rflags rpco rpcl rphr rpho tubs pegs pwi flags pco pcl phr pho wh lf co wi ho twh tlf tco twi tho first size awh alf aco awi aho sfl sco swt ssz kwh klf kco kwi kho kept seed) res.1 := by
  refine enterI (cc := cX9_wipe) (nL := 2) (ret := (some .int)) (by decide) rfl (Nat.le_of_ble_eq_true rfl) (fun p e s m below meth c A C => ?_)
  refine r_lv (lv' := [(0, .ref (ad 0))]) [0] rfl ?_
  unfold fX9_wipe at h
  refine r_aload_n C dX9_wipe_0 0 rfl rfl ?_
  refine r_get (ci := 6) (CC := RX9) (T := TX9) (N := 12) (v := .int length) C hinX9_wipe_X9 0 rfl rfl 1 (by decide) mX9_wipe_1 rfl rfl dX9_wipe_1 ?_
  refine r_istore_n (lv' := [(1, .int length), (0, .ref (ad 0))]) C dX9_wipe_4 rfl (by decide) rfl ?_
  refine r_aload_n C dX9_wipe_5 1 rfl rfl ?_
  refine r_iconst (v := 0) C dX9_wipe_6 ic_0 ?_
  refine r_put (ci := 6) (CC := RX9) (T := TX9) (N := 12) (v := .int (0 : Int32)) (ws1 := (wFW cyI cyZ cyW ad letters (0 : Int32) stage rco rcl ron rtubs rpegs rpwi rflags rpco rpcl rphr rpho tubs pegs pwi flags pco pcl phr pho wh lf co wi ho twh tlf tco twi tho first size awh alf aco awi aho sfl sco swt ssz kwh klf kco kwi kho kept seed)) (ty := .int) C hinX9_wipe_X9 tyX9 tyX9_ok nmX9 0 rfl rfl 1 (by decide) mX9_wipe_1 rfl rfl rfl rfl rfl (Nat.le_of_ble_eq_true rfl) rfl dX9_wipe_7 ?_
  refine r_iload_n C dX9_wipe_10 0 rfl rfl ?_
  have h9 := Option.some.inj h
  subst h9
  exact r_iret C rfl dX9_wipe_11

/-! ===== FlagWash.fault ===== -/
def fX9_fault  (letters : (Nat → Int32)) (length : Int32) (rco : Int32) (rcl : Int32) (ron : Int32) (rtubs : Int32) (rpegs : Int32) (rpwi : Int32) (rpco : (Nat → Int32)) (rpcl : (Nat → Int32)) (rphr : (Nat → Int32)) (rpho : (Nat → Int32)) : Option (Int32 × Int32 × Int32 × Int32 × Int32 × Int32 × Int32 × Int32 × Int32 × (Nat → Int32) × (Nat → Int32) × (Nat → Int32) × (Nat → Int32)) :=
 ((fX5_firstFault length rco rcl ron rtubs rpegs rpwi rpco rpcl rphr rpho letters).bind fun u1 => (some (u1.1, u1.2.1, u1.2.2.1, u1.2.2.2.1, u1.2.2.2.2.1, u1.2.2.2.2.2.1, u1.2.2.2.2.2.2.1, u1.2.2.2.2.2.2.2.1, u1.2.2.2.2.2.2.2.2.1, u1.2.2.2.2.2.2.2.2.2.1, u1.2.2.2.2.2.2.2.2.2.2.1, u1.2.2.2.2.2.2.2.2.2.2.2.1, u1.2.2.2.2.2.2.2.2.2.2.2.2)))
theorem hinX9_fault_X9 : ∀ w ∈ u_ws RX9 TX9 12, w ∈ wsX9_fault := fun w h => List.mem_cons_of_mem _ (List.mem_append_left _ (List.mem_append_left _ (List.mem_append_right _ h)))
theorem mX9_fault_1 : Cond.fieldLink RX9 20 "FlagWash" "reader" "LFlagWash$Reader;" ∈ wsX9_fault := List.mem_of_getElem? (i := 1) rfl
theorem mX9_fault_2 : Cond.fieldLink RX9 9 "FlagWash" "letters" "[I" ∈ wsX9_fault := List.mem_of_getElem? (i := 2) rfl
theorem mX9_fault_3 : Cond.fieldLink RX9 13 "FlagWash" "length" "I" ∈ wsX9_fault := List.mem_of_getElem? (i := 3) rfl
theorem hd_X9_fault : yX9_fault.cls ≠ "java/lang/invoke/MethodHandle" ∧ yX9_fault.cls ≠ "java/lang/invoke/VarHandle" ∧ (parseMethodDescriptor yX9_fault.desc).map (fun d => d.parameters.length) = some 0 := by decide +kernel
set_option maxHeartbeats 4000000 in
set_option maxRecDepth 100000 in
theorem kX9_fault {l : Launch} {D : va_G} {cyI cyZ cyW : ClassId} {zW zO : Nat} {ad : Nat → Nat} {letters : (Nat → Int32)} {length : Int32} {stage : Int32} {rco : Int32} {rcl : Int32} {ron : Int32} {rtubs : Int32} {rpegs : Int32} {rpwi : Int32} {rflags : Int32} {rpco : (Nat → Int32)} {rpcl : (Nat → Int32)} {rphr : (Nat → Int32)} {rpho : (Nat → Int32)} {tubs : Int32} {pegs : Int32} {pwi : Int32} {flags : Int32} {pco : (Nat → Int32)} {pcl : (Nat → Int32)} {phr : (Nat → Int32)} {pho : (Nat → Int32)} {wh : (Nat → Int32)} {lf : (Nat → Int32)} {co : (Nat → Int32)} {wi : Int32} {ho : Int32} {twh : (Nat → Int32)} {tlf : (Nat → Int32)} {tco : (Nat → Int32)} {twi : Int32} {tho : Int32} {first : Int32} {size : Int32} {awh : (Nat → Nat → Int32)} {alf : (Nat → Nat → Int32)} {aco : (Nat → Nat → Int32)} {awi : (Nat → Int32)} {aho : (Nat → Int32)} {sfl : (Nat → Int32)} {sco : (Nat → Int32)} {swt : (Nat → Int32)} {ssz : Int32} {kwh : (Nat → Nat → Int32)} {klf : (Nat → Nat → Int32)} {kco : (Nat → Nat → Int32)} {kwi : (Nat → Int32)} {kho : (Nat → Int32)} {kept : (Nat → Int32)} {seed : Int64}  {res : Int32 × Int32 × Int32 × Int32 × Int32 × Int32 × Int32 × Int32 × Int32 × (Nat → Int32) × (Nat → Int32) × (Nat → Int32) × (Nat → Int32)} (h : fX9_fault letters length rco rcl ron rtubs rpegs rpwi rpco rpcl rphr rpho = some res) : KI l yX9_fault wsX9_fault ({ frames := 6, cells := 0, slots := 0, locals := 128 } : Room) D (tyA cyI cyZ cyW) zW zO [.ref (ad 0)] (wFW cyI cyZ cyW ad letters length stage rco rcl ron rtubs rpegs rpwi rflags rpco rpcl rphr rpho tubs pegs pwi flags pco pcl phr pho wh lf co wi ho twh tlf tco twi tho first size awh alf aco awi aho sfl sco swt ssz kwh klf kco kwi kho kept seed) (wFW cyI cyZ cyW ad letters length res.2.1 res.2.2.1 res.2.2.2.1 res.2.2.2.2.1 res.2.2.2.2.2.1 res.2.2.2.2.2.2.1 res.2.2.2.2.2.2.2.1 res.2.2.2.2.2.2.2.2.1 res.2.2.2.2.2.2.2.2.2.1 res.2.2.2.2.2.2.2.2.2.2.1 res.2.2.2.2.2.2.2.2.2.2.2.1 res.2.2.2.2.2.2.2.2.2.2.2.2 tubs pegs pwi flags pco pcl phr pho wh lf co wi ho twh tlf tco twi tho first size awh alf aco awi aho sfl sco swt ssz kwh klf kco kwi kho kept seed) res.1 := by
  refine enterI (cc := cX9_fault) (nL := 1) (ret := (some .int)) (by decide) rfl (Nat.le_of_ble_eq_true rfl) (fun p e s m below meth c A C => ?_)
  refine r_lv (lv' := [(0, .ref (ad 0))]) [0] rfl ?_
  unfold fX9_fault at h
  refine r_aload_n C dX9_fault_0 0 rfl rfl ?_
  refine r_get (ci := 6) (CC := RX9) (T := TX9) (N := 12) (v := .ref (ad 2)) C hinX9_fault_X9 0 rfl rfl 2 (by decide) mX9_fault_1 rfl rfl dX9_fault_1 ?_
  refine r_aload_n C dX9_fault_4 0 rfl rfl ?_
  refine r_get (ci := 6) (CC := RX9) (T := TX9) (N := 12) (v := .ref (ad 1)) C hinX9_fault_X9 0 rfl rfl 0 (by decide) mX9_fault_2 rfl rfl dX9_fault_5 ?_
  refine r_aload_n C dX9_fault_8 0 rfl rfl ?_
  refine r_get (ci := 6) (CC := RX9) (T := TX9) (N := 12) (v := .int length) C hinX9_fault_X9 0 rfl rfl 1 (by decide) mX9_fault_3 rfl rfl dX9_fault_9 ?_
  obtain ⟨u1, hu1, h⟩ := ob_bind h
  refine r_callVI (q0 := 0) (As := [.ref (ad 1), .int length]) (rest := []) (ws1 := (wFW cyI cyZ cyW ad letters length u1.2.1 u1.2.2.1 u1.2.2.2.1 u1.2.2.2.2.1 u1.2.2.2.2.2.1 u1.2.2.2.2.2.2.1 u1.2.2.2.2.2.2.2.1 u1.2.2.2.2.2.2.2.2.1 u1.2.2.2.2.2.2.2.2.2.1 u1.2.2.2.2.2.2.2.2.2.2.1 u1.2.2.2.2.2.2.2.2.2.2.2.1 u1.2.2.2.2.2.2.2.2.2.2.2.2 tubs pegs pwi flags pco pcl phr pho wh lf co wi ho twh tlf tco twi tho first size awh alf aco awi aho sfl sco swt ssz kwh klf kco kwi kho kept seed)) C (kX5_firstFault (r0 := (ad 2)) (p0 := (ad 3)) (p1 := (ad 4)) (p2 := (ad 5)) (p3 := (ad 6)) (p4 := (ad 7)) (l0 := (ad 1)) (stage := stage) (rco := rco) (rcl := rcl) (ron := ron) (tubs := rtubs) (pegs := rpegs) (pwi := rpwi) (flags := rflags) (pco := rpco) (pcl := rpcl) (phr := rphr) (pho := rpho) (letters := letters) (x2 := length) hu1) gX9_fault_X5_firstFault rfl rfl rfl ⟨rfl, hd_X5_firstFault⟩ ⟨by decide, by decide⟩ rfl rfl rfl rfl [2, 3, 4, 5, 6, 7, 1] (by decide) in_54 se_54 (adrFW.trans adrFW.symm) rfl (Nat.le_of_ble_eq_true rfl) dX9_fault_12 ⟨Nat.zero_le _, Nat.zero_le _⟩ ?_
  have h9 := Option.some.inj h
  subst h9
  exact r_iret C rfl dX9_fault_15

/-! ===== FlagWash.laundry ===== -/
def gX9_laundry_53 (rec53 : Int32 → (Nat → Int32) → Option (Int32 × Int32 × Int32 × Int32 × Int32 × Int32 × Int32 × Int32 × Int32 × (Nat → Int32) × (Nat → Int32) × (Nat → Int32) × (Nat → Int32) × Int32 × Int32 × Int32 × Int32 × (Nat → Int32) × (Nat → Int32) × (Nat → Int32) × (Nat → Int32) × (Nat → Int32) × (Nat → Int32) × (Nat → Int32) × Int32 × Int32 × Int32 × Int32 × (Nat → Int32))) (x1 : Int32) (stage : Int32) (rco : Int32) (rcl : Int32) (ron : Int32) (rtubs : Int32) (rpegs : Int32) (rpwi : Int32) (rflags : Int32) (rpco : (Nat → Int32)) (rpcl : (Nat → Int32)) (rphr : (Nat → Int32)) (rpho : (Nat → Int32)) (tubs : Int32) (pegs : Int32) (pwi : Int32) (flags : Int32) (pco : (Nat → Int32)) (pcl : (Nat → Int32)) (phr : (Nat → Int32)) (pho : (Nat → Int32)) (wh : (Nat → Int32)) (lf : (Nat → Int32)) (co : (Nat → Int32)) (wi : Int32) (ho : Int32) (first : Int32) (size : Int32) (kept : (Nat → Int32)) : Option (Int32 × Int32 × Int32 × Int32 × Int32 × Int32 × Int32 × Int32 × Int32 × (Nat → Int32) × (Nat → Int32) × (Nat → Int32) × (Nat → Int32) × Int32 × Int32 × Int32 × Int32 × (Nat → Int32) × (Nat → Int32) × (Nat → Int32) × (Nat → Int32) × (Nat → Int32) × (Nat → Int32) × (Nat → Int32) × Int32 × Int32 × Int32 × Int32 × (Nat → Int32)) :=
 (if (2 : Int32) ≤ x1 then (some (flags, stage, rco, rcl, ron, rtubs, rpegs, rpwi, rflags, rpco, rpcl, rphr, rpho, tubs, pegs, pwi, flags, pco, pcl, phr, pho, wh, lf, co, wi, ho, first, size, kept))
 else (if inb x1 2 = true then (rec53 (x1 + (1 : Int32)) (upd kept x1.toNatClampNeg (0 : Int32))) else none))
def fX9_laundry_53  (stage : Int32) (rco : Int32) (rcl : Int32) (ron : Int32) (rtubs : Int32) (rpegs : Int32) (rpwi : Int32) (rflags : Int32) (rpco : (Nat → Int32)) (rpcl : (Nat → Int32)) (rphr : (Nat → Int32)) (rpho : (Nat → Int32)) (tubs : Int32) (pegs : Int32) (pwi : Int32) (flags : Int32) (pco : (Nat → Int32)) (pcl : (Nat → Int32)) (phr : (Nat → Int32)) (pho : (Nat → Int32)) (wh : (Nat → Int32)) (lf : (Nat → Int32)) (co : (Nat → Int32)) (wi : Int32) (ho : Int32) (first : Int32) (size : Int32) : Nat → Int32 → (Nat → Int32) → Option (Int32 × Int32 × Int32 × Int32 × Int32 × Int32 × Int32 × Int32 × Int32 × (Nat → Int32) × (Nat → Int32) × (Nat → Int32) × (Nat → Int32) × Int32 × Int32 × Int32 × Int32 × (Nat → Int32) × (Nat → Int32) × (Nat → Int32) × (Nat → Int32) × (Nat → Int32) × (Nat → Int32) × (Nat → Int32) × Int32 × Int32 × Int32 × Int32 × (Nat → Int32))
  | 0 => fun _ _ => none
  | n + 1 => fun x1 kept => gX9_laundry_53 (fX9_laundry_53  stage rco rcl ron rtubs rpegs rpwi rflags rpco rpcl rphr rpho tubs pegs pwi flags pco pcl phr pho wh lf co wi ho first size n) x1 stage rco rcl ron rtubs rpegs rpwi rflags rpco rpcl rphr rpho tubs pegs pwi flags pco pcl phr pho wh lf co wi ho first size kept
def fX9_laundry  (letters : (Nat → Int32)) (length : Int32) (rco : Int32) (rcl : Int32) (ron : Int32) (rtubs : Int32) (rpegs : Int32) (rpwi : Int32) (rpco : (Nat → Int32)) (rpcl : (Nat → Int32)) (rphr : (Nat → Int32)) (rpho : (Nat → Int32)) (tubs : Int32) (pegs : Int32) (pwi : Int32) (flags : Int32) (pco : (Nat → Int32)) (pcl : (Nat → Int32)) (phr : (Nat → Int32)) (pho : (Nat → Int32)) (wh : (Nat → Int32)) (lf : (Nat → Int32)) (co : (Nat → Int32)) (wi : Int32) (ho : Int32) (first : Int32) (size : Int32) (kept : (Nat → Int32)) : Option (Int32 × Int32 × Int32 × Int32 × Int32 × Int32 × Int32 × Int32 × Int32 × (Nat → Int32) × (Nat → Int32) × (Nat → Int32) × (Nat → Int32) × Int32 × Int32 × Int32 × Int32 × (Nat → Int32) × (Nat → Int32) × (Nat → Int32) × (Nat → Int32) × (Nat → Int32) × (Nat → Int32) × (Nat → Int32) × Int32 × Int32 × Int32 × Int32 × (Nat → Int32)) :=
 ((fX5_firstFault length rco rcl ron rtubs rpegs rpwi rpco rpcl rphr rpho letters).bind fun u1 => (if u1.1 = (-9 : Int32) then ((fX4_copyFrom pco pcl phr pho u1.2.2.2.2.2.1 u1.2.2.2.2.2.2.1 u1.2.2.2.2.2.2.2.1 u1.2.2.2.2.2.2.2.2.1 u1.2.2.2.2.2.2.2.2.2.1 u1.2.2.2.2.2.2.2.2.2.2.1 u1.2.2.2.2.2.2.2.2.2.2.2.1 u1.2.2.2.2.2.2.2.2.2.2.2.2).bind fun u3 => ((fX8_startAnew wh lf co u3.2.2.1 u3.2.2.2.2.1).bind fun u4 => ((fX0_forgetAll ).bind fun u5 => (fX9_laundry_53  u1.2.1 u1.2.2.1 u1.2.2.2.1 u1.2.2.2.2.1 u1.2.2.2.2.2.1 u1.2.2.2.2.2.2.1 u1.2.2.2.2.2.2.2.1 u1.2.2.2.2.2.2.2.2.1 u1.2.2.2.2.2.2.2.2.2.1 u1.2.2.2.2.2.2.2.2.2.2.1 u1.2.2.2.2.2.2.2.2.2.2.2.1 u1.2.2.2.2.2.2.2.2.2.2.2.2 u3.1 u3.2.1 u3.2.2.1 u3.2.2.2.1 u3.2.2.2.2.1 u3.2.2.2.2.2.1 u3.2.2.2.2.2.2.1 u3.2.2.2.2.2.2.2 u4.1 u4.2.1 u4.2.2.1 u4.2.2.2.1 u4.2.2.2.2 u5.1 u5.2 FU (0 : Int32) kept))))
 else (some ((-3 : Int32), u1.2.1, u1.2.2.1, u1.2.2.2.1, u1.2.2.2.2.1, u1.2.2.2.2.2.1, u1.2.2.2.2.2.2.1, u1.2.2.2.2.2.2.2.1, u1.2.2.2.2.2.2.2.2.1, u1.2.2.2.2.2.2.2.2.2.1, u1.2.2.2.2.2.2.2.2.2.2.1, u1.2.2.2.2.2.2.2.2.2.2.2.1, u1.2.2.2.2.2.2.2.2.2.2.2.2, tubs, pegs, pwi, flags, pco, pcl, phr, pho, wh, lf, co, wi, ho, first, size, kept))))
theorem hinX9_laundry_X9 : ∀ w ∈ u_ws RX9 TX9 12, w ∈ wsX9_laundry := fun w h => List.mem_cons_of_mem _ (List.mem_append_left _ (List.mem_append_left _ (List.mem_append_left _ (List.mem_append_left _ (List.mem_append_right _ h)))))
theorem mX9_laundry_1 : Cond.fieldLink RX9 20 "FlagWash" "reader" "LFlagWash$Reader;" ∈ wsX9_laundry := List.mem_of_getElem? (i := 1) rfl
theorem mX9_laundry_2 : Cond.fieldLink RX9 9 "FlagWash" "letters" "[I" ∈ wsX9_laundry := List.mem_of_getElem? (i := 2) rfl
theorem mX9_laundry_3 : Cond.fieldLink RX9 13 "FlagWash" "length" "I" ∈ wsX9_laundry := List.mem_of_getElem? (i := 3) rfl
theorem mX9_laundry_4 : Cond.fieldLink RX9 27 "FlagWash" "plan" "LFlagWash$Plan;" ∈ wsX9_laundry := List.mem_of_getElem? (i := 4) rfl
theorem hinX9_laundry_X5 : ∀ w ∈ u_ws RX5 TX5 5, w ∈ wsX9_laundry := fun w h => List.mem_cons_of_mem _ (List.mem_append_left _ (List.mem_append_left _ (List.mem_append_left _ (List.mem_append_right _ h))))
theorem mX9_laundry_5 : Cond.fieldLink RX9 82 "FlagWash$Reader" "plan" "LFlagWash$Plan;" ∈ wsX9_laundry := List.mem_of_getElem? (i := 5) rfl
theorem mX9_laundry_6 : Cond.fieldLink RX9 36 "FlagWash" "now" "LFlagWash$Wash;" ∈ wsX9_laundry := List.mem_of_getElem? (i := 6) rfl
theorem mX9_laundry_7 : Cond.fieldLink RX9 55 "FlagWash" "acts" "LFlagWash$Acts;" ∈ wsX9_laundry := List.mem_of_getElem? (i := 7) rfl
theorem hinX9_laundry_X4 : ∀ w ∈ u_ws RX4 TX4 8, w ∈ wsX9_laundry := fun w h => List.mem_cons_of_mem _ (List.mem_append_left _ (List.mem_append_left _ (List.mem_append_right _ h)))
theorem mX9_laundry_9 : Cond.fieldLink RX9 92 "FlagWash$Plan" "flags" "I" ∈ wsX9_laundry := List.mem_of_getElem? (i := 9) rfl
theorem mX9_laundry_8 : Cond.fieldLink RX9 70 "FlagWash" "kept" "[Z" ∈ wsX9_laundry := List.mem_of_getElem? (i := 8) rfl
theorem hd_X9_laundry : yX9_laundry.cls ≠ "java/lang/invoke/MethodHandle" ∧ yX9_laundry.cls ≠ "java/lang/invoke/VarHandle" ∧ (parseMethodDescriptor yX9_laundry.desc).map (fun d => d.parameters.length) = some 0 := by decide +kernel
set_option maxHeartbeats 4000000 in
set_option maxRecDepth 100000 in
theorem LGX9_laundry_53 {p : Program} {l : Launch} {e : Env} {s : State} {m : MethodId} {args : Array Value} {below : List Frame} {meth : Method} {c : Code} {D : va_G} {cyI cyZ cyW : ClassId} {zW zO : Nat} {A : Nat → Prop} (C : Cx p s m args meth c cX9_laundry RX9 "laundry" wsX9_laundry (some .int) 2 D (tyA cyI cyZ cyW) zW zO A) {ad : Nat → Nat} {letters : (Nat → Int32)} {length : Int32} {stage : Int32} {rco : Int32} {rcl : Int32} {ron : Int32} {rtubs : Int32} {rpegs : Int32} {rpwi : Int32} {rflags : Int32} {rpco : (Nat → Int32)} {rpcl : (Nat → Int32)} {rphr : (Nat → Int32)} {rpho : (Nat → Int32)} {tubs : Int32} {pegs : Int32} {pwi : Int32} {flags : Int32} {pco : (Nat → Int32)} {pcl : (Nat → Int32)} {phr : (Nat → Int32)} {pho : (Nat → Int32)} {wh : (Nat → Int32)} {lf : (Nat → Int32)} {co : (Nat → Int32)} {wi : Int32} {ho : Int32} {twh : (Nat → Int32)} {tlf : (Nat → Int32)} {tco : (Nat → Int32)} {twi : Int32} {tho : Int32} {first : Int32} {size : Int32} {awh : (Nat → Nat → Int32)} {alf : (Nat → Nat → Int32)} {aco : (Nat → Nat → Int32)} {awi : (Nat → Int32)} {aho : (Nat → Int32)} {sfl : (Nat → Int32)} {sco : (Nat → Int32)} {swt : (Nat → Int32)} {ssz : Int32} {kwh : (Nat → Nat → Int32)} {klf : (Nat → Nat → Int32)} {kco : (Nat → Nat → Int32)} {kwi : (Nat → Int32)} {kho : (Nat → Int32)} {kept : (Nat → Int32)} {seed : Int64} {x1 : Int32} {rec53 : Int32 → (Nat → Int32) → Option (Int32 × Int32 × Int32 × Int32 × Int32 × Int32 × Int32 × Int32 × Int32 × (Nat → Int32) × (Nat → Int32) × (Nat → Int32) × (Nat → Int32) × Int32 × Int32 × Int32 × Int32 × (Nat → Int32) × (Nat → Int32) × (Nat → Int32) × (Nat → Int32) × (Nat → Int32) × (Nat → Int32) × (Nat → Int32) × Int32 × Int32 × Int32 × Int32 × (Nat → Int32))} {res : Int32 × Int32 × Int32 × Int32 × Int32 × Int32 × Int32 × Int32 × Int32 × (Nat → Int32) × (Nat → Int32) × (Nat → Int32) × (Nat → Int32) × Int32 × Int32 × Int32 × Int32 × (Nat → Int32) × (Nat → Int32) × (Nat → Int32) × (Nat → Int32) × (Nat → Int32) × (Nat → Int32) × (Nat → Int32) × Int32 × Int32 × Int32 × Int32 × (Nat → Int32)} (hrec53 : ∀ (x1 : Int32) (kept : (Nat → Int32)), rec53 x1 kept = some res → Mx p l e ({ frames := 6, cells := 0, slots := 0, locals := 128 } : Room) s m args below meth c (MQ below (QI D (tyA cyI cyZ cyW) A (wFW cyI cyZ cyW ad letters length res.2.1 res.2.2.1 res.2.2.2.1 res.2.2.2.2.1 res.2.2.2.2.2.1 res.2.2.2.2.2.2.1 res.2.2.2.2.2.2.2.1 res.2.2.2.2.2.2.2.2.1 res.2.2.2.2.2.2.2.2.2.1 res.2.2.2.2.2.2.2.2.2.2.1 res.2.2.2.2.2.2.2.2.2.2.2.1 res.2.2.2.2.2.2.2.2.2.2.2.2.1 res.2.2.2.2.2.2.2.2.2.2.2.2.2.1 res.2.2.2.2.2.2.2.2.2.2.2.2.2.2.1 res.2.2.2.2.2.2.2.2.2.2.2.2.2.2.2.1 res.2.2.2.2.2.2.2.2.2.2.2.2.2.2.2.2.1 res.2.2.2.2.2.2.2.2.2.2.2.2.2.2.2.2.2.1 res.2.2.2.2.2.2.2.2.2.2.2.2.2.2.2.2.2.2.1 res.2.2.2.2.2.2.2.2.2.2.2.2.2.2.2.2.2.2.2.1 res.2.2.2.2.2.2.2.2.2.2.2.2.2.2.2.2.2.2.2.2.1 res.2.2.2.2.2.2.2.2.2.2.2.2.2.2.2.2.2.2.2.2.2.1 res.2.2.2.2.2.2.2.2.2.2.2.2.2.2.2.2.2.2.2.2.2.2.1 res.2.2.2.2.2.2.2.2.2.2.2.2.2.2.2.2.2.2.2.2.2.2.2.1 res.2.2.2.2.2.2.2.2.2.2.2.2.2.2.2.2.2.2.2.2.2.2.2.2.1 res.2.2.2.2.2.2.2.2.2.2.2.2.2.2.2.2.2.2.2.2.2.2.2.2.2.1 twh tlf tco twi tho res.2.2.2.2.2.2.2.2.2.2.2.2.2.2.2.2.2.2.2.2.2.2.2.2.2.2.1 res.2.2.2.2.2.2.2.2.2.2.2.2.2.2.2.2.2.2.2.2.2.2.2.2.2.2.2.1 awh alf aco awi aho sfl sco swt ssz kwh klf kco kwi kho res.2.2.2.2.2.2.2.2.2.2.2.2.2.2.2.2.2.2.2.2.2.2.2.2.2.2.2.2 seed) res.1) args s 0 0 A) 2 D A 0 0 (wFW cyI cyZ cyW ad letters length stage rco rcl ron rtubs rpegs rpwi rflags rpco rpcl rphr rpho tubs pegs pwi flags pco pcl phr pho wh lf co wi ho twh tlf tco twi tho first size awh alf aco awi aho sfl sco swt ssz kwh klf kco kwi kho kept seed) 53 [(0, .ref (ad 0)), (1, .int x1)] []) (h : gX9_laundry_53 rec53 x1 stage rco rcl ron rtubs rpegs rpwi rflags rpco rpcl rphr rpho tubs pegs pwi flags pco pcl phr pho wh lf co wi ho first size kept = some res) : Mx p l e ({ frames := 6, cells := 0, slots := 0, locals := 128 } : Room) s m args below meth c (MQ below (QI D (tyA cyI cyZ cyW) A (wFW cyI cyZ cyW ad letters length res.2.1 res.2.2.1 res.2.2.2.1 res.2.2.2.2.1 res.2.2.2.2.2.1 res.2.2.2.2.2.2.1 res.2.2.2.2.2.2.2.1 res.2.2.2.2.2.2.2.2.1 res.2.2.2.2.2.2.2.2.2.1 res.2.2.2.2.2.2.2.2.2.2.1 res.2.2.2.2.2.2.2.2.2.2.2.1 res.2.2.2.2.2.2.2.2.2.2.2.2.1 res.2.2.2.2.2.2.2.2.2.2.2.2.2.1 res.2.2.2.2.2.2.2.2.2.2.2.2.2.2.1 res.2.2.2.2.2.2.2.2.2.2.2.2.2.2.2.1 res.2.2.2.2.2.2.2.2.2.2.2.2.2.2.2.2.1 res.2.2.2.2.2.2.2.2.2.2.2.2.2.2.2.2.2.1 res.2.2.2.2.2.2.2.2.2.2.2.2.2.2.2.2.2.2.1 res.2.2.2.2.2.2.2.2.2.2.2.2.2.2.2.2.2.2.2.1 res.2.2.2.2.2.2.2.2.2.2.2.2.2.2.2.2.2.2.2.2.1 res.2.2.2.2.2.2.2.2.2.2.2.2.2.2.2.2.2.2.2.2.2.1 res.2.2.2.2.2.2.2.2.2.2.2.2.2.2.2.2.2.2.2.2.2.2.1 res.2.2.2.2.2.2.2.2.2.2.2.2.2.2.2.2.2.2.2.2.2.2.2.1 res.2.2.2.2.2.2.2.2.2.2.2.2.2.2.2.2.2.2.2.2.2.2.2.2.1 res.2.2.2.2.2.2.2.2.2.2.2.2.2.2.2.2.2.2.2.2.2.2.2.2.2.1 twh tlf tco twi tho res.2.2.2.2.2.2.2.2.2.2.2.2.2.2.2.2.2.2.2.2.2.2.2.2.2.2.1 res.2.2.2.2.2.2.2.2.2.2.2.2.2.2.2.2.2.2.2.2.2.2.2.2.2.2.2.1 awh alf aco awi aho sfl sco swt ssz kwh klf kco kwi kho res.2.2.2.2.2.2.2.2.2.2.2.2.2.2.2.2.2.2.2.2.2.2.2.2.2.2.2.2 seed) res.1) args s 0 0 A) 2 D A 0 0 (wFW cyI cyZ cyW ad letters length stage rco rcl ron rtubs rpegs rpwi rflags rpco rpcl rphr rpho tubs pegs pwi flags pco pcl phr pho wh lf co wi ho twh tlf tco twi tho first size awh alf aco awi aho sfl sco swt ssz kwh klf kco kwi kho kept seed) 53 [(0, .ref (ad 0)), (1, .int x1)] [] := by
  unfold gX9_laundry_53 at h
  refine r_iload_n C dX9_laundry_53 1 rfl rfl ?_
  refine r_iconst (v := 2) C dX9_laundry_54 ic_2 ?_
  refine r_icmp_ge (tgt := 71) C dX9_laundry_55 (by decide) (fun c6 => ?_) (fun c6 => ?_)
  · replace h := ob_t h c6
    refine r_aload_n C dX9_laundry_71 0 rfl rfl ?_
    refine r_get (ci := 6) (CC := RX9) (T := TX9) (N := 12) (v := .ref (ad 8)) C hinX9_laundry_X9 0 rfl rfl 3 (by decide) mX9_laundry_4 rfl rfl dX9_laundry_72 ?_
    refine r_get (ci := 2) (CC := RX4) (T := TX4) (N := 8) (v := .int flags) C hinX9_laundry_X4 8 rfl rfl 3 (by decide) mX9_laundry_9 rfl rfl dX9_laundry_75 ?_
    have h9 := Option.some.inj h
    subst h9
    exact r_iret C rfl dX9_laundry_78
  · replace h := ob_f h c6
    refine r_aload_n C dX9_laundry_58 0 rfl rfl ?_
    refine r_get (ci := 6) (CC := RX9) (T := TX9) (N := 12) (v := .ref (ad 93)) C hinX9_laundry_X9 0 rfl rfl 10 (by decide) mX9_laundry_8 rfl rfl dX9_laundry_59 ?_
    refine r_iload_n C dX9_laundry_62 1 rfl rfl ?_
    refine r_iconst (v := 0) C dX9_laundry_63 ic_0 ?_
    obtain ⟨hu7, h⟩ := ob_if h
    refine r_zast (x1 := 0) (ws1 := (wFW cyI cyZ cyW ad letters length stage rco rcl ron rtubs rpegs rpwi rflags rpco rpcl rphr rpho tubs pegs pwi flags pco pcl phr pho wh lf co wi ho twh tlf tco twi tho first size awh alf aco awi aho sfl sco swt ssz kwh klf kco kwi kho (upd kept x1.toNatClampNeg (0 : Int32)) seed)) C 93 1 rfl rfl rfl (inb_vp hu7) rfl dX9_laundry_64 ?_
    refine r_iinc (v := 1) (lv' := [(1, .int (x1 + (1 : Int32))), (0, .ref (ad 0))]) C dX9_laundry_65 1 rfl ic_1 (by decide) rfl ?_
    refine r_goto (tgt := 53) C dX9_laundry_68 (by decide) ?_
    refine r_lv (lv' := [(0, .ref (ad 0)), (1, .int (x1 + (1 : Int32)))]) [1, 0] rfl ?_
    exact hrec53 (x1 + (1 : Int32)) (upd kept x1.toNatClampNeg (0 : Int32)) h
set_option maxHeartbeats 4000000 in
set_option maxRecDepth 100000 in
theorem LX9_laundry_53 {p : Program} {l : Launch} {e : Env} {s : State} {m : MethodId} {args : Array Value} {below : List Frame} {meth : Method} {c : Code} {D : va_G} {cyI cyZ cyW : ClassId} {zW zO : Nat} {A : Nat → Prop} (C : Cx p s m args meth c cX9_laundry RX9 "laundry" wsX9_laundry (some .int) 2 D (tyA cyI cyZ cyW) zW zO A) {ad : Nat → Nat} {letters : (Nat → Int32)} {length : Int32} {stage : Int32} {rco : Int32} {rcl : Int32} {ron : Int32} {rtubs : Int32} {rpegs : Int32} {rpwi : Int32} {rflags : Int32} {rpco : (Nat → Int32)} {rpcl : (Nat → Int32)} {rphr : (Nat → Int32)} {rpho : (Nat → Int32)} {tubs : Int32} {pegs : Int32} {pwi : Int32} {flags : Int32} {pco : (Nat → Int32)} {pcl : (Nat → Int32)} {phr : (Nat → Int32)} {pho : (Nat → Int32)} {wh : (Nat → Int32)} {lf : (Nat → Int32)} {co : (Nat → Int32)} {wi : Int32} {ho : Int32} {twh : (Nat → Int32)} {tlf : (Nat → Int32)} {tco : (Nat → Int32)} {twi : Int32} {tho : Int32} {first : Int32} {size : Int32} {awh : (Nat → Nat → Int32)} {alf : (Nat → Nat → Int32)} {aco : (Nat → Nat → Int32)} {awi : (Nat → Int32)} {aho : (Nat → Int32)} {sfl : (Nat → Int32)} {sco : (Nat → Int32)} {swt : (Nat → Int32)} {ssz : Int32} {kwh : (Nat → Nat → Int32)} {klf : (Nat → Nat → Int32)} {kco : (Nat → Nat → Int32)} {kwi : (Nat → Int32)} {kho : (Nat → Int32)} {seed : Int64}  {res : Int32 × Int32 × Int32 × Int32 × Int32 × Int32 × Int32 × Int32 × Int32 × (Nat → Int32) × (Nat → Int32) × (Nat → Int32) × (Nat → Int32) × Int32 × Int32 × Int32 × Int32 × (Nat → Int32) × (Nat → Int32) × (Nat → Int32) × (Nat → Int32) × (Nat → Int32) × (Nat → Int32) × (Nat → Int32) × Int32 × Int32 × Int32 × Int32 × (Nat → Int32)}  : ∀ (n : Nat) (x1 : Int32) (kept : (Nat → Int32)), fX9_laundry_53  stage rco rcl ron rtubs rpegs rpwi rflags rpco rpcl rphr rpho tubs pegs pwi flags pco pcl phr pho wh lf co wi ho first size n x1 kept = some res → Mx p l e ({ frames := 6, cells := 0, slots := 0, locals := 128 } : Room) s m args below meth c (MQ below (QI D (tyA cyI cyZ cyW) A (wFW cyI cyZ cyW ad letters length res.2.1 res.2.2.1 res.2.2.2.1 res.2.2.2.2.1 res.2.2.2.2.2.1 res.2.2.2.2.2.2.1 res.2.2.2.2.2.2.2.1 res.2.2.2.2.2.2.2.2.1 res.2.2.2.2.2.2.2.2.2.1 res.2.2.2.2.2.2.2.2.2.2.1 res.2.2.2.2.2.2.2.2.2.2.2.1 res.2.2.2.2.2.2.2.2.2.2.2.2.1 res.2.2.2.2.2.2.2.2.2.2.2.2.2.1 res.2.2.2.2.2.2.2.2.2.2.2.2.2.2.1 res.2.2.2.2.2.2.2.2.2.2.2.2.2.2.2.1 res.2.2.2.2.2.2.2.2.2.2.2.2.2.2.2.2.1 res.2.2.2.2.2.2.2.2.2.2.2.2.2.2.2.2.2.1 res.2.2.2.2.2.2.2.2.2.2.2.2.2.2.2.2.2.2.1 res.2.2.2.2.2.2.2.2.2.2.2.2.2.2.2.2.2.2.2.1 res.2.2.2.2.2.2.2.2.2.2.2.2.2.2.2.2.2.2.2.2.1 res.2.2.2.2.2.2.2.2.2.2.2.2.2.2.2.2.2.2.2.2.2.1 res.2.2.2.2.2.2.2.2.2.2.2.2.2.2.2.2.2.2.2.2.2.2.1 res.2.2.2.2.2.2.2.2.2.2.2.2.2.2.2.2.2.2.2.2.2.2.2.1 res.2.2.2.2.2.2.2.2.2.2.2.2.2.2.2.2.2.2.2.2.2.2.2.2.1 res.2.2.2.2.2.2.2.2.2.2.2.2.2.2.2.2.2.2.2.2.2.2.2.2.2.1 twh tlf tco twi tho res.2.2.2.2.2.2.2.2.2.2.2.2.2.2.2.2.2.2.2.2.2.2.2.2.2.2.1 res.2.2.2.2.2.2.2.2.2.2.2.2.2.2.2.2.2.2.2.2.2.2.2.2.2.2.2.1 awh alf aco awi aho sfl sco swt ssz kwh klf kco kwi kho res.2.2.2.2.2.2.2.2.2.2.2.2.2.2.2.2.2.2.2.2.2.2.2.2.2.2.2.2 seed) res.1) args s 0 0 A) 2 D A 0 0 (wFW cyI cyZ cyW ad letters length stage rco rcl ron rtubs rpegs rpwi rflags rpco rpcl rphr rpho tubs pegs pwi flags pco pcl phr pho wh lf co wi ho twh tlf tco twi tho first size awh alf aco awi aho sfl sco swt ssz kwh klf kco kwi kho kept seed) 53 [(0, .ref (ad 0)), (1, .int x1)] [] := by
  intro n
  induction n with
  | zero => intro x1 kept h; cases h
  | succ n ih => intro x1 kept h; exact LGX9_laundry_53 C ih h
set_option maxHeartbeats 4000000 in
set_option maxRecDepth 100000 in
theorem kX9_laundry {l : Launch} {D : va_G} {cyI cyZ cyW : ClassId} {zW zO : Nat} {ad : Nat → Nat} {letters : (Nat → Int32)} {length : Int32} {stage : Int32} {rco : Int32} {rcl : Int32} {ron : Int32} {rtubs : Int32} {rpegs : Int32} {rpwi : Int32} {rflags : Int32} {rpco : (Nat → Int32)} {rpcl : (Nat → Int32)} {rphr : (Nat → Int32)} {rpho : (Nat → Int32)} {tubs : Int32} {pegs : Int32} {pwi : Int32} {flags : Int32} {pco : (Nat → Int32)} {pcl : (Nat → Int32)} {phr : (Nat → Int32)} {pho : (Nat → Int32)} {wh : (Nat → Int32)} {lf : (Nat → Int32)} {co : (Nat → Int32)} {wi : Int32} {ho : Int32} {twh : (Nat → Int32)} {tlf : (Nat → Int32)} {tco : (Nat → Int32)} {twi : Int32} {tho : Int32} {first : Int32} {size : Int32} {awh : (Nat → Nat → Int32)} {alf : (Nat → Nat → Int32)} {aco : (Nat → Nat → Int32)} {awi : (Nat → Int32)} {aho : (Nat → Int32)} {sfl : (Nat → Int32)} {sco : (Nat → Int32)} {swt : (Nat → Int32)} {ssz : Int32} {kwh : (Nat → Nat → Int32)} {klf : (Nat → Nat → Int32)} {kco : (Nat → Nat → Int32)} {kwi : (Nat → Int32)} {kho : (Nat → Int32)} {kept : (Nat → Int32)} {seed : Int64}  {res : Int32 × Int32 × Int32 × Int32 × Int32 × Int32 × Int32 × Int32 × Int32 × (Nat → Int32) × (Nat → Int32) × (Nat → Int32) × (Nat → Int32) × Int32 × Int32 × Int32 × Int32 × (Nat → Int32) × (Nat → Int32) × (Nat → Int32) × (Nat → Int32) × (Nat → Int32) × (Nat → Int32) × (Nat → Int32) × Int32 × Int32 × Int32 × Int32 × (Nat → Int32)} (h : fX9_laundry letters length rco rcl ron rtubs rpegs rpwi rpco rpcl rphr rpho tubs pegs pwi flags pco pcl phr pho wh lf co wi ho first size kept = some res) : KI l yX9_laundry wsX9_laundry ({ frames := 6, cells := 0, slots := 0, locals := 128 } : Room) D (tyA cyI cyZ cyW) zW zO [.ref (ad 0)] (wFW cyI cyZ cyW ad letters length stage rco rcl ron rtubs rpegs rpwi rflags rpco rpcl rphr rpho tubs pegs pwi flags pco pcl phr pho wh lf co wi ho twh tlf tco twi tho first size awh alf aco awi aho sfl sco swt ssz kwh klf kco kwi kho kept seed) (wFW cyI cyZ cyW ad letters length res.2.1 res.2.2.1 res.2.2.2.1 res.2.2.2.2.1 res.2.2.2.2.2.1 res.2.2.2.2.2.2.1 res.2.2.2.2.2.2.2.1 res.2.2.2.2.2.2.2.2.1 res.2.2.2.2.2.2.2.2.2.1 res.2.2.2.2.2.2.2.2.2.2.1 res.2.2.2.2.2.2.2.2.2.2.2.1 res.2.2.2.2.2.2.2.2.2.2.2.2.1 res.2.2.2.2.2.2.2.2.2.2.2.2.2.1 res.2.2.2.2.2.2.2.2.2.2.2.2.2.2.1 res.2.2.2.2.2.2.2.2.2.2.2.2.2.2.2.1 res.2.2.2.2.2.2.2.2.2.2.2.2.2.2.2.2.1 res.2.2.2.2.2.2.2.2.2.2.2.2.2.2.2.2.2.1 res.2.2.2.2.2.2.2.2.2.2.2.2.2.2.2.2.2.2.1 res.2.2.2.2.2.2.2.2.2.2.2.2.2.2.2.2.2.2.2.1 res.2.2.2.2.2.2.2.2.2.2.2.2.2.2.2.2.2.2.2.2.1 res.2.2.2.2.2.2.2.2.2.2.2.2.2.2.2.2.2.2.2.2.2.1 res.2.2.2.2.2.2.2.2.2.2.2.2.2.2.2.2.2.2.2.2.2.2.1 res.2.2.2.2.2.2.2.2.2.2.2.2.2.2.2.2.2.2.2.2.2.2.2.1 res.2.2.2.2.2.2.2.2.2.2.2.2.2.2.2.2.2.2.2.2.2.2.2.2.1 res.2.2.2.2.2.2.2.2.2.2.2.2.2.2.2.2.2.2.2.2.2.2.2.2.2.1 twh tlf tco twi tho res.2.2.2.2.2.2.2.2.2.2.2.2.2.2.2.2.2.2.2.2.2.2.2.2.2.2.1 res.2.2.2.2.2.2.2.2.2.2.2.2.2.2.2.2.2.2.2.2.2.2.2.2.2.2.2.1 awh alf aco awi aho sfl sco swt ssz kwh klf kco kwi kho res.2.2.2.2.2.2.2.2.2.2.2.2.2.2.2.2.2.2.2.2.2.2.2.2.2.2.2.2 seed) res.1 := by
  refine enterI (cc := cX9_laundry) (nL := 2) (ret := (some .int)) (by decide) rfl (Nat.le_of_ble_eq_true rfl) (fun p e s m below meth c A C => ?_)
  refine r_lv (lv' := [(0, .ref (ad 0))]) [0] rfl ?_
  unfold fX9_laundry at h
  refine r_aload_n C dX9_laundry_0 0 rfl rfl ?_
  refine r_get (ci := 6) (CC := RX9) (T := TX9) (N := 12) (v := .ref (ad 2)) C hinX9_laundry_X9 0 rfl rfl 2 (by decide) mX9_laundry_1 rfl rfl dX9_laundry_1 ?_
  refine r_aload_n C dX9_laundry_4 0 rfl rfl ?_
  refine r_get (ci := 6) (CC := RX9) (T := TX9) (N := 12) (v := .ref (ad 1)) C hinX9_laundry_X9 0 rfl rfl 0 (by decide) mX9_laundry_2 rfl rfl dX9_laundry_5 ?_
  refine r_aload_n C dX9_laundry_8 0 rfl rfl ?_
  refine r_get (ci := 6) (CC := RX9) (T := TX9) (N := 12) (v := .int length) C hinX9_laundry_X9 0 rfl rfl 1 (by decide) mX9_laundry_3 rfl rfl dX9_laundry_9 ?_
  obtain ⟨u1, hu1, h⟩ := ob_bind h
  refine r_callVI (q0 := 0) (As := [.ref (ad 1), .int length]) (rest := []) (ws1 := (wFW cyI cyZ cyW ad letters length u1.2.1 u1.2.2.1 u1.2.2.2.1 u1.2.2.2.2.1 u1.2.2.2.2.2.1 u1.2.2.2.2.2.2.1 u1.2.2.2.2.2.2.2.1 u1.2.2.2.2.2.2.2.2.1 u1.2.2.2.2.2.2.2.2.2.1 u1.2.2.2.2.2.2.2.2.2.2.1 u1.2.2.2.2.2.2.2.2.2.2.2.1 u1.2.2.2.2.2.2.2.2.2.2.2.2 tubs pegs pwi flags pco pcl phr pho wh lf co wi ho twh tlf tco twi tho first size awh alf aco awi aho sfl sco swt ssz kwh klf kco kwi kho kept seed)) C (kX5_firstFault (r0 := (ad 2)) (p0 := (ad 3)) (p1 := (ad 4)) (p2 := (ad 5)) (p3 := (ad 6)) (p4 := (ad 7)) (l0 := (ad 1)) (stage := stage) (rco := rco) (rcl := rcl) (ron := ron) (tubs := rtubs) (pegs := rpegs) (pwi := rpwi) (flags := rflags) (pco := rpco) (pcl := rpcl) (phr := rphr) (pho := rpho) (letters := letters) (x2 := length) hu1) gX9_laundry_X5_firstFault rfl rfl rfl ⟨rfl, hd_X5_firstFault⟩ ⟨by decide, by decide⟩ rfl rfl rfl rfl [2, 3, 4, 5, 6, 7, 1] (by decide) in_54 se_54 (adrFW.trans adrFW.symm) rfl (Nat.le_of_ble_eq_true rfl) dX9_laundry_12 ⟨Nat.zero_le _, Nat.zero_le _⟩ ?_
  refine r_bipush (v := -9) C dX9_laundry_15 bp_m9 ?_
  refine r_icmp_eq (tgt := 23) C dX9_laundry_17 (by decide) (fun c2 => ?_) (fun c2 => ?_)
  · replace h := ob_t h c2
    refine r_aload_n C dX9_laundry_23 0 rfl rfl ?_
    refine r_get (ci := 6) (CC := RX9) (T := TX9) (N := 12) (v := .ref (ad 8)) C hinX9_laundry_X9 0 rfl rfl 3 (by decide) mX9_laundry_4 rfl rfl dX9_laundry_24 ?_
    refine r_aload_n C dX9_laundry_27 0 rfl rfl ?_
    refine r_get (ci := 6) (CC := RX9) (T := TX9) (N := 12) (v := .ref (ad 2)) C hinX9_laundry_X9 0 rfl rfl 2 (by decide) mX9_laundry_1 rfl rfl dX9_laundry_28 ?_
    refine r_get (ci := 3) (CC := RX5) (T := TX5) (N := 5) (v := .ref (ad 3)) C hinX9_laundry_X5 2 rfl rfl 0 (by decide) mX9_laundry_5 rfl rfl dX9_laundry_31 ?_
    obtain ⟨u3, hu3, h⟩ := ob_bind h
    refine r_callVV (q0 := 0) (As := [.ref (ad 3)]) (rest := []) (ws1 := (wFW cyI cyZ cyW ad letters length u1.2.1 u1.2.2.1 u1.2.2.2.1 u1.2.2.2.2.1 u1.2.2.2.2.2.1 u1.2.2.2.2.2.2.1 u1.2.2.2.2.2.2.2.1 u1.2.2.2.2.2.2.2.2.1 u1.2.2.2.2.2.2.2.2.2.1 u1.2.2.2.2.2.2.2.2.2.2.1 u1.2.2.2.2.2.2.2.2.2.2.2.1 u1.2.2.2.2.2.2.2.2.2.2.2.2 u3.1 u3.2.1 u3.2.2.1 u3.2.2.2.1 u3.2.2.2.2.1 u3.2.2.2.2.2.1 u3.2.2.2.2.2.2.1 u3.2.2.2.2.2.2.2 wh lf co wi ho twh tlf tco twi tho first size awh alf aco awi aho sfl sco swt ssz kwh klf kco kwi kho kept seed)) C (kX4_copyFrom (p0 := (ad 8)) (p1 := (ad 9)) (p2 := (ad 10)) (p3 := (ad 11)) (p4 := (ad 12)) (q0 := (ad 3)) (q1 := (ad 4)) (q2 := (ad 5)) (q3 := (ad 6)) (q4 := (ad 7)) (tubs := tubs) (pegs := pegs) (pwi := pwi) (flags := flags) (pco := pco) (pcl := pcl) (phr := phr) (pho := pho) (otubs := u1.2.2.2.2.2.1) (opegs := u1.2.2.2.2.2.2.1) (opwi := u1.2.2.2.2.2.2.2.1) (oflags := u1.2.2.2.2.2.2.2.2.1) (opco := u1.2.2.2.2.2.2.2.2.2.1) (opcl := u1.2.2.2.2.2.2.2.2.2.2.1) (ophr := u1.2.2.2.2.2.2.2.2.2.2.2.1) (opho := u1.2.2.2.2.2.2.2.2.2.2.2.2)  hu3) gX9_laundry_X4_copyFrom rfl rfl rfl ⟨rfl, hd_X4_copyFrom⟩ ⟨by decide, by decide⟩ rfl rfl rfl rfl [8, 9, 10, 11, 12, 3, 4, 5, 6, 7] (by decide) in_55 se_55 (adrFW.trans adrFW.symm) rfl (Nat.le_of_ble_eq_true rfl) dX9_laundry_34 ⟨Nat.zero_le _, Nat.zero_le _⟩ ?_
    refine r_aload_n C dX9_laundry_37 0 rfl rfl ?_
    refine r_get (ci := 6) (CC := RX9) (T := TX9) (N := 12) (v := .ref (ad 13)) C hinX9_laundry_X9 0 rfl rfl 4 (by decide) mX9_laundry_6 rfl rfl dX9_laundry_38 ?_
    obtain ⟨u4, hu4, h⟩ := ob_bind h
    refine r_callVV (q0 := 0) (As := []) (rest := []) (ws1 := (wFW cyI cyZ cyW ad letters length u1.2.1 u1.2.2.1 u1.2.2.2.1 u1.2.2.2.2.1 u1.2.2.2.2.2.1 u1.2.2.2.2.2.2.1 u1.2.2.2.2.2.2.2.1 u1.2.2.2.2.2.2.2.2.1 u1.2.2.2.2.2.2.2.2.2.1 u1.2.2.2.2.2.2.2.2.2.2.1 u1.2.2.2.2.2.2.2.2.2.2.2.1 u1.2.2.2.2.2.2.2.2.2.2.2.2 u3.1 u3.2.1 u3.2.2.1 u3.2.2.2.1 u3.2.2.2.2.1 u3.2.2.2.2.2.1 u3.2.2.2.2.2.2.1 u3.2.2.2.2.2.2.2 u4.1 u4.2.1 u4.2.2.1 u4.2.2.2.1 u4.2.2.2.2 twh tlf tco twi tho first size awh alf aco awi aho sfl sco swt ssz kwh klf kco kwi kho kept seed)) C (kX8_startAnew (w0 := (ad 13)) (w1 := (ad 14)) (w2 := (ad 15)) (w3 := (ad 16)) (p0 := (ad 8)) (p1 := (ad 9)) (p2 := (ad 10)) (p3 := (ad 11)) (p4 := (ad 12)) (wh := wh) (lf := lf) (co := co) (wi := wi) (ho := ho) (tubs := u3.1) (pegs := u3.2.1) (pwi := u3.2.2.1) (flags := u3.2.2.2.1) (pco := u3.2.2.2.2.1) (pcl := u3.2.2.2.2.2.1) (phr := u3.2.2.2.2.2.2.1) (pho := u3.2.2.2.2.2.2.2)  hu4) gX9_laundry_X8_startAnew rfl rfl rfl ⟨rfl, hd_X8_startAnew⟩ ⟨by decide, by decide⟩ rfl rfl rfl rfl [13, 14, 15, 16, 8, 9, 10, 11, 12] (by decide) in_56 se_56 (adrFW.trans adrFW.symm) rfl (Nat.le_of_ble_eq_true rfl) dX9_laundry_41 ⟨Nat.zero_le _, Nat.zero_le _⟩ ?_
    refine r_aload_n C dX9_laundry_44 0 rfl rfl ?_
    refine r_get (ci := 6) (CC := RX9) (T := TX9) (N := 12) (v := .ref (ad 22)) C hinX9_laundry_X9 0 rfl rfl 7 (by decide) mX9_laundry_7 rfl rfl dX9_laundry_45 ?_
    obtain ⟨u5, hu5, h⟩ := ob_bind h
    refine r_callVV (q0 := 0) (As := []) (rest := []) (ws1 := (wFW cyI cyZ cyW ad letters length u1.2.1 u1.2.2.1 u1.2.2.2.1 u1.2.2.2.2.1 u1.2.2.2.2.2.1 u1.2.2.2.2.2.2.1 u1.2.2.2.2.2.2.2.1 u1.2.2.2.2.2.2.2.2.1 u1.2.2.2.2.2.2.2.2.2.1 u1.2.2.2.2.2.2.2.2.2.2.1 u1.2.2.2.2.2.2.2.2.2.2.2.1 u1.2.2.2.2.2.2.2.2.2.2.2.2 u3.1 u3.2.1 u3.2.2.1 u3.2.2.2.1 u3.2.2.2.2.1 u3.2.2.2.2.2.1 u3.2.2.2.2.2.2.1 u3.2.2.2.2.2.2.2 u4.1 u4.2.1 u4.2.2.1 u4.2.2.2.1 u4.2.2.2.2 twh tlf tco twi tho u5.1 u5.2 awh alf aco awi aho sfl sco swt ssz kwh klf kco kwi kho kept seed)) C (kX0_forgetAll (a0 := (ad 22)) (a1 := (ad 23)) (first := first) (size := size)  hu5) gX9_laundry_X0_forgetAll rfl rfl rfl ⟨rfl, hd_X0_forgetAll⟩ ⟨by decide, by decide⟩ rfl rfl rfl rfl [22] (by decide) in_57 se_57 (adrFW.trans adrFW.symm) rfl (Nat.le_of_ble_eq_true rfl) dX9_laundry_48 ⟨Nat.zero_le _, Nat.zero_le _⟩ ?_
    refine r_iconst (v := 0) C dX9_laundry_51 ic_0 ?_
    refine r_istore_n (lv' := [(1, .int (0 : Int32)), (0, .ref (ad 0))]) C dX9_laundry_52 rfl (by decide) rfl ?_
    refine r_lv (lv' := [(0, .ref (ad 0)), (1, .int (0 : Int32))]) [1, 0] rfl ?_
    exact LX9_laundry_53 C (letters := letters) (length := length) (stage := u1.2.1) (rco := u1.2.2.1) (rcl := u1.2.2.2.1) (ron := u1.2.2.2.2.1) (rtubs := u1.2.2.2.2.2.1) (rpegs := u1.2.2.2.2.2.2.1) (rpwi := u1.2.2.2.2.2.2.2.1) (rflags := u1.2.2.2.2.2.2.2.2.1) (rpco := u1.2.2.2.2.2.2.2.2.2.1) (rpcl := u1.2.2.2.2.2.2.2.2.2.2.1) (rphr := u1.2.2.2.2.2.2.2.2.2.2.2.1) (rpho := u1.2.2.2.2.2.2.2.2.2.2.2.2) (tubs := u3.1) (pegs := u3.2.1) (pwi := u3.2.2.1) (flags := u3.2.2.2.1) (pco := u3.2.2.2.2.1) (pcl := u3.2.2.2.2.2.1) (phr := u3.2.2.2.2.2.2.1) (pho := u3.2.2.2.2.2.2.2) (wh := u4.1) (lf := u4.2.1) (co := u4.2.2.1) (wi := u4.2.2.2.1) (ho := u4.2.2.2.2) (twh := twh) (tlf := tlf) (tco := tco) (twi := twi) (tho := tho) (first := u5.1) (size := u5.2) (awh := awh) (alf := alf) (aco := aco) (awi := awi) (aho := aho) (sfl := sfl) (sco := sco) (swt := swt) (ssz := ssz) (kwh := kwh) (klf := klf) (kco := kco) (kwi := kwi) (kho := kho) (seed := seed)  FU (0 : Int32) kept h
  · replace h := ob_f h c2
    refine r_bipush (v := -3) C dX9_laundry_20 bp_m3 ?_
    have h9 := Option.some.inj h
    subst h9
    exact r_iret C rfl dX9_laundry_22

/-! ===== FlagWash.flag ===== -/
def fX9_flag  (x1 : Int32) (x2 : Int32) (flags : Int32) (pcl : (Nat → Int32)) (phr : (Nat → Int32)) (pho : (Nat → Int32)) (wh : (Nat → Int32)) (lf : (Nat → Int32)) (co : (Nat → Int32)) : Option (Int32) :=
 ((fX4_has x1 flags).bind fun u1 => (if u1 = true then (if x2 = (0 : Int32) then (if inb x1 5 = true then (some (co x1.toNatClampNeg)) else none)
 else (if x2 = (1 : Int32) then (if inb x1 5 = true then (some (pcl x1.toNatClampNeg)) else none)
 else (if x2 = (2 : Int32) then (if inb x1 5 = true then (some (phr x1.toNatClampNeg)) else none)
 else (if x2 = (3 : Int32) then (if inb x1 5 = true then (some (wh x1.toNatClampNeg)) else none)
 else (if x2 = (4 : Int32) then (if inb x1 5 = true then (some (lf x1.toNatClampNeg)) else none)
 else (if x2 = (5 : Int32) then (if inb x1 5 = true then (some (pho x1.toNatClampNeg)) else none)
 else (some (-2 : Int32))))))))
 else (some (-1 : Int32))))
theorem hinX9_flag_X9 : ∀ w ∈ u_ws RX9 TX9 12, w ∈ wsX9_flag := fun w h => List.mem_cons_of_mem _ (List.mem_append_left _ (List.mem_append_left _ (List.mem_append_right _ h)))
theorem mX9_flag_1 : Cond.fieldLink RX9 27 "FlagWash" "plan" "LFlagWash$Plan;" ∈ wsX9_flag := List.mem_of_getElem? (i := 1) rfl
theorem mX9_flag_2 : Cond.fieldLink RX9 36 "FlagWash" "now" "LFlagWash$Wash;" ∈ wsX9_flag := List.mem_of_getElem? (i := 2) rfl
theorem hinX9_flag_X8 : ∀ w ∈ u_ws RX8 TX8 6, w ∈ wsX9_flag := fun w h => List.mem_cons_of_mem _ (List.mem_append_left _ (List.mem_append_right _ h))
theorem mX9_flag_3 : Cond.fieldLink RX9 99 "FlagWash$Wash" "colours" "[I" ∈ wsX9_flag := List.mem_of_getElem? (i := 3) rfl
theorem hinX9_flag_X4 : ∀ w ∈ u_ws RX4 TX4 8, w ∈ wsX9_flag := fun w h => List.mem_cons_of_mem _ (List.mem_append_right _ h)
theorem mX9_flag_4 : Cond.fieldLink RX9 102 "FlagWash$Plan" "cloth" "[I" ∈ wsX9_flag := List.mem_of_getElem? (i := 4) rfl
theorem mX9_flag_5 : Cond.fieldLink RX9 105 "FlagWash$Plan" "hours" "[I" ∈ wsX9_flag := List.mem_of_getElem? (i := 5) rfl
theorem mX9_flag_6 : Cond.fieldLink RX9 108 "FlagWash$Wash" "where" "[I" ∈ wsX9_flag := List.mem_of_getElem? (i := 6) rfl
theorem mX9_flag_7 : Cond.fieldLink RX9 111 "FlagWash$Wash" "left" "[I" ∈ wsX9_flag := List.mem_of_getElem? (i := 7) rfl
theorem mX9_flag_8 : Cond.fieldLink RX9 114 "FlagWash$Plan" "hostile" "[I" ∈ wsX9_flag := List.mem_of_getElem? (i := 8) rfl
theorem hd_X9_flag : yX9_flag.cls ≠ "java/lang/invoke/MethodHandle" ∧ yX9_flag.cls ≠ "java/lang/invoke/VarHandle" ∧ (parseMethodDescriptor yX9_flag.desc).map (fun d => d.parameters.length) = some 2 := by decide +kernel
set_option maxHeartbeats 4000000 in
set_option maxRecDepth 100000 in
theorem kX9_flag {l : Launch} {D : va_G} {cyI cyZ cyW : ClassId} {zW zO : Nat} {ad : Nat → Nat} {letters : (Nat → Int32)} {length : Int32} {stage : Int32} {rco : Int32} {rcl : Int32} {ron : Int32} {rtubs : Int32} {rpegs : Int32} {rpwi : Int32} {rflags : Int32} {rpco : (Nat → Int32)} {rpcl : (Nat → Int32)} {rphr : (Nat → Int32)} {rpho : (Nat → Int32)} {tubs : Int32} {pegs : Int32} {pwi : Int32} {flags : Int32} {pco : (Nat → Int32)} {pcl : (Nat → Int32)} {phr : (Nat → Int32)} {pho : (Nat → Int32)} {wh : (Nat → Int32)} {lf : (Nat → Int32)} {co : (Nat → Int32)} {wi : Int32} {ho : Int32} {twh : (Nat → Int32)} {tlf : (Nat → Int32)} {tco : (Nat → Int32)} {twi : Int32} {tho : Int32} {first : Int32} {size : Int32} {awh : (Nat → Nat → Int32)} {alf : (Nat → Nat → Int32)} {aco : (Nat → Nat → Int32)} {awi : (Nat → Int32)} {aho : (Nat → Int32)} {sfl : (Nat → Int32)} {sco : (Nat → Int32)} {swt : (Nat → Int32)} {ssz : Int32} {kwh : (Nat → Nat → Int32)} {klf : (Nat → Nat → Int32)} {kco : (Nat → Nat → Int32)} {kwi : (Nat → Int32)} {kho : (Nat → Int32)} {kept : (Nat → Int32)} {seed : Int64} {x1 : Int32} {x2 : Int32} {res : Int32} (h : fX9_flag x1 x2 flags pcl phr pho wh lf co = some res) : KI l yX9_flag wsX9_flag ({ frames := 1, cells := 0, slots := 0, locals := 21 } : Room) D (tyA cyI cyZ cyW) zW zO [.ref (ad 0), .int x1, .int x2] (wFW cyI cyZ cyW ad letters length stage rco rcl ron rtubs rpegs rpwi rflags rpco rpcl rphr rpho tubs pegs pwi flags pco pcl phr pho wh lf co wi ho twh tlf tco twi tho first size awh alf aco awi aho sfl sco swt ssz kwh klf kco kwi kho kept seed) (wFW cyI cyZ cyW ad letters length stage rco rcl ron rtubs rpegs rpwi rflags rpco rpcl rphr rpho tubs pegs pwi flags pco pcl phr pho wh lf co wi ho twh tlf tco twi tho first size awh alf aco awi aho sfl sco swt ssz kwh klf kco kwi kho kept seed) res := by
  refine enterI (cc := cX9_flag) (nL := 3) (ret := (some .int)) (by decide) rfl (Nat.le_of_ble_eq_true rfl) (fun p e s m below meth c A C => ?_)
  refine r_lv (lv' := [(0, .ref (ad 0)), (1, .int x1), (2, .int x2)]) [0, 1, 2] rfl ?_
  unfold fX9_flag at h
  refine r_aload_n C dX9_flag_0 0 rfl rfl ?_
  refine r_get (ci := 6) (CC := RX9) (T := TX9) (N := 12) (v := .ref (ad 8)) C hinX9_flag_X9 0 rfl rfl 3 (by decide) mX9_flag_1 rfl rfl dX9_flag_1 ?_
  refine r_iload_n C dX9_flag_4 1 rfl rfl ?_
  obtain ⟨u1, hu1, h⟩ := ob_bind h
  refine r_readVI (q0 := 0) (As := [.int x1]) (rest := []) C (kX4_has (p0 := (ad 8)) (p1 := (ad 9)) (p2 := (ad 10)) (p3 := (ad 11)) (p4 := (ad 12)) (tubs := tubs) (pegs := pegs) (pwi := pwi) (flags := flags) (pco := pco) (pcl := pcl) (phr := phr) (pho := pho) (x1 := x1) hu1) gX9_flag_X4_has rfl rfl rfl ⟨rfl, hd_X4_has⟩ ⟨by decide, by decide⟩ rfl rfl rfl rfl [8, 9, 10, 11, 12] (by decide) in_58 rfl (Nat.le_of_ble_eq_true rfl) dX9_flag_5 ⟨Nat.zero_le _, Nat.zero_le _⟩ ?_
  refine r_ifb_ne (tgt := 13) C dX9_flag_8 (by decide) (fun c2 => ?_) (fun c2 => ?_)
  · replace h := ob_t h c2
    refine r_iload_n C dX9_flag_13 2 rfl rfl ?_
    by_cases c3 : x2 = (0 : Int32)
    · replace h := ob_t h c3
      refine r_tsAt (tgt := 52) (off := 38) C (0 : Int32) c3 dX9_flag_14 (by decide) (by decide) (by decide) (by decide) ?_
      refine r_aload_n C dX9_flag_52 0 rfl rfl ?_
      refine r_get (ci := 6) (CC := RX9) (T := TX9) (N := 12) (v := .ref (ad 13)) C hinX9_flag_X9 0 rfl rfl 4 (by decide) mX9_flag_2 rfl rfl dX9_flag_53 ?_
      refine r_get (ci := 5) (CC := RX8) (T := TX8) (N := 6) (v := .ref (ad 16)) C hinX9_flag_X8 13 rfl rfl 3 (by decide) mX9_flag_3 rfl rfl dX9_flag_56 ?_
      refine r_iload_n C dX9_flag_59 1 rfl rfl ?_
      obtain ⟨hu4, h⟩ := ob_if h
      refine r_iald C 16 0 rfl rfl (inb_vp hu4) dX9_flag_60 ?_
      have h9 := Option.some.inj h
      subst h9
      exact r_iret C rfl dX9_flag_61
    replace h := ob_f h c3
    by_cases c5 : x2 = (1 : Int32)
    · replace h := ob_t h c5
      refine r_tsAt (tgt := 62) (off := 48) C (1 : Int32) c5 dX9_flag_14 (by decide) (by decide) (by decide) (by decide) ?_
      refine r_aload_n C dX9_flag_62 0 rfl rfl ?_
      refine r_get (ci := 6) (CC := RX9) (T := TX9) (N := 12) (v := .ref (ad 8)) C hinX9_flag_X9 0 rfl rfl 3 (by decide) mX9_flag_1 rfl rfl dX9_flag_63 ?_
      refine r_get (ci := 2) (CC := RX4) (T := TX4) (N := 8) (v := .ref (ad 10)) C hinX9_flag_X4 8 rfl rfl 5 (by decide) mX9_flag_4 rfl rfl dX9_flag_66 ?_
      refine r_iload_n C dX9_flag_69 1 rfl rfl ?_
      obtain ⟨hu6, h⟩ := ob_if h
      refine r_iald C 10 0 rfl rfl (inb_vp hu6) dX9_flag_70 ?_
      have h9 := Option.some.inj h
      subst h9
      exact r_iret C rfl dX9_flag_71
    replace h := ob_f h c5
    by_cases c7 : x2 = (2 : Int32)
    · replace h := ob_t h c7
      refine r_tsAt (tgt := 72) (off := 58) C (2 : Int32) c7 dX9_flag_14 (by decide) (by decide) (by decide) (by decide) ?_
      refine r_aload_n C dX9_flag_72 0 rfl rfl ?_
      refine r_get (ci := 6) (CC := RX9) (T := TX9) (N := 12) (v := .ref (ad 8)) C hinX9_flag_X9 0 rfl rfl 3 (by decide) mX9_flag_1 rfl rfl dX9_flag_73 ?_
      refine r_get (ci := 2) (CC := RX4) (T := TX4) (N := 8) (v := .ref (ad 11)) C hinX9_flag_X4 8 rfl rfl 6 (by decide) mX9_flag_5 rfl rfl dX9_flag_76 ?_
      refine r_iload_n C dX9_flag_79 1 rfl rfl ?_
      obtain ⟨hu8, h⟩ := ob_if h
      refine r_iald C 11 0 rfl rfl (inb_vp hu8) dX9_flag_80 ?_
      have h9 := Option.some.inj h
      subst h9
      exact r_iret C rfl dX9_flag_81
    replace h := ob_f h c7
    by_cases c9 : x2 = (3 : Int32)
    · replace h := ob_t h c9
      refine r_tsAt (tgt := 82) (off := 68) C (3 : Int32) c9 dX9_flag_14 (by decide) (by decide) (by decide) (by decide) ?_
      refine r_aload_n C dX9_flag_82 0 rfl rfl ?_
      refine r_get (ci := 6) (CC := RX9) (T := TX9) (N := 12) (v := .ref (ad 13)) C hinX9_flag_X9 0 rfl rfl 4 (by decide) mX9_flag_2 rfl rfl dX9_flag_83 ?_
      refine r_get (ci := 5) (CC := RX8) (T := TX8) (N := 6) (v := .ref (ad 14)) C hinX9_flag_X8 13 rfl rfl 1 (by decide) mX9_flag_6 rfl rfl dX9_flag_86 ?_
      refine r_iload_n C dX9_flag_89 1 rfl rfl ?_
      obtain ⟨hu10, h⟩ := ob_if h
      refine r_iald C 14 0 rfl rfl (inb_vp hu10) dX9_flag_90 ?_
      have h9 := Option.some.inj h
      subst h9
      exact r_iret C rfl dX9_flag_91
    replace h := ob_f h c9
    by_cases c11 : x2 = (4 : Int32)
    · replace h := ob_t h c11
      refine r_tsAt (tgt := 92) (off := 78) C (4 : Int32) c11 dX9_flag_14 (by decide) (by decide) (by decide) (by decide) ?_
      refine r_aload_n C dX9_flag_92 0 rfl rfl ?_
      refine r_get (ci := 6) (CC := RX9) (T := TX9) (N := 12) (v := .ref (ad 13)) C hinX9_flag_X9 0 rfl rfl 4 (by decide) mX9_flag_2 rfl rfl dX9_flag_93 ?_
      refine r_get (ci := 5) (CC := RX8) (T := TX8) (N := 6) (v := .ref (ad 15)) C hinX9_flag_X8 13 rfl rfl 2 (by decide) mX9_flag_7 rfl rfl dX9_flag_96 ?_
      refine r_iload_n C dX9_flag_99 1 rfl rfl ?_
      obtain ⟨hu12, h⟩ := ob_if h
      refine r_iald C 15 0 rfl rfl (inb_vp hu12) dX9_flag_100 ?_
      have h9 := Option.some.inj h
      subst h9
      exact r_iret C rfl dX9_flag_101
    replace h := ob_f h c11
    by_cases c13 : x2 = (5 : Int32)
    · replace h := ob_t h c13
      refine r_tsAt (tgt := 102) (off := 88) C (5 : Int32) c13 dX9_flag_14 (by decide) (by decide) (by decide) (by decide) ?_
      refine r_aload_n C dX9_flag_102 0 rfl rfl ?_
      refine r_get (ci := 6) (CC := RX9) (T := TX9) (N := 12) (v := .ref (ad 8)) C hinX9_flag_X9 0 rfl rfl 3 (by decide) mX9_flag_1 rfl rfl dX9_flag_103 ?_
      refine r_get (ci := 2) (CC := RX4) (T := TX4) (N := 8) (v := .ref (ad 12)) C hinX9_flag_X4 8 rfl rfl 7 (by decide) mX9_flag_8 rfl rfl dX9_flag_106 ?_
      refine r_iload_n C dX9_flag_109 1 rfl rfl ?_
      obtain ⟨hu14, h⟩ := ob_if h
      refine r_iald C 12 0 rfl rfl (inb_vp hu14) dX9_flag_110 ?_
      have h9 := Option.some.inj h
      subst h9
      exact r_iret C rfl dX9_flag_111
    replace h := ob_f h c13
    refine r_tsOut (tgt := 112) C dX9_flag_14 (ts_out 0 5 (by decide) (fun k hk1 hk2 => by rcases (show k = 0 ∨ k = 1 ∨ k = 2 ∨ k = 3 ∨ k = 4 ∨ k = 5 by omega) with rfl | rfl | rfl | rfl | rfl | rfl <;> first | exact c3 | exact c5 | exact c7 | exact c9 | exact c11 | exact c13)) (by decide) ?_
    refine r_bipush (v := -2) C dX9_flag_112 bp_m2 ?_
    have h9 := Option.some.inj h
    subst h9
    exact r_iret C rfl dX9_flag_114
  · replace h := ob_bf h c2
    refine r_iconst (v := -1) C dX9_flag_11 ic_m1 ?_
    have h9 := Option.some.inj h
    subst h9
    exact r_iret C rfl dX9_flag_12
