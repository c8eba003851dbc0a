/-! ===== FlagWash.send ===== -/
def fX9_send  (x1 : Int32) (tubs : Int32) (flags : Int32) (phr : (Nat → Int32)) (wh : (Nat → Int32)) (lf : (Nat → Int32)) (co : (Nat → Int32)) (wi : Int32) (ho : Int32) (first : Int32) (size : Int32) (awh : (Nat → Nat → Int32)) (alf : (Nat → Nat → Int32)) (aco : (Nat → Nat → Int32)) (awi : (Nat → Int32)) (aho : (Nat → Int32)) : Option (Int32 × (Nat → Int32) × (Nat → Int32) × Int32 × Int32 × (Nat → Nat → Int32) × (Nat → Nat → Int32) × (Nat → Nat → Int32) × (Nat → Int32) × (Nat → Int32)) :=
 ((fX4_has x1 flags).bind fun u1 => (if u1 = true then ((fX8_canBeSent x1 wh tubs flags).bind fun u3 => (if u3 = true then ((fX0_remember first size awh alf aco awi aho wh lf co wi ho).bind fun u5 => ((fX8_putInTub x1 wh lf flags phr).bind fun u6 => ((fX8_freeTubs u6.1 tubs flags).bind fun u7 => (some (u7, u6.1, u6.2, u5.1, u5.2.1, u5.2.2.1, u5.2.2.2.1, u5.2.2.2.2.1, u5.2.2.2.2.2.1, u5.2.2.2.2.2.2)))))
 else (some ((-3 : Int32), wh, lf, first, size, awh, alf, aco, awi, aho))))
 else (some ((-1 : Int32), wh, lf, first, size, awh, alf, aco, awi, aho))))
theorem hinX9_send_X9 : ∀ w ∈ u_ws RX9 TX9 12, w ∈ wsX9_send := fun w h => List.mem_cons_of_mem _ (List.mem_append_left _ (List.mem_append_left _ (List.mem_append_left _ (List.mem_append_right _ h))))
theorem mX9_send_1 : Cond.fieldLink RX9 27 "FlagWash" "plan" "LFlagWash$Plan;" ∈ wsX9_send := List.mem_of_getElem? (i := 1) rfl
theorem mX9_send_2 : Cond.fieldLink RX9 36 "FlagWash" "now" "LFlagWash$Wash;" ∈ wsX9_send := List.mem_of_getElem? (i := 2) rfl
theorem mX9_send_3 : Cond.fieldLink RX9 55 "FlagWash" "acts" "LFlagWash$Acts;" ∈ wsX9_send := List.mem_of_getElem? (i := 3) rfl
theorem hd_X9_send : yX9_send.cls ≠ "java/lang/invoke/MethodHandle" ∧ yX9_send.cls ≠ "java/lang/invoke/VarHandle" ∧ (parseMethodDescriptor yX9_send.desc).map (fun d => d.parameters.length) = some 1 := by decide +kernel
set_option maxHeartbeats 4000000 in
set_option maxRecDepth 100000 in
theorem kX9_send {l : Launch} {D : va_G} {cyI cyZ cyW : ClassId} {zW zO : Nat} {ad : Nat → Nat} {letters : (Nat → Int32)} {length : Int32} {stage : Int32} {rco : Int32} {rcl : Int32} {ron : Int32} {rtubs : Int32} {rpegs : Int32} {rpwi : Int32} {rflags : Int32} {rpco : (Nat → Int32)} {rpcl : (Nat → Int32)} {rphr : (Nat → Int32)} {rpho : (Nat → Int32)} {tubs : Int32} {pegs : Int32} {pwi : Int32} {flags : Int32} {pco : (Nat → Int32)} {pcl : (Nat → Int32)} {phr : (Nat → Int32)} {pho : (Nat → Int32)} {wh : (Nat → Int32)} {lf : (Nat → Int32)} {co : (Nat → Int32)} {wi : Int32} {ho : Int32} {twh : (Nat → Int32)} {tlf : (Nat → Int32)} {tco : (Nat → Int32)} {twi : Int32} {tho : Int32} {first : Int32} {size : Int32} {awh : (Nat → Nat → Int32)} {alf : (Nat → Nat → Int32)} {aco : (Nat → Nat → Int32)} {awi : (Nat → Int32)} {aho : (Nat → Int32)} {sfl : (Nat → Int32)} {sco : (Nat → Int32)} {swt : (Nat → Int32)} {ssz : Int32} {kwh : (Nat → Nat → Int32)} {klf : (Nat → Nat → Int32)} {kco : (Nat → Nat → Int32)} {kwi : (Nat → Int32)} {kho : (Nat → Int32)} {kept : (Nat → Int32)} {seed : Int64} {x1 : Int32} {res : Int32 × (Nat → Int32) × (Nat → Int32) × Int32 × Int32 × (Nat → Nat → Int32) × (Nat → Nat → Int32) × (Nat → Nat → Int32) × (Nat → Int32) × (Nat → Int32)} (h : fX9_send x1 tubs flags phr wh lf co wi ho first size awh alf aco awi aho = some res) : KI l yX9_send wsX9_send ({ frames := 3, cells := 0, slots := 0, locals := 64 } : Room) D (tyA cyI cyZ cyW) zW zO [.ref (ad 0), .int x1] (wFW cyI cyZ cyW ad letters length stage rco rcl ron rtubs rpegs rpwi rflags rpco rpcl rphr rpho tubs pegs pwi flags pco pcl phr pho wh lf co wi ho twh tlf tco twi tho first size awh alf aco awi aho sfl sco swt ssz kwh klf kco kwi kho kept seed) (wFW cyI cyZ cyW ad letters length stage rco rcl ron rtubs rpegs rpwi rflags rpco rpcl rphr rpho tubs pegs pwi flags pco pcl phr pho res.2.1 res.2.2.1 co wi ho twh tlf tco twi tho res.2.2.2.1 res.2.2.2.2.1 res.2.2.2.2.2.1 res.2.2.2.2.2.2.1 res.2.2.2.2.2.2.2.1 res.2.2.2.2.2.2.2.2.1 res.2.2.2.2.2.2.2.2.2 sfl sco swt ssz kwh klf kco kwi kho kept seed) res.1 := by
  refine enterI (cc := cX9_send) (nL := 2) (ret := (some .int)) (by decide) rfl (Nat.le_of_ble_eq_true rfl) (fun p e s m below meth c A C => ?_)
  refine r_lv (lv' := [(0, .ref (ad 0)), (1, .int x1)]) [0, 1] rfl ?_
  unfold fX9_send at h
  refine r_aload_n C dX9_send_0 0 rfl rfl ?_
  refine r_get (ci := 6) (CC := RX9) (T := TX9) (N := 12) (v := .ref (ad 8)) C hinX9_send_X9 0 rfl rfl 3 (by decide) mX9_send_1 rfl rfl dX9_send_1 ?_
  refine r_iload_n C dX9_send_4 1 rfl rfl ?_
  obtain ⟨u1, hu1, h⟩ := ob_bind h
  refine r_readVI (q0 := 0) (As := [.int x1]) (rest := []) C (kX4_has (p0 := (ad 8)) (p1 := (ad 9)) (p2 := (ad 10)) (p3 := (ad 11)) (p4 := (ad 12)) (tubs := tubs) (pegs := pegs) (pwi := pwi) (flags := flags) (pco := pco) (pcl := pcl) (phr := phr) (pho := pho) (x1 := x1) hu1) gX9_send_X4_has rfl rfl rfl ⟨rfl, hd_X4_has⟩ ⟨by decide, by decide⟩ rfl rfl rfl rfl [8, 9, 10, 11, 12] (by decide) in_58 rfl (Nat.le_of_ble_eq_true rfl) dX9_send_5 ⟨Nat.zero_le _, Nat.zero_le _⟩ ?_
  refine r_ifb_ne (tgt := 13) C dX9_send_8 (by decide) (fun c2 => ?_) (fun c2 => ?_)
  · replace h := ob_t h c2
    refine r_aload_n C dX9_send_13 0 rfl rfl ?_
    refine r_get (ci := 6) (CC := RX9) (T := TX9) (N := 12) (v := .ref (ad 13)) C hinX9_send_X9 0 rfl rfl 4 (by decide) mX9_send_2 rfl rfl dX9_send_14 ?_
    refine r_iload_n C dX9_send_17 1 rfl rfl ?_
    obtain ⟨u3, hu3, h⟩ := ob_bind h
    refine r_readVI (q0 := 0) (As := [.int x1]) (rest := []) C (kX8_canBeSent (w0 := (ad 13)) (w1 := (ad 14)) (w2 := (ad 15)) (w3 := (ad 16)) (p0 := (ad 8)) (p1 := (ad 9)) (p2 := (ad 10)) (p3 := (ad 11)) (p4 := (ad 12)) (wh := wh) (lf := lf) (co := co) (wi := wi) (ho := ho) (tubs := tubs) (pegs := pegs) (pwi := pwi) (flags := flags) (pco := pco) (pcl := pcl) (phr := phr) (pho := pho) (x1 := x1) hu3) gX9_send_X8_canBeSent rfl rfl rfl ⟨rfl, hd_X8_canBeSent⟩ ⟨by decide, by decide⟩ rfl rfl rfl rfl [13, 14, 15, 16, 8, 9, 10, 11, 12] (by decide) in_59 rfl (Nat.le_of_ble_eq_true rfl) dX9_send_18 ⟨Nat.zero_le _, Nat.zero_le _⟩ ?_
    refine r_ifb_ne (tgt := 27) C dX9_send_21 (by decide) (fun c4 => ?_) (fun c4 => ?_)
    · replace h := ob_t h c4
      refine r_aload_n C dX9_send_27 0 rfl rfl ?_
      refine r_get (ci := 6) (CC := RX9) (T := TX9) (N := 12) (v := .ref (ad 22)) C hinX9_send_X9 0 rfl rfl 7 (by decide) mX9_send_3 rfl rfl dX9_send_28 ?_
      refine r_aload_n C dX9_send_31 0 rfl rfl ?_
      refine r_get (ci := 6) (CC := RX9) (T := TX9) (N := 12) (v := .ref (ad 13)) C hinX9_send_X9 0 rfl rfl 4 (by decide) mX9_send_2 rfl rfl dX9_send_32 ?_
      obtain ⟨u5, hu5, h⟩ := ob_bind h
      refine r_callVV (q0 := 0) (As := [.ref (ad 13)]) (rest := []) (ws1 := (wFW cyI cyZ cyW ad letters length stage rco rcl ron rtubs rpegs rpwi rflags rpco rpcl rphr rpho tubs pegs pwi flags pco pcl phr pho wh lf co wi ho twh tlf tco twi tho u5.1 u5.2.1 u5.2.2.1 u5.2.2.2.1 u5.2.2.2.2.1 u5.2.2.2.2.2.1 u5.2.2.2.2.2.2 sfl sco swt ssz kwh klf kco kwi kho kept seed)) C (kX0_remember (a0 := (ad 22)) (a1 := (ad 23)) (aw := (fun k => ad (24 + k))) (w0 := (ad 13)) (w1 := (ad 14)) (w2 := (ad 15)) (w3 := (ad 16)) (p0 := (ad 8)) (first := first) (size := size) (awh := awh) (alf := alf) (aco := aco) (awi := awi) (aho := aho) (wh := wh) (lf := lf) (co := co) (wi := wi) (ho := ho)  hu5) gX9_send_X0_remember rfl rfl rfl ⟨rfl, hd_X0_remember⟩ ⟨by decide, by decide⟩ rfl rfl rfl rfl [22, 23, 24, 25, 26, 27, 28, 29, 30, 31, 32, 33, 34, 35, 36, 37, 38, 39, 40, 41, 42, 43, 44, 45, 46, 47, 48, 49, 50, 51, 52, 53, 54, 55, 56, 57, 58, 59, 60, 61, 62, 63, 64, 65, 66, 67, 68, 69, 70, 71, 72, 73, 74, 75, 76, 77, 78, 79, 13, 14, 15, 16] (by decide) in_60 se_60 (adrFW.trans adrFW.symm) rfl (Nat.le_of_ble_eq_true rfl) dX9_send_35 ⟨Nat.zero_le _, Nat.zero_le _⟩ ?_
      refine r_aload_n C dX9_send_38 0 rfl rfl ?_
      refine r_get (ci := 6) (CC := RX9) (T := TX9) (N := 12) (v := .ref (ad 13)) C hinX9_send_X9 0 rfl rfl 4 (by decide) mX9_send_2 rfl rfl dX9_send_39 ?_
      refine r_iload_n C dX9_send_42 1 rfl rfl ?_
      obtain ⟨u6, hu6, h⟩ := ob_bind h
      refine r_callVV (q0 := 0) (As := [.int x1]) (rest := []) (ws1 := (wFW cyI cyZ cyW ad letters length stage rco rcl ron rtubs rpegs rpwi rflags rpco rpcl rphr rpho tubs pegs pwi flags pco pcl phr pho u6.1 u6.2 co wi ho twh tlf tco twi tho u5.1 u5.2.1 u5.2.2.1 u5.2.2.2.1 u5.2.2.2.2.1 u5.2.2.2.2.2.1 u5.2.2.2.2.2.2 sfl sco swt ssz kwh klf kco kwi kho kept seed)) C (kX8_putInTub (w0 := (ad 13)) (w1 := (ad 14)) (w2 := (ad 15)) (w3 := (ad 16)) (p0 := (ad 8)) (p1 := (ad 9)) (p2 := (ad 10)) (p3 := (ad 11)) (p4 := (ad 12)) (wh := wh) (lf := lf) (co := co) (wi := wi) (ho := ho) (tubs := tubs) (pegs := pegs) (pwi := pwi) (flags := flags) (pco := pco) (pcl := pcl) (phr := phr) (pho := pho) (x1 := x1) hu6) gX9_send_X8_putInTub rfl rfl rfl ⟨rfl, hd_X8_putInTub⟩ ⟨by decide, by decide⟩ rfl rfl rfl rfl [13, 14, 15, 16, 8, 9, 10, 11, 12] (by decide) in_61 se_61 (adrFW.trans adrFW.symm) rfl (Nat.le_of_ble_eq_true rfl) dX9_send_43 ⟨Nat.zero_le _, Nat.zero_le _⟩ ?_
      refine r_aload_n C dX9_send_46 0 rfl rfl ?_
      refine r_get (ci := 6) (CC := RX9) (T := TX9) (N := 12) (v := .ref (ad 13)) C hinX9_send_X9 0 rfl rfl 4 (by decide) mX9_send_2 rfl rfl dX9_send_47 ?_
      obtain ⟨u7, hu7, h⟩ := ob_bind h
      refine r_readVI (q0 := 0) (As := []) (rest := []) C (kX8_freeTubs (w0 := (ad 13)) (w1 := (ad 14)) (w2 := (ad 15)) (w3 := (ad 16)) (p0 := (ad 8)) (p1 := (ad 9)) (p2 := (ad 10)) (p3 := (ad 11)) (p4 := (ad 12)) (wh := u6.1) (lf := u6.2) (co := co) (wi := wi) (ho := ho) (tubs := tubs) (pegs := pegs) (pwi := pwi) (flags := flags) (pco := pco) (pcl := pcl) (phr := phr) (pho := pho)  hu7) gX9_send_X8_freeTubs rfl rfl rfl ⟨rfl, hd_X8_freeTubs⟩ ⟨by decide, by decide⟩ rfl rfl rfl rfl [13, 14, 15, 16, 8, 9, 10, 11, 12] (by decide) in_59 rfl (Nat.le_of_ble_eq_true rfl) dX9_send_50 ⟨Nat.zero_le _, Nat.zero_le _⟩ ?_
      have h9 := Option.some.inj h
      subst h9
      exact r_iret C rfl dX9_send_53
    · replace h := ob_bf h c4
      refine r_bipush (v := -3) C dX9_send_24 bp_m3 ?_
      have h9 := Option.some.inj h
      subst h9
      exact r_iret C rfl dX9_send_26
  · replace h := ob_bf h c2
    refine r_iconst (v := -1) C dX9_send_11 ic_m1 ?_
    have h9 := Option.some.inj h
    subst h9
    exact r_iret C rfl dX9_send_12

/-! ===== FlagWash.pull ===== -/
def fX9_pull  (x1 : Int32) (flags : Int32) (wh : (Nat → Int32)) (lf : (Nat → Int32)) (co : (Nat → Int32)) (wi : Int32) (ho : Int32) (first : Int32) (size : Int32) (awh : (Nat → Nat → Int32)) (alf : (Nat → Nat → Int32)) (aco : (Nat → Nat → Int32)) (awi : (Nat → Int32)) (aho : (Nat → Int32)) : Option (Int32 × (Nat → Int32) × (Nat → Int32) × Int32 × Int32 × (Nat → Nat → Int32) × (Nat → Nat → Int32) × (Nat → Nat → Int32) × (Nat → Int32) × (Nat → Int32)) :=
 ((fX4_has x1 flags).bind fun u1 => (if u1 = true then ((fX8_canBePulled x1 wh flags).bind fun u3 => (if u3 = true then ((fX0_remember first size awh alf aco awi aho wh lf co wi ho).bind fun u5 => (if inb x1 5 = true then ((fX8_bringHome x1 wh lf flags).bind fun u7 => (some ((wh x1.toNatClampNeg), u7.1, u7.2, u5.1, u5.2.1, u5.2.2.1, u5.2.2.2.1, u5.2.2.2.2.1, u5.2.2.2.2.2.1, u5.2.2.2.2.2.2))) else none))
 else (some ((-3 : Int32), wh, lf, first, size, awh, alf, aco, awi, aho))))
 else (some ((-1 : Int32), wh, lf, first, size, awh, alf, aco, awi, aho))))
theorem hinX9_pull_X9 : ∀ w ∈ u_ws RX9 TX9 12, w ∈ wsX9_pull := fun w h => List.mem_cons_of_mem _ (List.mem_append_left _ (List.mem_append_left _ (List.mem_append_left _ (List.mem_append_right _ h))))
theorem mX9_pull_1 : Cond.fieldLink RX9 27 "FlagWash" "plan" "LFlagWash$Plan;" ∈ wsX9_pull := List.mem_of_getElem? (i := 1) rfl
theorem mX9_pull_2 : Cond.fieldLink RX9 36 "FlagWash" "now" "LFlagWash$Wash;" ∈ wsX9_pull := List.mem_of_getElem? (i := 2) rfl
theorem mX9_pull_3 : Cond.fieldLink RX9 55 "FlagWash" "acts" "LFlagWash$Acts;" ∈ wsX9_pull := List.mem_of_getElem? (i := 3) rfl
theorem hinX9_pull_X8 : ∀ w ∈ u_ws RX8 TX8 6, w ∈ wsX9_pull := fun w h => List.mem_cons_of_mem _ (List.mem_append_left _ (List.mem_append_left _ (List.mem_append_right _ h)))
theorem mX9_pull_4 : Cond.fieldLink RX9 108 "FlagWash$Wash" "where" "[I" ∈ wsX9_pull := List.mem_of_getElem? (i := 4) rfl
theorem hd_X9_pull : yX9_pull.cls ≠ "java/lang/invoke/MethodHandle" ∧ yX9_pull.cls ≠ "java/lang/invoke/VarHandle" ∧ (parseMethodDescriptor yX9_pull.desc).map (fun d => d.parameters.length) = some 1 := by decide +kernel
set_option maxHeartbeats 4000000 in
set_option maxRecDepth 100000 in
theorem kX9_pull {l : Launch} {D : va_G} {cyI cyZ cyW : ClassId} {zW zO : Nat} {ad : Nat → Nat} {letters : (Nat → Int32)} {length : Int32} {stage : Int32} {rco : Int32} {rcl : Int32} {ron : Int32} {rtubs : Int32} {rpegs : Int32} {rpwi : Int32} {rflags : Int32} {rpco : (Nat → Int32)} {rpcl : (Nat → Int32)} {rphr : (Nat → Int32)} {rpho : (Nat → Int32)} {tubs : Int32} {pegs : Int32} {pwi : Int32} {flags : Int32} {pco : (Nat → Int32)} {pcl : (Nat → Int32)} {phr : (Nat → Int32)} {pho : (Nat → Int32)} {wh : (Nat → Int32)} {lf : (Nat → Int32)} {co : (Nat → Int32)} {wi : Int32} {ho : Int32} {twh : (Nat → Int32)} {tlf : (Nat → Int32)} {tco : (Nat → Int32)} {twi : Int32} {tho : Int32} {first : Int32} {size : Int32} {awh : (Nat → Nat → Int32)} {alf : (Nat → Nat → Int32)} {aco : (Nat → Nat → Int32)} {awi : (Nat → Int32)} {aho : (Nat → Int32)} {sfl : (Nat → Int32)} {sco : (Nat → Int32)} {swt : (Nat → Int32)} {ssz : Int32} {kwh : (Nat → Nat → Int32)} {klf : (Nat → Nat → Int32)} {kco : (Nat → Nat → Int32)} {kwi : (Nat → Int32)} {kho : (Nat → Int32)} {kept : (Nat → Int32)} {seed : Int64} {x1 : Int32} {res : Int32 × (Nat → Int32) × (Nat → Int32) × Int32 × Int32 × (Nat → Nat → Int32) × (Nat → Nat → Int32) × (Nat → Nat → Int32) × (Nat → Int32) × (Nat → Int32)} (h : fX9_pull x1 flags wh lf co wi ho first size awh alf aco awi aho = some res) : KI l yX9_pull wsX9_pull ({ frames := 3, cells := 0, slots := 0, locals := 60 } : Room) D (tyA cyI cyZ cyW) zW zO [.ref (ad 0), .int x1] (wFW cyI cyZ cyW ad letters length stage rco rcl ron rtubs rpegs rpwi rflags rpco rpcl rphr rpho tubs pegs pwi flags pco pcl phr pho wh lf co wi ho twh tlf tco twi tho first size awh alf aco awi aho sfl sco swt ssz kwh klf kco kwi kho kept seed) (wFW cyI cyZ cyW ad letters length stage rco rcl ron rtubs rpegs rpwi rflags rpco rpcl rphr rpho tubs pegs pwi flags pco pcl phr pho res.2.1 res.2.2.1 co wi ho twh tlf tco twi tho res.2.2.2.1 res.2.2.2.2.1 res.2.2.2.2.2.1 res.2.2.2.2.2.2.1 res.2.2.2.2.2.2.2.1 res.2.2.2.2.2.2.2.2.1 res.2.2.2.2.2.2.2.2.2 sfl sco swt ssz kwh klf kco kwi kho kept seed) res.1 := by
  refine enterI (cc := cX9_pull) (nL := 3) (ret := (some .int)) (by decide) rfl (Nat.le_of_ble_eq_true rfl) (fun p e s m below meth c A C => ?_)
  refine r_lv (lv' := [(0, .ref (ad 0)), (1, .int x1)]) [0, 1] rfl ?_
  unfold fX9_pull at h
  refine r_aload_n C dX9_pull_0 0 rfl rfl ?_
  refine r_get (ci := 6) (CC := RX9) (T := TX9) (N := 12) (v := .ref (ad 8)) C hinX9_pull_X9 0 rfl rfl 3 (by decide) mX9_pull_1 rfl rfl dX9_pull_1 ?_
  refine r_iload_n C dX9_pull_4 1 rfl rfl ?_
  obtain ⟨u1, hu1, h⟩ := ob_bind h
  refine r_readVI (q0 := 0) (As := [.int x1]) (rest := []) C (kX4_has (p0 := (ad 8)) (p1 := (ad 9)) (p2 := (ad 10)) (p3 := (ad 11)) (p4 := (ad 12)) (tubs := tubs) (pegs := pegs) (pwi := pwi) (flags := flags) (pco := pco) (pcl := pcl) (phr := phr) (pho := pho) (x1 := x1) hu1) gX9_pull_X4_has rfl rfl rfl ⟨rfl, hd_X4_has⟩ ⟨by decide, by decide⟩ rfl rfl rfl rfl [8, 9, 10, 11, 12] (by decide) in_58 rfl (Nat.le_of_ble_eq_true rfl) dX9_pull_5 ⟨Nat.zero_le _, Nat.zero_le _⟩ ?_
  refine r_ifb_ne (tgt := 13) C dX9_pull_8 (by decide) (fun c2 => ?_) (fun c2 => ?_)
  · replace h := ob_t h c2
    refine r_aload_n C dX9_pull_13 0 rfl rfl ?_
    refine r_get (ci := 6) (CC := RX9) (T := TX9) (N := 12) (v := .ref (ad 13)) C hinX9_pull_X9 0 rfl rfl 4 (by decide) mX9_pull_2 rfl rfl dX9_pull_14 ?_
    refine r_iload_n C dX9_pull_17 1 rfl rfl ?_
    obtain ⟨u3, hu3, h⟩ := ob_bind h
    refine r_readVI (q0 := 0) (As := [.int x1]) (rest := []) C (kX8_canBePulled (w0 := (ad 13)) (w1 := (ad 14)) (w2 := (ad 15)) (w3 := (ad 16)) (p0 := (ad 8)) (p1 := (ad 9)) (p2 := (ad 10)) (p3 := (ad 11)) (p4 := (ad 12)) (wh := wh) (lf := lf) (co := co) (wi := wi) (ho := ho) (tubs := tubs) (pegs := pegs) (pwi := pwi) (flags := flags) (pco := pco) (pcl := pcl) (phr := phr) (pho := pho) (x1 := x1) hu3) gX9_pull_X8_canBePulled rfl rfl rfl ⟨rfl, hd_X8_canBePulled⟩ ⟨by decide, by decide⟩ rfl rfl rfl rfl [13, 14, 15, 16, 8, 9, 10, 11, 12] (by decide) in_59 rfl (Nat.le_of_ble_eq_true rfl) dX9_pull_18 ⟨Nat.zero_le _, Nat.zero_le _⟩ ?_
    refine r_ifb_ne (tgt := 27) C dX9_pull_21 (by decide) (fun c4 => ?_) (fun c4 => ?_)
    · replace h := ob_t h c4
      refine r_aload_n C dX9_pull_27 0 rfl rfl ?_
      refine r_get (ci := 6) (CC := RX9) (T := TX9) (N := 12) (v := .ref (ad 22)) C hinX9_pull_X9 0 rfl rfl 7 (by decide) mX9_pull_3 rfl rfl dX9_pull_28 ?_
      refine r_aload_n C dX9_pull_31 0 rfl rfl ?_
      refine r_get (ci := 6) (CC := RX9) (T := TX9) (N := 12) (v := .ref (ad 13)) C hinX9_pull_X9 0 rfl rfl 4 (by decide) mX9_pull_2 rfl rfl dX9_pull_32 ?_
      obtain ⟨u5, hu5, h⟩ := ob_bind h
      refine r_callVV (q0 := 0) (As := [.ref (ad 13)]) (rest := []) (ws1 := (wFW cyI cyZ cyW ad letters length stage rco rcl ron rtubs rpegs rpwi rflags rpco rpcl rphr rpho tubs pegs pwi flags pco pcl phr pho wh lf co wi ho twh tlf tco twi tho u5.1 u5.2.1 u5.2.2.1 u5.2.2.2.1 u5.2.2.2.2.1 u5.2.2.2.2.2.1 u5.2.2.2.2.2.2 sfl sco swt ssz kwh klf kco kwi kho kept seed)) C (kX0_remember (a0 := (ad 22)) (a1 := (ad 23)) (aw := (fun k => ad (24 + k))) (w0 := (ad 13)) (w1 := (ad 14)) (w2 := (ad 15)) (w3 := (ad 16)) (p0 := (ad 8)) (first := first) (size := size) (awh := awh) (alf := alf) (aco := aco) (awi := awi) (aho := aho) (wh := wh) (lf := lf) (co := co) (wi := wi) (ho := ho)  hu5) gX9_pull_X0_remember rfl rfl rfl ⟨rfl, hd_X0_remember⟩ ⟨by decide, by decide⟩ rfl rfl rfl rfl [22, 23, 24, 25, 26, 27, 28, 29, 30, 31, 32, 33, 34, 35, 36, 37, 38, 39, 40, 41, 42, 43, 44, 45, 46, 47, 48, 49, 50, 51, 52, 53, 54, 55, 56, 57, 58, 59, 60, 61, 62, 63, 64, 65, 66, 67, 68, 69, 70, 71, 72, 73, 74, 75, 76, 77, 78, 79, 13, 14, 15, 16] (by decide) in_60 se_60 (adrFW.trans adrFW.symm) rfl (Nat.le_of_ble_eq_true rfl) dX9_pull_35 ⟨Nat.zero_le _, Nat.zero_le _⟩ ?_
      refine r_aload_n C dX9_pull_38 0 rfl rfl ?_
      refine r_get (ci := 6) (CC := RX9) (T := TX9) (N := 12) (v := .ref (ad 13)) C hinX9_pull_X9 0 rfl rfl 4 (by decide) mX9_pull_2 rfl rfl dX9_pull_39 ?_
      refine r_get (ci := 5) (CC := RX8) (T := TX8) (N := 6) (v := .ref (ad 14)) C hinX9_pull_X8 13 rfl rfl 1 (by decide) mX9_pull_4 rfl rfl dX9_pull_42 ?_
      refine r_iload_n C dX9_pull_45 1 rfl rfl ?_
      obtain ⟨hu6, h⟩ := ob_if h
      refine r_iald C 14 0 rfl rfl (inb_vp hu6) dX9_pull_46 ?_
      refine r_istore_n (lv' := [(2, .int (wh x1.toNatClampNeg)), (0, .ref (ad 0)), (1, .int x1)]) C dX9_pull_47 rfl (by decide) rfl ?_
      refine r_aload_n C dX9_pull_48 1 rfl rfl ?_
      refine r_get (ci := 6) (CC := RX9) (T := TX9) (N := 12) (v := .ref (ad 13)) C hinX9_pull_X9 0 rfl rfl 4 (by decide) mX9_pull_2 rfl rfl dX9_pull_49 ?_
      refine r_iload_n C dX9_pull_52 2 rfl rfl ?_
      obtain ⟨u7, hu7, h⟩ := ob_bind h
      refine r_callVV (q0 := 0) (As := [.int x1]) (rest := []) (ws1 := (wFW cyI cyZ cyW ad letters length stage rco rcl ron rtubs rpegs rpwi rflags rpco rpcl rphr rpho tubs pegs pwi flags pco pcl phr pho u7.1 u7.2 co wi ho twh tlf tco twi tho u5.1 u5.2.1 u5.2.2.1 u5.2.2.2.1 u5.2.2.2.2.1 u5.2.2.2.2.2.1 u5.2.2.2.2.2.2 sfl sco swt ssz kwh klf kco kwi kho kept seed)) C (kX8_bringHome (w0 := (ad 13)) (w1 := (ad 14)) (w2 := (ad 15)) (w3 := (ad 16)) (p0 := (ad 8)) (p1 := (ad 9)) (p2 := (ad 10)) (p3 := (ad 11)) (p4 := (ad 12)) (wh := wh) (lf := lf) (co := co) (wi := wi) (ho := ho) (tubs := tubs) (pegs := pegs) (pwi := pwi) (flags := flags) (pco := pco) (pcl := pcl) (phr := phr) (pho := pho) (x1 := x1) hu7) gX9_pull_X8_bringHome rfl rfl rfl ⟨rfl, hd_X8_bringHome⟩ ⟨by decide, by decide⟩ rfl rfl rfl rfl [13, 14, 15, 16, 8, 9, 10, 11, 12] (by decide) in_61 se_61 (adrFW.trans adrFW.symm) rfl (Nat.le_of_ble_eq_true rfl) dX9_pull_53 ⟨Nat.zero_le _, Nat.zero_le _⟩ ?_
      refine r_iload_n C dX9_pull_56 0 rfl rfl ?_
      have h9 := Option.some.inj h
      subst h9
      exact r_iret C rfl dX9_pull_57
    · replace h := ob_bf h c4
      refine r_bipush (v := -3) C dX9_pull_24 bp_m3 ?_
      have h9 := Option.some.inj h
      subst h9
      exact r_iret C rfl dX9_pull_26
  · replace h := ob_bf h c2
    refine r_iconst (v := -1) C dX9_pull_11 ic_m1 ?_
    have h9 := Option.some.inj h
    subst h9
    exact r_iret C rfl dX9_pull_12

/-! ===== FlagWash.hour ===== -/
def fX9_hour  (pegs : Int32) (flags : Int32) (pcl : (Nat → Int32)) (wh : (Nat → Int32)) (lf : (Nat → Int32)) (co : (Nat → Int32)) (wi : Int32) (ho : Int32) (first : Int32) (size : Int32) (awh : (Nat → Nat → Int32)) (alf : (Nat → Nat → Int32)) (aco : (Nat → Nat → Int32)) (awi : (Nat → Int32)) (aho : (Nat → Int32)) : Option (Int32 × (Nat → Int32) × (Nat → Int32) × (Nat → Int32) × Int32 × Int32 × Int32 × (Nat → Nat → Int32) × (Nat → Nat → Int32) × (Nat → Nat → Int32) × (Nat → Int32) × (Nat → Int32)) :=
 ((fX0_remember first size awh alf aco awi aho wh lf co wi ho).bind fun u1 => ((fX8_passHour wh lf co wi ho pegs flags pcl).bind fun u2 => (some (u2.1, u2.2.1, u2.2.2.1, u2.2.2.2.1, u2.2.2.2.2, u1.1, u1.2.1, u1.2.2.1, u1.2.2.2.1, u1.2.2.2.2.1, u1.2.2.2.2.2.1, u1.2.2.2.2.2.2))))
theorem hinX9_hour_X9 : ∀ w ∈ u_ws RX9 TX9 12, w ∈ wsX9_hour := fun w h => List.mem_cons_of_mem _ (List.mem_append_left _ (List.mem_append_left _ (List.mem_append_left _ (List.mem_append_right _ h))))
theorem mX9_hour_1 : Cond.fieldLink RX9 55 "FlagWash" "acts" "LFlagWash$Acts;" ∈ wsX9_hour := List.mem_of_getElem? (i := 1) rfl
theorem mX9_hour_2 : Cond.fieldLink RX9 36 "FlagWash" "now" "LFlagWash$Wash;" ∈ wsX9_hour := List.mem_of_getElem? (i := 2) rfl
theorem hd_X9_hour : yX9_hour.cls ≠ "java/lang/invoke/MethodHandle" ∧ yX9_hour.cls ≠ "java/lang/invoke/VarHandle" ∧ (parseMethodDescriptor yX9_hour.desc).map (fun d => d.parameters.length) = some 0 := by decide +kernel
set_option maxHeartbeats 4000000 in
set_option maxRecDepth 100000 in
theorem kX9_hour {l : Launch} {D : va_G} {cyI cyZ cyW : ClassId} {zW zO : Nat} {ad : Nat → Nat} {letters : (Nat → Int32)} {length : Int32} {stage : Int32} {rco : Int32} {rcl : Int32} {ron : Int32} {rtubs : Int32} {rpegs : Int32} {rpwi : Int32} {rflags : Int32} {rpco : (Nat → Int32)} {rpcl : (Nat → Int32)} {rphr : (Nat → Int32)} {rpho : (Nat → Int32)} {tubs : Int32} {pegs : Int32} {pwi : Int32} {flags : Int32} {pco : (Nat → Int32)} {pcl : (Nat → Int32)} {phr : (Nat → Int32)} {pho : (Nat → Int32)} {wh : (Nat → Int32)} {lf : (Nat → Int32)} {co : (Nat → Int32)} {wi : Int32} {ho : Int32} {twh : (Nat → Int32)} {tlf : (Nat → Int32)} {tco : (Nat → Int32)} {twi : Int32} {tho : Int32} {first : Int32} {size : Int32} {awh : (Nat → Nat → Int32)} {alf : (Nat → Nat → Int32)} {aco : (Nat → Nat → Int32)} {awi : (Nat → Int32)} {aho : (Nat → Int32)} {sfl : (Nat → Int32)} {sco : (Nat → Int32)} {swt : (Nat → Int32)} {ssz : Int32} {kwh : (Nat → Nat → Int32)} {klf : (Nat → Nat → Int32)} {kco : (Nat → Nat → Int32)} {kwi : (Nat → Int32)} {kho : (Nat → Int32)} {kept : (Nat → Int32)} {seed : Int64}  {res : Int32 × (Nat → Int32) × (Nat → Int32) × (Nat → Int32) × Int32 × Int32 × Int32 × (Nat → Nat → Int32) × (Nat → Nat → Int32) × (Nat → Nat → Int32) × (Nat → Int32) × (Nat → Int32)} (h : fX9_hour pegs flags pcl wh lf co wi ho first size awh alf aco awi aho = some res) : KI l yX9_hour wsX9_hour ({ frames := 4, cells := 0, slots := 0, locals := 85 } : Room) D (tyA cyI cyZ cyW) zW zO [.ref (ad 0)] (wFW cyI cyZ cyW ad letters length stage rco rcl ron rtubs rpegs rpwi rflags rpco rpcl rphr rpho tubs pegs pwi flags pco pcl phr pho wh lf co wi ho twh tlf tco twi tho first size awh alf aco awi aho sfl sco swt ssz kwh klf kco kwi kho kept seed) (wFW cyI cyZ cyW ad letters length stage rco rcl ron rtubs rpegs rpwi rflags rpco rpcl rphr rpho tubs pegs pwi flags pco pcl phr pho res.2.1 res.2.2.1 res.2.2.2.1 wi res.2.2.2.2.1 twh tlf tco twi tho res.2.2.2.2.2.1 res.2.2.2.2.2.2.1 res.2.2.2.2.2.2.2.1 res.2.2.2.2.2.2.2.2.1 res.2.2.2.2.2.2.2.2.2.1 res.2.2.2.2.2.2.2.2.2.2.1 res.2.2.2.2.2.2.2.2.2.2.2 sfl sco swt ssz kwh klf kco kwi kho kept seed) res.1 := by
  refine enterI (cc := cX9_hour) (nL := 1) (ret := (some .int)) (by decide) rfl (Nat.le_of_ble_eq_true rfl) (fun p e s m below meth c A C => ?_)
  refine r_lv (lv' := [(0, .ref (ad 0))]) [0] rfl ?_
  unfold fX9_hour at h
  refine r_aload_n C dX9_hour_0 0 rfl rfl ?_
  refine r_get (ci := 6) (CC := RX9) (T := TX9) (N := 12) (v := .ref (ad 22)) C hinX9_hour_X9 0 rfl rfl 7 (by decide) mX9_hour_1 rfl rfl dX9_hour_1 ?_
  refine r_aload_n C dX9_hour_4 0 rfl rfl ?_
  refine r_get (ci := 6) (CC := RX9) (T := TX9) (N := 12) (v := .ref (ad 13)) C hinX9_hour_X9 0 rfl rfl 4 (by decide) mX9_hour_2 rfl rfl dX9_hour_5 ?_
  obtain ⟨u1, hu1, h⟩ := ob_bind h
  refine r_callVV (q0 := 0) (As := [.ref (ad 13)]) (rest := []) (ws1 := (wFW cyI cyZ cyW ad letters length stage rco rcl ron rtubs rpegs rpwi rflags rpco rpcl rphr rpho tubs pegs pwi flags pco pcl phr pho wh lf co wi ho twh tlf tco twi tho u1.1 u1.2.1 u1.2.2.1 u1.2.2.2.1 u1.2.2.2.2.1 u1.2.2.2.2.2.1 u1.2.2.2.2.2.2 sfl sco swt ssz kwh klf kco kwi kho kept seed)) C (kX0_remember (a0 := (ad 22)) (a1 := (ad 23)) (aw := (fun k => ad (24 + k))) (w0 := (ad 13)) (w1 := (ad 14)) (w2 := (ad 15)) (w3 := (ad 16)) (p0 := (ad 8)) (first := first) (size := size) (awh := awh) (alf := alf) (aco := aco) (awi := awi) (aho := aho) (wh := wh) (lf := lf) (co := co) (wi := wi) (ho := ho)  hu1) gX9_hour_X0_remember rfl rfl rfl ⟨rfl, hd_X0_remember⟩ ⟨by decide, by decide⟩ rfl rfl rfl rfl [22, 23, 24, 25, 26, 27, 28, 29, 30, 31, 32, 33, 34, 35, 36, 37, 38, 39, 40, 41, 42, 43, 44, 45, 46, 47, 48, 49, 50, 51, 52, 53, 54, 55, 56, 57, 58, 59, 60, 61, 62, 63, 64, 65, 66, 67, 68, 69, 70, 71, 72, 73, 74, 75, 76, 77, 78, 79, 13, 14, 15, 16] (by decide) in_60 se_60 (adrFW.trans adrFW.symm) rfl (Nat.le_of_ble_eq_true rfl) dX9_hour_8 ⟨Nat.zero_le _, Nat.zero_le _⟩ ?_
  refine r_aload_n C dX9_hour_11 0 rfl rfl ?_
  refine r_get (ci := 6) (CC := RX9) (T := TX9) (N := 12) (v := .ref (ad 13)) C hinX9_hour_X9 0 rfl rfl 4 (by decide) mX9_hour_2 rfl rfl dX9_hour_12 ?_
  obtain ⟨u2, hu2, h⟩ := ob_bind h
  refine r_callVI (q0 := 0) (As := []) (rest := []) (ws1 := (wFW cyI cyZ cyW ad letters length stage rco rcl ron rtubs rpegs rpwi rflags rpco rpcl rphr rpho tubs pegs pwi flags pco pcl phr pho u2.2.1 u2.2.2.1 u2.2.2.2.1 wi u2.2.2.2.2 twh tlf tco twi tho u1.1 u1.2.1 u1.2.2.1 u1.2.2.2.1 u1.2.2.2.2.1 u1.2.2.2.2.2.1 u1.2.2.2.2.2.2 sfl sco swt ssz kwh klf kco kwi kho kept seed)) C (kX8_passHour (w0 := (ad 13)) (w1 := (ad 14)) (w2 := (ad 15)) (w3 := (ad 16)) (p0 := (ad 8)) (p1 := (ad 9)) (p2 := (ad 10)) (p3 := (ad 11)) (p4 := (ad 12)) (wh := wh) (lf := lf) (co := co) (wi := wi) (ho := ho) (tubs := tubs) (pegs := pegs) (pwi := pwi) (flags := flags) (pco := pco) (pcl := pcl) (phr := phr) (pho := pho)  hu2) gX9_hour_X8_passHour rfl rfl rfl ⟨rfl, hd_X8_passHour⟩ ⟨by decide, by decide⟩ rfl rfl rfl rfl [13, 14, 15, 16, 8, 9, 10, 11, 12] (by decide) in_62 se_62 (adrFW.trans adrFW.symm) rfl (Nat.le_of_ble_eq_true rfl) dX9_hour_15 ⟨Nat.zero_le _, Nat.zero_le _⟩ ?_
  have h9 := Option.some.inj h
  subst h9
  exact r_iret C rfl dX9_hour_18

/-! ===== FlagWash.wind ===== -/
def fX9_wind  (x1 : Int32) (wh : (Nat → Int32)) (lf : (Nat → Int32)) (co : (Nat → Int32)) (wi : Int32) (ho : Int32) (first : Int32) (size : Int32) (awh : (Nat → Nat → Int32)) (alf : (Nat → Nat → Int32)) (aco : (Nat → Nat → Int32)) (awi : (Nat → Int32)) (aho : (Nat → Int32)) : Option (Int32 × Int32 × Int32 × Int32 × (Nat → Nat → Int32) × (Nat → Nat → Int32) × (Nat → Nat → Int32) × (Nat → Int32) × (Nat → Int32)) :=
 (if x1 < 0 then (some ((-2 : Int32), wi, first, size, awh, alf, aco, awi, aho))
 else (if x1 ≤ (2 : Int32) then (if x1 = wi then (some ((-3 : Int32), wi, first, size, awh, alf, aco, awi, aho))
 else ((fX0_remember first size awh alf aco awi aho wh lf co wi ho).bind fun u4 => (some (wi, x1, u4.1, u4.2.1, u4.2.2.1, u4.2.2.2.1, u4.2.2.2.2.1, u4.2.2.2.2.2.1, u4.2.2.2.2.2.2))))
 else (some ((-2 : Int32), wi, first, size, awh, alf, aco, awi, aho))))
theorem hinX9_wind_X9 : ∀ w ∈ u_ws RX9 TX9 12, w ∈ wsX9_wind := fun w h => List.mem_cons_of_mem _ (List.mem_append_left _ (List.mem_append_left _ (List.mem_append_right _ h)))
theorem mX9_wind_1 : Cond.fieldLink RX9 36 "FlagWash" "now" "LFlagWash$Wash;" ∈ wsX9_wind := List.mem_of_getElem? (i := 1) rfl
theorem hinX9_wind_X8 : ∀ w ∈ u_ws RX8 TX8 6, w ∈ wsX9_wind := fun w h => List.mem_cons_of_mem _ (List.mem_append_left _ (List.mem_append_right _ h))
theorem mX9_wind_2 : Cond.fieldLink RX9 140 "FlagWash$Wash" "wind" "I" ∈ wsX9_wind := List.mem_of_getElem? (i := 2) rfl
theorem mX9_wind_3 : Cond.fieldLink RX9 55 "FlagWash" "acts" "LFlagWash$Acts;" ∈ wsX9_wind := List.mem_of_getElem? (i := 3) rfl
theorem hd_X9_wind : yX9_wind.cls ≠ "java/lang/invoke/MethodHandle" ∧ yX9_wind.cls ≠ "java/lang/invoke/VarHandle" ∧ (parseMethodDescriptor yX9_wind.desc).map (fun d => d.parameters.length) = some 1 := by decide +kernel
set_option maxHeartbeats 4000000 in
set_option maxRecDepth 100000 in
theorem kX9_wind {l : Launch} {D : va_G} {cyI cyZ cyW : ClassId} {zW zO : Nat} {ad : Nat → Nat} {letters : (Nat → Int32)} {length : Int32} {stage : Int32} {rco : Int32} {rcl : Int32} {ron : Int32} {rtubs : Int32} {rpegs : Int32} {rpwi : Int32} {rflags : Int32} {rpco : (Nat → Int32)} {rpcl : (Nat → Int32)} {rphr : (Nat → Int32)} {rpho : (Nat → Int32)} {tubs : Int32} {pegs : Int32} {pwi : Int32} {flags : Int32} {pco : (Nat → Int32)} {pcl : (Nat → Int32)} {phr : (Nat → Int32)} {pho : (Nat → Int32)} {wh : (Nat → Int32)} {lf : (Nat → Int32)} {co : (Nat → Int32)} {wi : Int32} {ho : Int32} {twh : (Nat → Int32)} {tlf : (Nat → Int32)} {tco : (Nat → Int32)} {twi : Int32} {tho : Int32} {first : Int32} {size : Int32} {awh : (Nat → Nat → Int32)} {alf : (Nat → Nat → Int32)} {aco : (Nat → Nat → Int32)} {awi : (Nat → Int32)} {aho : (Nat → Int32)} {sfl : (Nat → Int32)} {sco : (Nat → Int32)} {swt : (Nat → Int32)} {ssz : Int32} {kwh : (Nat → Nat → Int32)} {klf : (Nat → Nat → Int32)} {kco : (Nat → Nat → Int32)} {kwi : (Nat → Int32)} {kho : (Nat → Int32)} {kept : (Nat → Int32)} {seed : Int64} {x1 : Int32} {res : Int32 × Int32 × Int32 × Int32 × (Nat → Nat → Int32) × (Nat → Nat → Int32) × (Nat → Nat → Int32) × (Nat → Int32) × (Nat → Int32)} (h : fX9_wind x1 wh lf co wi ho first size awh alf aco awi aho = some res) : KI l yX9_wind wsX9_wind ({ frames := 3, cells := 0, slots := 0, locals := 60 } : Room) D (tyA cyI cyZ cyW) zW zO [.ref (ad 0), .int x1] (wFW cyI cyZ cyW ad letters length stage rco rcl ron rtubs rpegs rpwi rflags rpco rpcl rphr rpho tubs pegs pwi flags pco pcl phr pho wh lf co wi ho twh tlf tco twi tho first size awh alf aco awi aho sfl sco swt ssz kwh klf kco kwi kho kept seed) (wFW cyI cyZ cyW ad letters length stage rco rcl ron rtubs rpegs rpwi rflags rpco rpcl rphr rpho tubs pegs pwi flags pco pcl phr pho wh lf co res.2.1 ho twh tlf tco twi tho res.2.2.1 res.2.2.2.1 res.2.2.2.2.1 res.2.2.2.2.2.1 res.2.2.2.2.2.2.1 res.2.2.2.2.2.2.2.1 res.2.2.2.2.2.2.2.2 sfl sco swt ssz kwh klf kco kwi kho kept seed) res.1 := by
  refine enterI (cc := cX9_wind) (nL := 3) (ret := (some .int)) (by decide) rfl (Nat.le_of_ble_eq_true rfl) (fun p e s m below meth c A C => ?_)
  refine r_lv (lv' := [(0, .ref (ad 0)), (1, .int x1)]) [0, 1] rfl ?_
  unfold fX9_wind at h
  refine r_iload_n C dX9_wind_0 1 rfl rfl ?_
  refine r_if_lt (tgt := 9) C dX9_wind_1 (by decide) (fun c1 => ?_) (fun c1 => ?_)
  · replace h := ob_t h c1
    refine r_bipush (v := -2) C dX9_wind_9 bp_m2 ?_
    have h9 := Option.some.inj h
    subst h9
    exact r_iret C rfl dX9_wind_11
  · replace h := ob_f h c1
    refine r_iload_n C dX9_wind_4 1 rfl rfl ?_
    refine r_iconst (v := 2) C dX9_wind_5 ic_2 ?_
    refine r_icmp_le (tgt := 12) C dX9_wind_6 (by decide) (fun c2 => ?_) (fun c2 => ?_)
    · replace h := ob_t h c2
      refine r_iload_n C dX9_wind_12 1 rfl rfl ?_
      refine r_aload_n C dX9_wind_13 0 rfl rfl ?_
      refine r_get (ci := 6) (CC := RX9) (T := TX9) (N := 12) (v := .ref (ad 13)) C hinX9_wind_X9 0 rfl rfl 4 (by decide) mX9_wind_1 rfl rfl dX9_wind_14 ?_
      refine r_get (ci := 5) (CC := RX8) (T := TX8) (N := 6) (v := .int wi) C hinX9_wind_X8 13 rfl rfl 4 (by decide) mX9_wind_2 rfl rfl dX9_wind_17 ?_
      refine r_icmp_ne (tgt := 26) C dX9_wind_20 (by decide) (fun c3 => ?_) (fun c3 => ?_)
      · replace h := ob_f h c3
        refine r_aload_n C dX9_wind_26 0 rfl rfl ?_
        refine r_get (ci := 6) (CC := RX9) (T := TX9) (N := 12) (v := .ref (ad 22)) C hinX9_wind_X9 0 rfl rfl 7 (by decide) mX9_wind_3 rfl rfl dX9_wind_27 ?_
        refine r_aload_n C dX9_wind_30 0 rfl rfl ?_
        refine r_get (ci := 6) (CC := RX9) (T := TX9) (N := 12) (v := .ref (ad 13)) C hinX9_wind_X9 0 rfl rfl 4 (by decide) mX9_wind_1 rfl rfl dX9_wind_31 ?_
        obtain ⟨u4, hu4, h⟩ := ob_bind h
        refine r_callVV (q0 := 0) (As := [.ref (ad 13)]) (rest := []) (ws1 := (wFW cyI cyZ cyW ad letters length stage rco rcl ron rtubs rpegs rpwi rflags rpco rpcl rphr rpho tubs pegs pwi flags pco pcl phr pho wh lf co wi ho twh tlf tco twi tho u4.1 u4.2.1 u4.2.2.1 u4.2.2.2.1 u4.2.2.2.2.1 u4.2.2.2.2.2.1 u4.2.2.2.2.2.2 sfl sco swt ssz kwh klf kco kwi kho kept seed)) C (kX0_remember (a0 := (ad 22)) (a1 := (ad 23)) (aw := (fun k => ad (24 + k))) (w0 := (ad 13)) (w1 := (ad 14)) (w2 := (ad 15)) (w3 := (ad 16)) (p0 := (ad 8)) (first := first) (size := size) (awh := awh) (alf := alf) (aco := aco) (awi := awi) (aho := aho) (wh := wh) (lf := lf) (co := co) (wi := wi) (ho := ho)  hu4) gX9_wind_X0_remember rfl rfl rfl ⟨rfl, hd_X0_remember⟩ ⟨by decide, by decide⟩ rfl rfl rfl rfl [22, 23, 24, 25, 26, 27, 28, 29, 30, 31, 32, 33, 34, 35, 36, 37, 38, 39, 40, 41, 42, 43, 44, 45, 46, 47, 48, 49, 50, 51, 52, 53, 54, 55, 56, 57, 58, 59, 60, 61, 62, 63, 64, 65, 66, 67, 68, 69, 70, 71, 72, 73, 74, 75, 76, 77, 78, 79, 13, 14, 15, 16] (by decide) in_60 se_60 (adrFW.trans adrFW.symm) rfl (Nat.le_of_ble_eq_true rfl) dX9_wind_34 ⟨Nat.zero_le _, Nat.zero_le _⟩ ?_
        refine r_aload_n C dX9_wind_37 0 rfl rfl ?_
        refine r_get (ci := 6) (CC := RX9) (T := TX9) (N := 12) (v := .ref (ad 13)) C hinX9_wind_X9 0 rfl rfl 4 (by decide) mX9_wind_1 rfl rfl dX9_wind_38 ?_
        refine r_get (ci := 5) (CC := RX8) (T := TX8) (N := 6) (v := .int wi) C hinX9_wind_X8 13 rfl rfl 4 (by decide) mX9_wind_2 rfl rfl dX9_wind_41 ?_
        refine r_istore_n (lv' := [(2, .int wi), (0, .ref (ad 0)), (1, .int x1)]) C dX9_wind_44 rfl (by decide) rfl ?_
        refine r_aload_n C dX9_wind_45 1 rfl rfl ?_
        refine r_get (ci := 6) (CC := RX9) (T := TX9) (N := 12) (v := .ref (ad 13)) C hinX9_wind_X9 0 rfl rfl 4 (by decide) mX9_wind_1 rfl rfl dX9_wind_46 ?_
        refine r_iload_n C dX9_wind_49 2 rfl rfl ?_
        refine r_put (ci := 5) (CC := RX8) (T := TX8) (N := 6) (v := .int x1) (ws1 := (wFW cyI cyZ cyW ad letters length stage rco rcl ron rtubs rpegs rpwi rflags rpco rpcl rphr rpho tubs pegs pwi flags pco pcl phr pho wh lf co x1 ho twh tlf tco twi tho u4.1 u4.2.1 u4.2.2.1 u4.2.2.2.1 u4.2.2.2.2.1 u4.2.2.2.2.2.1 u4.2.2.2.2.2.2 sfl sco swt ssz kwh klf kco kwi kho kept seed)) (ty := .int) C hinX9_wind_X8 tyX8 tyX8_ok nmX8 13 rfl rfl 4 (by decide) mX9_wind_2 rfl rfl rfl rfl rfl (Nat.le_of_ble_eq_true rfl) rfl dX9_wind_50 ?_
        refine r_iload_n C dX9_wind_53 0 rfl rfl ?_
        have h9 := Option.some.inj h
        subst h9
        exact r_iret C rfl dX9_wind_54
      · replace h := ob_t h c3
        refine r_bipush (v := -3) C dX9_wind_23 bp_m3 ?_
        have h9 := Option.some.inj h
        subst h9
        exact r_iret C rfl dX9_wind_25
    · replace h := ob_f h c2
      refine r_bipush (v := -2) C dX9_wind_9 bp_m2 ?_
      have h9 := Option.some.inj h
      subst h9
      exact r_iret C rfl dX9_wind_11

/-! ===== FlagWash.undo ===== -/
def fX9_undo  (wh : (Nat → Int32)) (lf : (Nat → Int32)) (co : (Nat → Int32)) (wi : Int32) (ho : Int32) (first : Int32) (size : Int32) (awh : (Nat → Nat → Int32)) (alf : (Nat → Nat → Int32)) (aco : (Nat → Nat → Int32)) (awi : (Nat → Int32)) (aho : (Nat → Int32)) : Option (Int32 × (Nat → Int32) × (Nat → Int32) × (Nat → Int32) × Int32 × Int32 × Int32) :=
 ((fX0_takeBack first size awh alf aco awi aho wh lf co wi ho).bind fun u1 => (if u1.1 = true then (some (u1.2.1, u1.2.2.1, u1.2.2.2.1, u1.2.2.2.2.1, u1.2.2.2.2.2.1, u1.2.2.2.2.2.2, u1.2.1))
 else (some ((-3 : Int32), u1.2.2.1, u1.2.2.2.1, u1.2.2.2.2.1, u1.2.2.2.2.2.1, u1.2.2.2.2.2.2, u1.2.1))))
theorem hinX9_undo_X9 : ∀ w ∈ u_ws RX9 TX9 12, w ∈ wsX9_undo := fun w h => List.mem_cons_of_mem _ (List.mem_append_left _ (List.mem_append_left _ (List.mem_append_right _ h)))
theorem mX9_undo_1 : Cond.fieldLink RX9 55 "FlagWash" "acts" "LFlagWash$Acts;" ∈ wsX9_undo := List.mem_of_getElem? (i := 1) rfl
theorem mX9_undo_2 : Cond.fieldLink RX9 36 "FlagWash" "now" "LFlagWash$Wash;" ∈ wsX9_undo := List.mem_of_getElem? (i := 2) rfl
theorem hinX9_undo_X0 : ∀ w ∈ u_ws RX0 TX0 3, w ∈ wsX9_undo := fun w h => List.mem_cons_of_mem _ (List.mem_append_left _ (List.mem_append_right _ h))
theorem mX9_undo_3 : Cond.fieldLink RX9 147 "FlagWash$Acts" "size" "I" ∈ wsX9_undo := List.mem_of_getElem? (i := 3) rfl
theorem hd_X9_undo : yX9_undo.cls ≠ "java/lang/invoke/MethodHandle" ∧ yX9_undo.cls ≠ "java/lang/invoke/VarHandle" ∧ (parseMethodDescriptor yX9_undo.desc).map (fun d => d.parameters.length) = some 0 := by decide +kernel
set_option maxHeartbeats 4000000 in
set_option maxRecDepth 100000 in
theorem kX9_undo {l : Launch} {D : va_G} {cyI cyZ cyW : ClassId} {zW zO : Nat} {ad : Nat → Nat} {letters : (Nat → Int32)} {length : Int32} {stage : Int32} {rco : Int32} {rcl : Int32} {ron : Int32} {rtubs : Int32} {rpegs : Int32} {rpwi : Int32} {rflags : Int32} {rpco : (Nat → Int32)} {rpcl : (Nat → Int32)} {rphr : (Nat → Int32)} {rpho : (Nat → Int32)} {tubs : Int32} {pegs : Int32} {pwi : Int32} {flags : Int32} {pco : (Nat → Int32)} {pcl : (Nat → Int32)} {phr : (Nat → Int32)} {pho : (Nat → Int32)} {wh : (Nat → Int32)} {lf : (Nat → Int32)} {co : (Nat → Int32)} {wi : Int32} {ho : Int32} {twh : (Nat → Int32)} {tlf : (Nat → Int32)} {tco : (Nat → Int32)} {twi : Int32} {tho : Int32} {first : Int32} {size : Int32} {awh : (Nat → Nat → Int32)} {alf : (Nat → Nat → Int32)} {aco : (Nat → Nat → Int32)} {awi : (Nat → Int32)} {aho : (Nat → Int32)} {sfl : (Nat → Int32)} {sco : (Nat → Int32)} {swt : (Nat → Int32)} {ssz : Int32} {kwh : (Nat → Nat → Int32)} {klf : (Nat → Nat → Int32)} {kco : (Nat → Nat → Int32)} {kwi : (Nat → Int32)} {kho : (Nat → Int32)} {kept : (Nat → Int32)} {seed : Int64}  {res : Int32 × (Nat → Int32) × (Nat → Int32) × (Nat → Int32) × Int32 × Int32 × Int32} (h : fX9_undo wh lf co wi ho first size awh alf aco awi aho = some res) : KI l yX9_undo wsX9_undo ({ frames := 3, cells := 0, slots := 0, locals := 60 } : Room) D (tyA cyI cyZ cyW) zW zO [.ref (ad 0)] (wFW cyI cyZ cyW ad letters length stage rco rcl ron rtubs rpegs rpwi rflags rpco rpcl rphr rpho tubs pegs pwi flags pco pcl phr pho wh lf co wi ho twh tlf tco twi tho first size awh alf aco awi aho sfl sco swt ssz kwh klf kco kwi kho kept seed) (wFW cyI cyZ cyW ad letters length stage rco rcl ron rtubs rpegs rpwi rflags rpco rpcl rphr rpho tubs pegs pwi flags pco pcl phr pho res.2.1 res.2.2.1 res.2.2.2.1 res.2.2.2.2.1 res.2.2.2.2.2.1 twh tlf tco twi tho first res.2.2.2.2.2.2 awh alf aco awi aho sfl sco swt ssz kwh klf kco kwi kho kept seed) res.1 := by
  refine enterI (cc := cX9_undo) (nL := 1) (ret := (some .int)) (by decide) rfl (Nat.le_of_ble_eq_true rfl) (fun p e s m below meth c A C => ?_)
  refine r_lv (lv' := [(0, .ref (ad 0))]) [0] rfl ?_
  unfold fX9_undo at h
  refine r_aload_n C dX9_undo_0 0 rfl rfl ?_
  refine r_get (ci := 6) (CC := RX9) (T := TX9) (N := 12) (v := .ref (ad 22)) C hinX9_undo_X9 0 rfl rfl 7 (by decide) mX9_undo_1 rfl rfl dX9_undo_1 ?_
  refine r_aload_n C dX9_undo_4 0 rfl rfl ?_
  refine r_get (ci := 6) (CC := RX9) (T := TX9) (N := 12) (v := .ref (ad 13)) C hinX9_undo_X9 0 rfl rfl 4 (by decide) mX9_undo_2 rfl rfl dX9_undo_5 ?_
  obtain ⟨u1, hu1, h⟩ := ob_bind h
  refine r_callVI (q0 := 0) (As := [.ref (ad 13)]) (rest := []) (ws1 := (wFW cyI cyZ cyW ad letters length stage rco rcl ron rtubs rpegs rpwi rflags rpco rpcl rphr rpho tubs pegs pwi flags pco pcl phr pho u1.2.2.1 u1.2.2.2.1 u1.2.2.2.2.1 u1.2.2.2.2.2.1 u1.2.2.2.2.2.2 twh tlf tco twi tho first u1.2.1 awh alf aco awi aho sfl sco swt ssz kwh klf kco kwi kho kept seed)) C (kX0_takeBack (a0 := (ad 22)) (a1 := (ad 23)) (aw := (fun k => ad (24 + k))) (w0 := (ad 13)) (w1 := (ad 14)) (w2 := (ad 15)) (w3 := (ad 16)) (p0 := (ad 8)) (first := first) (size := size) (awh := awh) (alf := alf) (aco := aco) (awi := awi) (aho := aho) (wh := wh) (lf := lf) (co := co) (wi := wi) (ho := ho)  hu1) gX9_undo_X0_takeBack rfl rfl rfl ⟨rfl, hd_X0_takeBack⟩ ⟨by decide, by decide⟩ rfl rfl rfl rfl [22, 23, 24, 25, 26, 27, 28, 29, 30, 31, 32, 33, 34, 35, 36, 37, 38, 39, 40, 41, 42, 43, 44, 45, 46, 47, 48, 49, 50, 51, 52, 53, 54, 55, 56, 57, 58, 59, 60, 61, 62, 63, 64, 65, 66, 67, 68, 69, 70, 71, 72, 73, 74, 75, 76, 77, 78, 79, 13, 14, 15, 16] (by decide) in_63 se_63 (adrFW.trans adrFW.symm) rfl (Nat.le_of_ble_eq_true rfl) dX9_undo_8 ⟨Nat.zero_le _, Nat.zero_le _⟩ ?_
  refine r_ifb_eq (tgt := 24) C dX9_undo_11 (by decide) (fun c2 => ?_) (fun c2 => ?_)
  · replace h := ob_bf h c2
    refine r_bipush (v := -3) C dX9_undo_24 bp_m3 ?_
    have h9 := Option.some.inj h
    subst h9
    exact r_iret C rfl dX9_undo_26
  · replace h := ob_t h c2
    refine r_aload_n C dX9_undo_14 0 rfl rfl ?_
    refine r_get (ci := 6) (CC := RX9) (T := TX9) (N := 12) (v := .ref (ad 22)) C hinX9_undo_X9 0 rfl rfl 7 (by decide) mX9_undo_1 rfl rfl dX9_undo_15 ?_
    refine r_get (ci := 0) (CC := RX0) (T := TX0) (N := 3) (v := .int u1.2.1) C hinX9_undo_X0 22 rfl rfl 2 (by decide) mX9_undo_3 rfl rfl dX9_undo_18 ?_
    refine r_goto (tgt := 26) C dX9_undo_21 (by decide) ?_
    have h9 := Option.some.inj h
    subst h9
    exact r_iret C rfl dX9_undo_26

/-! ===== FlagWash.peace ===== -/
def fX9_peace  (x1 : Int32) (x2 : Int32) (pegs : Int32) (flags : Int32) (pcl : (Nat → Int32)) (phr : (Nat → Int32)) (pho : (Nat → Int32)) (wh : (Nat → Int32)) (lf : (Nat → Int32)) (co : (Nat → Int32)) (wi : Int32) (ho : Int32) (twh : (Nat → Int32)) (tlf : (Nat → Int32)) (tco : (Nat → Int32)) (twi : Int32) (tho : Int32) : Option (Int32 × (Nat → Int32) × (Nat → Int32) × (Nat → Int32) × Int32 × Int32) :=
 ((fX4_has x1 flags).bind fun u1 => (if u1 = true then ((fX4_has x2 flags).bind fun u3 => (if u3 = true then (if x1 = x2 then (some ((-2 : Int32), twh, tlf, tco, twi, tho))
 else ((fX2_hoursToFight (0 : Int32) (((1 : Int32) <<< (x1 &&& 31)) ||| ((1 : Int32) <<< (x2 &&& 31))) twh tlf tco twi tho wh lf co wi ho pegs flags pcl phr pho).bind fun u6 => (some (u6.1, u6.2.1, u6.2.2.1, u6.2.2.2.1, u6.2.2.2.2.1, u6.2.2.2.2.2))))
 else (some ((-1 : Int32), twh, tlf, tco, twi, tho))))
 else (some ((-1 : Int32), twh, tlf, tco, twi, tho))))
theorem hinX9_peace_X9 : ∀ w ∈ u_ws RX9 TX9 12, w ∈ wsX9_peace := fun w h => List.mem_cons_of_mem _ (List.mem_append_left _ (List.mem_append_left _ (List.mem_append_left _ (List.mem_append_right _ h))))
theorem mX9_peace_1 : Cond.fieldLink RX9 27 "FlagWash" "plan" "LFlagWash$Plan;" ∈ wsX9_peace := List.mem_of_getElem? (i := 1) rfl
theorem mX9_peace_2 : Cond.fieldLink RX9 48 "FlagWash" "forecast" "LFlagWash$Forecast;" ∈ wsX9_peace := List.mem_of_getElem? (i := 2) rfl
theorem mX9_peace_3 : Cond.fieldLink RX9 36 "FlagWash" "now" "LFlagWash$Wash;" ∈ wsX9_peace := List.mem_of_getElem? (i := 3) rfl
theorem hd_X9_peace : yX9_peace.cls ≠ "java/lang/invoke/MethodHandle" ∧ yX9_peace.cls ≠ "java/lang/invoke/VarHandle" ∧ (parseMethodDescriptor yX9_peace.desc).map (fun d => d.parameters.length) = some 2 := by decide +kernel
set_option maxHeartbeats 4000000 in
set_option maxRecDepth 100000 in
theorem kX9_peace {l : Launch} {D : va_G} {cyI cyZ cyW : ClassId} {zW zO : Nat} {ad : Nat → Nat} {letters : (Nat → Int32)} {length : Int32} {stage : Int32} {rco : Int32} {rcl : Int32} {ron : Int32} {rtubs : Int32} {rpegs : Int32} {rpwi : Int32} {rflags : Int32} {rpco : (Nat → Int32)} {rpcl : (Nat → Int32)} {rphr : (Nat → Int32)} {rpho : (Nat → Int32)} {tubs : Int32} {pegs : Int32} {pwi : Int32} {flags : Int32} {pco : (Nat → Int32)} {pcl : (Nat → Int32)} {phr : (Nat → Int32)} {pho : (Nat → Int32)} {wh : (Nat → Int32)} {lf : (Nat → Int32)} {co : (Nat → Int32)} {wi : Int32} {ho : Int32} {twh : (Nat → Int32)} {tlf : (Nat → Int32)} {tco : (Nat → Int32)} {twi : Int32} {tho : Int32} {first : Int32} {size : Int32} {awh : (Nat → Nat → Int32)} {alf : (Nat → Nat → Int32)} {aco : (Nat → Nat → Int32)} {awi : (Nat → Int32)} {aho : (Nat → Int32)} {sfl : (Nat → Int32)} {sco : (Nat → Int32)} {swt : (Nat → Int32)} {ssz : Int32} {kwh : (Nat → Nat → Int32)} {klf : (Nat → Nat → Int32)} {kco : (Nat → Nat → Int32)} {kwi : (Nat → Int32)} {kho : (Nat → Int32)} {kept : (Nat → Int32)} {seed : Int64} {x1 : Int32} {x2 : Int32} {res : Int32 × (Nat → Int32) × (Nat → Int32) × (Nat → Int32) × Int32 × Int32} (h : fX9_peace x1 x2 pegs flags pcl phr pho wh lf co wi ho twh tlf tco twi tho = some res) : KI l yX9_peace wsX9_peace ({ frames := 5, cells := 0, slots := 0, locals := 109 } : Room) D (tyA cyI cyZ cyW) zW zO [.ref (ad 0), .int x1, .int x2] (wFW cyI cyZ cyW ad letters length stage rco rcl ron rtubs rpegs rpwi rflags rpco rpcl rphr rpho tubs pegs pwi flags pco pcl phr pho wh lf co wi ho twh tlf tco twi tho first size awh alf aco awi aho sfl sco swt ssz kwh klf kco kwi kho kept seed) (wFW cyI cyZ cyW ad letters length stage rco rcl ron rtubs rpegs rpwi rflags rpco rpcl rphr rpho tubs pegs pwi flags pco pcl phr pho wh lf co wi ho res.2.1 res.2.2.1 res.2.2.2.1 res.2.2.2.2.1 res.2.2.2.2.2 first size awh alf aco awi aho sfl sco swt ssz kwh klf kco kwi kho kept seed) res.1 := by
  refine enterI (cc := cX9_peace) (nL := 3) (ret := (some .int)) (by decide) rfl (Nat.le_of_ble_eq_true rfl) (fun p e s m below meth c A C => ?_)
  refine r_lv (lv' := [(0, .ref (ad 0)), (1, .int x1), (2, .int x2)]) [0, 1, 2] rfl ?_
  unfold fX9_peace at h
  refine r_aload_n C dX9_peace_0 0 rfl rfl ?_
  refine r_get (ci := 6) (CC := RX9) (T := TX9) (N := 12) (v := .ref (ad 8)) C hinX9_peace_X9 0 rfl rfl 3 (by decide) mX9_peace_1 rfl rfl dX9_peace_1 ?_
  refine r_iload_n C dX9_peace_4 1 rfl rfl ?_
  obtain ⟨u1, hu1, h⟩ := ob_bind h
  refine r_readVI (q0 := 0) (As := [.int x1]) (rest := []) C (kX4_has (p0 := (ad 8)) (p1 := (ad 9)) (p2 := (ad 10)) (p3 := (ad 11)) (p4 := (ad 12)) (tubs := tubs) (pegs := pegs) (pwi := pwi) (flags := flags) (pco := pco) (pcl := pcl) (phr := phr) (pho := pho) (x1 := x1) hu1) gX9_peace_X4_has rfl rfl rfl ⟨rfl, hd_X4_has⟩ ⟨by decide, by decide⟩ rfl rfl rfl rfl [8, 9, 10, 11, 12] (by decide) in_58 rfl (Nat.le_of_ble_eq_true rfl) dX9_peace_5 ⟨Nat.zero_le _, Nat.zero_le _⟩ ?_
  refine r_ifb_eq (tgt := 22) C dX9_peace_8 (by decide) (fun c2 => ?_) (fun c2 => ?_)
  · replace h := ob_bf h c2
    refine r_iconst (v := -1) C dX9_peace_22 ic_m1 ?_
    have h9 := Option.some.inj h
    subst h9
    exact r_iret C rfl dX9_peace_23
  · replace h := ob_t h c2
    refine r_aload_n C dX9_peace_11 0 rfl rfl ?_
    refine r_get (ci := 6) (CC := RX9) (T := TX9) (N := 12) (v := .ref (ad 8)) C hinX9_peace_X9 0 rfl rfl 3 (by decide) mX9_peace_1 rfl rfl dX9_peace_12 ?_
    refine r_iload_n C dX9_peace_15 2 rfl rfl ?_
    obtain ⟨u3, hu3, h⟩ := ob_bind h
    refine r_readVI (q0 := 0) (As := [.int x2]) (rest := []) C (kX4_has (p0 := (ad 8)) (p1 := (ad 9)) (p2 := (ad 10)) (p3 := (ad 11)) (p4 := (ad 12)) (tubs := tubs) (pegs := pegs) (pwi := pwi) (flags := flags) (pco := pco) (pcl := pcl) (phr := phr) (pho := pho) (x1 := x2) hu3) gX9_peace_X4_has rfl rfl rfl ⟨rfl, hd_X4_has⟩ ⟨by decide, by decide⟩ rfl rfl rfl rfl [8, 9, 10, 11, 12] (by decide) in_58 rfl (Nat.le_of_ble_eq_true rfl) dX9_peace_16 ⟨Nat.zero_le _, Nat.zero_le _⟩ ?_
    refine r_ifb_ne (tgt := 24) C dX9_peace_19 (by decide) (fun c4 => ?_) (fun c4 => ?_)
    · replace h := ob_t h c4
      refine r_iload_n C dX9_peace_24 1 rfl rfl ?_
      refine r_iload_n C dX9_peace_25 2 rfl rfl ?_
      refine r_icmp_ne (tgt := 32) C dX9_peace_26 (by decide) (fun c5 => ?_) (fun c5 => ?_)
      · replace h := ob_f h c5
        refine r_aload_n C dX9_peace_32 0 rfl rfl ?_
        refine r_get (ci := 6) (CC := RX9) (T := TX9) (N := 12) (v := .ref (ad 21)) C hinX9_peace_X9 0 rfl rfl 6 (by decide) mX9_peace_2 rfl rfl dX9_peace_33 ?_
        refine r_aload_n C dX9_peace_36 0 rfl rfl ?_
        refine r_get (ci := 6) (CC := RX9) (T := TX9) (N := 12) (v := .ref (ad 13)) C hinX9_peace_X9 0 rfl rfl 4 (by decide) mX9_peace_3 rfl rfl dX9_peace_37 ?_
        refine r_iconst (v := 0) C dX9_peace_40 ic_0 ?_
        refine r_iconst (v := 1) C dX9_peace_41 ic_1 ?_
        refine r_iload_n C dX9_peace_42 1 rfl rfl ?_
        refine r_ishl C dX9_peace_43 ?_
        refine r_iconst (v := 1) C dX9_peace_44 ic_1 ?_
        refine r_iload_n C dX9_peace_45 2 rfl rfl ?_
        refine r_ishl C dX9_peace_46 ?_
        refine r_ior C dX9_peace_47 ?_
        obtain ⟨u6, hu6, h⟩ := ob_bind h
        refine r_callVI (q0 := 0) (As := [.ref (ad 13), .int (0 : Int32), .int (((1 : Int32) <<< (x1 &&& 31)) ||| ((1 : Int32) <<< (x2 &&& 31)))]) (rest := []) (ws1 := (wFW cyI cyZ cyW ad letters length stage rco rcl ron rtubs rpegs rpwi rflags rpco rpcl rphr rpho tubs pegs pwi flags pco pcl phr pho wh lf co wi ho u6.2.1 u6.2.2.1 u6.2.2.2.1 u6.2.2.2.2.1 u6.2.2.2.2.2 first size awh alf aco awi aho sfl sco swt ssz kwh klf kco kwi kho kept seed)) C (kX2_hoursToFight (f0 := (ad 21)) (w0 := (ad 17)) (w1 := (ad 18)) (w2 := (ad 19)) (w3 := (ad 20)) (v0 := (ad 13)) (v1 := (ad 14)) (v2 := (ad 15)) (v3 := (ad 16)) (p0 := (ad 8)) (p1 := (ad 9)) (p2 := (ad 10)) (p3 := (ad 11)) (p4 := (ad 12)) (wh := twh) (lf := tlf) (co := tco) (wi := twi) (ho := tho) (owh := wh) (olf := lf) (oco := co) (owi := wi) (oho := ho) (tubs := tubs) (pegs := pegs) (pwi := pwi) (flags := flags) (pco := pco) (pcl := pcl) (phr := phr) (pho := pho) (x2 := (0 : Int32)) (x3 := (((1 : Int32) <<< (x1 &&& 31)) ||| ((1 : Int32) <<< (x2 &&& 31)))) hu6) gX9_peace_X2_hoursToFight rfl rfl rfl ⟨rfl, hd_X2_hoursToFight⟩ ⟨by decide, by decide⟩ rfl rfl rfl rfl [21, 17, 18, 19, 20, 13, 14, 15, 16, 8, 9, 10, 11, 12] (by decide) in_64 se_64 (adrFW.trans adrFW.symm) rfl (Nat.le_of_ble_eq_true rfl) dX9_peace_48 ⟨Nat.zero_le _, Nat.zero_le _⟩ ?_
        have h9 := Option.some.inj h
        subst h9
        exact r_iret C rfl dX9_peace_51
      · replace h := ob_t h c5
        refine r_bipush (v := -2) C dX9_peace_29 bp_m2 ?_
        have h9 := Option.some.inj h
        subst h9
        exact r_iret C rfl dX9_peace_31
    · replace h := ob_bf h c4
      refine r_iconst (v := -1) C dX9_peace_22 ic_m1 ?_
      have h9 := Option.some.inj h
      subst h9
      exact r_iret C rfl dX9_peace_23

/-! ===== FlagWash.quiet ===== -/
def fX9_quiet  (pegs : Int32) (flags : Int32) (pcl : (Nat → Int32)) (phr : (Nat → Int32)) (pho : (Nat → Int32)) (wh : (Nat → Int32)) (lf : (Nat → Int32)) (co : (Nat → Int32)) (wi : Int32) (ho : Int32) (twh : (Nat → Int32)) (tlf : (Nat → Int32)) (tco : (Nat → Int32)) (twi : Int32) (tho : Int32) : Option (Int32 × (Nat → Int32) × (Nat → Int32) × (Nat → Int32) × Int32 × Int32) :=
 ((fX2_hoursToFight (0 : Int32) (31 : Int32) twh tlf tco twi tho wh lf co wi ho pegs flags pcl phr pho).bind fun u1 => (some (u1.1, u1.2.1, u1.2.2.1, u1.2.2.2.1, u1.2.2.2.2.1, u1.2.2.2.2.2)))
theorem hinX9_quiet_X9 : ∀ w ∈ u_ws RX9 TX9 12, w ∈ wsX9_quiet := fun w h => List.mem_cons_of_mem _ (List.mem_append_left _ (List.mem_append_left _ (List.mem_append_left _ (List.mem_append_right _ h))))
theorem mX9_quiet_1 : Cond.fieldLink RX9 48 "FlagWash" "forecast" "LFlagWash$Forecast;" ∈ wsX9_quiet := List.mem_of_getElem? (i := 1) rfl
theorem mX9_quiet_2 : Cond.fieldLink RX9 36 "FlagWash" "now" "LFlagWash$Wash;" ∈ wsX9_quiet := List.mem_of_getElem? (i := 2) rfl
theorem hd_X9_quiet : yX9_quiet.cls ≠ "java/lang/invoke/MethodHandle" ∧ yX9_quiet.cls ≠ "java/lang/invoke/VarHandle" ∧ (parseMethodDescriptor yX9_quiet.desc).map (fun d => d.parameters.length) = some 0 := by decide +kernel
set_option maxHeartbeats 4000000 in
set_option maxRecDepth 100000 in
theorem kX9_quiet {l : Launch} {D : va_G} {cyI cyZ cyW : ClassId} {zW zO : Nat} {ad : Nat → Nat} {letters : (Nat → Int32)} {length : Int32} {stage : Int32} {rco : Int32} {rcl : Int32} {ron : Int32} {rtubs : Int32} {rpegs : Int32} {rpwi : Int32} {rflags : Int32} {rpco : (Nat → Int32)} {rpcl : (Nat → Int32)} {rphr : (Nat → Int32)} {rpho : (Nat → Int32)} {tubs : Int32} {pegs : Int32} {pwi : Int32} {flags : Int32} {pco : (Nat → Int32)} {pcl : (Nat → Int32)} {phr : (Nat → Int32)} {pho : (Nat → Int32)} {wh : (Nat → Int32)} {lf : (Nat → Int32)} {co : (Nat → Int32)} {wi : Int32} {ho : Int32} {twh : (Nat → Int32)} {tlf : (Nat → Int32)} {tco : (Nat → Int32)} {twi : Int32} {tho : Int32} {first : Int32} {size : Int32} {awh : (Nat → Nat → Int32)} {alf : (Nat → Nat → Int32)} {aco : (Nat → Nat → Int32)} {awi : (Nat → Int32)} {aho : (Nat → Int32)} {sfl : (Nat → Int32)} {sco : (Nat → Int32)} {swt : (Nat → Int32)} {ssz : Int32} {kwh : (Nat → Nat → Int32)} {klf : (Nat → Nat → Int32)} {kco : (Nat → Nat → Int32)} {kwi : (Nat → Int32)} {kho : (Nat → Int32)} {kept : (Nat → Int32)} {seed : Int64}  {res : Int32 × (Nat → Int32) × (Nat → Int32) × (Nat → Int32) × Int32 × Int32} (h : fX9_quiet pegs flags pcl phr pho wh lf co wi ho twh tlf tco twi tho = some res) : KI l yX9_quiet wsX9_quiet ({ frames := 5, cells := 0, slots := 0, locals := 109 } : Room) D (tyA cyI cyZ cyW) zW zO [.ref (ad 0)] (wFW cyI cyZ cyW ad letters length stage rco rcl ron rtubs rpegs rpwi rflags rpco rpcl rphr rpho tubs pegs pwi flags pco pcl phr pho wh lf co wi ho twh tlf tco twi tho first size awh alf aco awi aho sfl sco swt ssz kwh klf kco kwi kho kept seed) (wFW cyI cyZ cyW ad letters length stage rco rcl ron rtubs rpegs rpwi rflags rpco rpcl rphr rpho tubs pegs pwi flags pco pcl phr pho wh lf co wi ho res.2.1 res.2.2.1 res.2.2.2.1 res.2.2.2.2.1 res.2.2.2.2.2 first size awh alf aco awi aho sfl sco swt ssz kwh klf kco kwi kho kept seed) res.1 := by
  refine enterI (cc := cX9_quiet) (nL := 1) (ret := (some .int)) (by decide) rfl (Nat.le_of_ble_eq_true rfl) (fun p e s m below meth c A C => ?_)
  refine r_lv (lv' := [(0, .ref (ad 0))]) [0] rfl ?_
  unfold fX9_quiet at h
  refine r_aload_n C dX9_quiet_0 0 rfl rfl ?_
  refine r_get (ci := 6) (CC := RX9) (T := TX9) (N := 12) (v := .ref (ad 21)) C hinX9_quiet_X9 0 rfl rfl 6 (by decide) mX9_quiet_1 rfl rfl dX9_quiet_1 ?_
  refine r_aload_n C dX9_quiet_4 0 rfl rfl ?_
  refine r_get (ci := 6) (CC := RX9) (T := TX9) (N := 12) (v := .ref (ad 13)) C hinX9_quiet_X9 0 rfl rfl 4 (by decide) mX9_quiet_2 rfl rfl dX9_quiet_5 ?_
  refine r_iconst (v := 0) C dX9_quiet_8 ic_0 ?_
  refine r_bipush (v := 31) C dX9_quiet_9 bp_31 ?_
  obtain ⟨u1, hu1, h⟩ := ob_bind h
  refine r_callVI (q0 := 0) (As := [.ref (ad 13), .int (0 : Int32), .int (31 : Int32)]) (rest := []) (ws1 := (wFW cyI cyZ cyW ad letters length stage rco rcl ron rtubs rpegs rpwi rflags rpco rpcl rphr rpho tubs pegs pwi flags pco pcl phr pho wh lf co wi ho u1.2.1 u1.2.2.1 u1.2.2.2.1 u1.2.2.2.2.1 u1.2.2.2.2.2 first size awh alf aco awi aho sfl sco swt ssz kwh klf kco kwi kho kept seed)) C (kX2_hoursToFight (f0 := (ad 21)) (w0 := (ad 17)) (w1 := (ad 18)) (w2 := (ad 19)) (w3 := (ad 20)) (v0 := (ad 13)) (v1 := (ad 14)) (v2 := (ad 15)) (v3 := (ad 16)) (p0 := (ad 8)) (p1 := (ad 9)) (p2 := (ad 10)) (p3 := (ad 11)) (p4 := (ad 12)) (wh := twh) (lf := tlf) (co := tco) (wi := twi) (ho := tho) (owh := wh) (olf := lf) (oco := co) (owi := wi) (oho := ho) (tubs := tubs) (pegs := pegs) (pwi := pwi) (flags := flags) (pco := pco) (pcl := pcl) (phr := phr) (pho := pho) (x2 := (0 : Int32)) (x3 := (31 : Int32)) hu1) gX9_quiet_X2_hoursToFight rfl rfl rfl ⟨rfl, hd_X2_hoursToFight⟩ ⟨by decide, by decide⟩ rfl rfl rfl rfl [21, 17, 18, 19, 20, 13, 14, 15, 16, 8, 9, 10, 11, 12] (by decide) in_64 se_64 (adrFW.trans adrFW.symm) rfl (Nat.le_of_ble_eq_true rfl) dX9_quiet_11 ⟨Nat.zero_le _, Nat.zero_le _⟩ ?_
  have h9 := Option.some.inj h
  subst h9
  exact r_iret C rfl dX9_quiet_14
