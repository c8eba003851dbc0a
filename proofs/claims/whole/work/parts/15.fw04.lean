/-! ===== FlagWash.see ===== -/
def fX9_see  (x1 : Int32) (x2 : Int32) (x3 : Int32) (flags : Int32) (sfl : (Nat → Int32)) (sco : (Nat → Int32)) (swt : (Nat → Int32)) (ssz : Int32) : Option (Int32 × (Nat → Int32) × (Nat → Int32) × (Nat → Int32) × Int32) :=
 ((fX4_has x1 flags).bind fun u1 => (if u1 = true then ((fX9_areColours x2).bind fun u3 => (if u3 = true then ((fX9_isWithin x3 ((31 : Int32) &&& (((1 : Int32) <<< (x1 &&& 31)) ^^^ (-1 : Int32)))).bind fun u5 => (if u5 = true then ((fX7_add x1 x2 x3 sfl sco swt ssz).bind fun u7 => (if u7.1 = true then (some (u7.2.2.2.2, u7.2.1, u7.2.2.1, u7.2.2.2.1, u7.2.2.2.2))
 else (some ((-4 : Int32), u7.2.1, u7.2.2.1, u7.2.2.2.1, u7.2.2.2.2))))
 else (some ((-2 : Int32), sfl, sco, swt, ssz))))
 else (some ((-2 : Int32), sfl, sco, swt, ssz))))
 else (some ((-1 : Int32), sfl, sco, swt, ssz))))
theorem hinX9_see_X9 : ∀ w ∈ u_ws RX9 TX9 12, w ∈ wsX9_see := fun w h => List.mem_cons_of_mem _ (List.mem_append_left _ (List.mem_append_left _ (List.mem_append_right _ h)))
theorem mX9_see_1 : Cond.fieldLink RX9 27 "FlagWash" "plan" "LFlagWash$Plan;" ∈ wsX9_see := List.mem_of_getElem? (i := 1) rfl
theorem mX9_see_2 : Cond.fieldLink RX9 62 "FlagWash" "sightings" "LFlagWash$Sightings;" ∈ wsX9_see := List.mem_of_getElem? (i := 2) rfl
theorem hinX9_see_X7 : ∀ w ∈ u_ws RX7 TX7 4, w ∈ wsX9_see := fun w h => List.mem_cons_of_mem _ (List.mem_append_left _ (List.mem_append_right _ h))
theorem mX9_see_3 : Cond.fieldLink RX9 194 "FlagWash$Sightings" "size" "I" ∈ wsX9_see := List.mem_of_getElem? (i := 3) rfl
theorem hd_X9_see : yX9_see.cls ≠ "java/lang/invoke/MethodHandle" ∧ yX9_see.cls ≠ "java/lang/invoke/VarHandle" ∧ (parseMethodDescriptor yX9_see.desc).map (fun d => d.parameters.length) = some 3 := by decide +kernel
set_option maxHeartbeats 4000000 in
set_option maxRecDepth 100000 in
theorem kX9_see {l : Launch} {D : va_G} {cyI cyZ cyW : ClassId} {zW zO : Nat} {ad : Nat → Nat} {letters : (Nat → Int32)} {length : Int32} {stage : Int32} {rco : Int32} {rcl : Int32} {ron : Int32} {rtubs : Int32} {rpegs : Int32} {rpwi : Int32} {rflags : Int32} {rpco : (Nat → Int32)} {rpcl : (Nat → Int32)} {rphr : (Nat → Int32)} {rpho : (Nat → Int32)} {tubs : Int32} {pegs : Int32} {pwi : Int32} {flags : Int32} {pco : (Nat → Int32)} {pcl : (Nat → Int32)} {phr : (Nat → Int32)} {pho : (Nat → Int32)} {wh : (Nat → Int32)} {lf : (Nat → Int32)} {co : (Nat → Int32)} {wi : Int32} {ho : Int32} {twh : (Nat → Int32)} {tlf : (Nat → Int32)} {tco : (Nat → Int32)} {twi : Int32} {tho : Int32} {first : Int32} {size : Int32} {awh : (Nat → Nat → Int32)} {alf : (Nat → Nat → Int32)} {aco : (Nat → Nat → Int32)} {awi : (Nat → Int32)} {aho : (Nat → Int32)} {sfl : (Nat → Int32)} {sco : (Nat → Int32)} {swt : (Nat → Int32)} {ssz : Int32} {kwh : (Nat → Nat → Int32)} {klf : (Nat → Nat → Int32)} {kco : (Nat → Nat → Int32)} {kwi : (Nat → Int32)} {kho : (Nat → Int32)} {kept : (Nat → Int32)} {seed : Int64} {x1 : Int32} {x2 : Int32} {x3 : Int32} {res : Int32 × (Nat → Int32) × (Nat → Int32) × (Nat → Int32) × Int32} (h : fX9_see x1 x2 x3 flags sfl sco swt ssz = some res) : KI l yX9_see wsX9_see ({ frames := 1, cells := 0, slots := 0, locals := 23 } : Room) D (tyA cyI cyZ cyW) zW zO [.ref (ad 0), .int x1, .int x2, .int x3] (wFW cyI cyZ cyW ad letters length stage rco rcl ron rtubs rpegs rpwi rflags rpco rpcl rphr rpho tubs pegs pwi flags pco pcl phr pho wh lf co wi ho twh tlf tco twi tho first size awh alf aco awi aho sfl sco swt ssz kwh klf kco kwi kho kept seed) (wFW cyI cyZ cyW ad letters length stage rco rcl ron rtubs rpegs rpwi rflags rpco rpcl rphr rpho tubs pegs pwi flags pco pcl phr pho wh lf co wi ho twh tlf tco twi tho first size awh alf aco awi aho res.2.1 res.2.2.1 res.2.2.2.1 res.2.2.2.2 kwh klf kco kwi kho kept seed) res.1 := by
  refine enterI (cc := cX9_see) (nL := 4) (ret := (some .int)) (by decide) rfl (Nat.le_of_ble_eq_true rfl) (fun p e s m below meth c A C => ?_)
  refine r_lv (lv' := [(0, .ref (ad 0)), (1, .int x1), (2, .int x2), (3, .int x3)]) [0, 1, 2, 3] rfl ?_
  unfold fX9_see at h
  refine r_aload_n C dX9_see_0 0 rfl rfl ?_
  refine r_get (ci := 6) (CC := RX9) (T := TX9) (N := 12) (v := .ref (ad 8)) C hinX9_see_X9 0 rfl rfl 3 (by decide) mX9_see_1 rfl rfl dX9_see_1 ?_
  refine r_iload_n C dX9_see_4 1 rfl rfl ?_
  obtain ⟨u1, hu1, h⟩ := ob_bind h
  refine r_readVI (q0 := 0) (As := [.int x1]) (rest := []) C (kX4_has (p0 := (ad 8)) (p1 := (ad 9)) (p2 := (ad 10)) (p3 := (ad 11)) (p4 := (ad 12)) (tubs := tubs) (pegs := pegs) (pwi := pwi) (flags := flags) (pco := pco) (pcl := pcl) (phr := phr) (pho := pho) (x1 := x1) hu1) gX9_see_X4_has rfl rfl rfl ⟨rfl, hd_X4_has⟩ ⟨by decide, by decide⟩ rfl rfl rfl rfl [8, 9, 10, 11, 12] (by decide) in_58 rfl (Nat.le_of_ble_eq_true rfl) dX9_see_5 ⟨Nat.zero_le _, Nat.zero_le _⟩ ?_
  refine r_ifb_ne (tgt := 13) C dX9_see_8 (by decide) (fun c2 => ?_) (fun c2 => ?_)
  · replace h := ob_t h c2
    refine r_iload_n C dX9_see_13 2 rfl rfl ?_
    obtain ⟨u3, hu3, h⟩ := ob_bind h
    refine r_readSI (As := [.int x2]) (rest := []) C (kX9_areColours   (x0 := x2) hu3) gX9_see_X9_areColours rfl rfl rfl hd_X9_areColours ⟨by decide, by decide⟩ rfl [] (by decide) rfl rfl (Nat.le_of_ble_eq_true rfl) dX9_see_14 ⟨Nat.zero_le _, Nat.zero_le _⟩ ?_
    refine r_ifb_eq (tgt := 35) C dX9_see_17 (by decide) (fun c4 => ?_) (fun c4 => ?_)
    · replace h := ob_bf h c4
      refine r_bipush (v := -2) C dX9_see_35 bp_m2 ?_
      have h9 := Option.some.inj h
      subst h9
      exact r_iret C rfl dX9_see_37
    · replace h := ob_t h c4
      refine r_iload_n C dX9_see_20 3 rfl rfl ?_
      refine r_bipush (v := 31) C dX9_see_21 bp_31 ?_
      refine r_iconst (v := 1) C dX9_see_23 ic_1 ?_
      refine r_iload_n C dX9_see_24 1 rfl rfl ?_
      refine r_ishl C dX9_see_25 ?_
      refine r_iconst (v := -1) C dX9_see_26 ic_m1 ?_
      refine r_ixor C dX9_see_27 ?_
      refine r_iand C dX9_see_28 ?_
      obtain ⟨u5, hu5, h⟩ := ob_bind h
      refine r_readSI (As := [.int x3, .int ((31 : Int32) &&& (((1 : Int32) <<< (x1 &&& 31)) ^^^ (-1 : Int32)))]) (rest := []) C (kX9_isWithin   (x0 := x3) (x1 := ((31 : Int32) &&& (((1 : Int32) <<< (x1 &&& 31)) ^^^ (-1 : Int32)))) hu5) gX9_see_X9_isWithin rfl rfl rfl hd_X9_isWithin ⟨by decide, by decide⟩ rfl [] (by decide) rfl rfl (Nat.le_of_ble_eq_true rfl) dX9_see_29 ⟨Nat.zero_le _, Nat.zero_le _⟩ ?_
      refine r_ifb_ne (tgt := 38) C dX9_see_32 (by decide) (fun c6 => ?_) (fun c6 => ?_)
      · replace h := ob_t h c6
        refine r_aload_n C dX9_see_38 0 rfl rfl ?_
        refine r_get (ci := 6) (CC := RX9) (T := TX9) (N := 12) (v := .ref (ad 80)) C hinX9_see_X9 0 rfl rfl 8 (by decide) mX9_see_2 rfl rfl dX9_see_39 ?_
        refine r_iload_n C dX9_see_42 1 rfl rfl ?_
        refine r_iload_n C dX9_see_43 2 rfl rfl ?_
        refine r_iload_n C dX9_see_44 3 rfl rfl ?_
        obtain ⟨u7, hu7, h⟩ := ob_bind h
        refine r_callVI (q0 := 0) (As := [.int x1, .int x2, .int x3]) (rest := []) (ws1 := (wFW cyI cyZ cyW ad letters length stage rco rcl ron rtubs rpegs rpwi rflags rpco rpcl rphr rpho tubs pegs pwi flags pco pcl phr pho wh lf co wi ho twh tlf tco twi tho first size awh alf aco awi aho u7.2.1 u7.2.2.1 u7.2.2.2.1 u7.2.2.2.2 kwh klf kco kwi kho kept seed)) C (kX7_add (s0 := (ad 80)) (s1 := (ad 81)) (s2 := (ad 82)) (s3 := (ad 83)) (sfl := sfl) (sco := sco) (swt := swt) (ssz := ssz) (x1 := x1) (x2 := x2) (x3 := x3) hu7) gX9_see_X7_add rfl rfl rfl ⟨rfl, hd_X7_add⟩ ⟨by decide, by decide⟩ rfl rfl rfl rfl [80, 81, 82, 83] (by decide) in_67 se_67 (adrFW.trans adrFW.symm) rfl (Nat.le_of_ble_eq_true rfl) dX9_see_45 ⟨Nat.zero_le _, Nat.zero_le _⟩ ?_
        refine r_ifb_eq (tgt := 61) C dX9_see_48 (by decide) (fun c8 => ?_) (fun c8 => ?_)
        · replace h := ob_bf h c8
          refine r_bipush (v := -4) C dX9_see_61 bp_m4 ?_
          have h9 := Option.some.inj h
          subst h9
          exact r_iret C rfl dX9_see_63
        · replace h := ob_t h c8
          refine r_aload_n C dX9_see_51 0 rfl rfl ?_
          refine r_get (ci := 6) (CC := RX9) (T := TX9) (N := 12) (v := .ref (ad 80)) C hinX9_see_X9 0 rfl rfl 8 (by decide) mX9_see_2 rfl rfl dX9_see_52 ?_
          refine r_get (ci := 4) (CC := RX7) (T := TX7) (N := 4) (v := .int u7.2.2.2.2) C hinX9_see_X7 80 rfl rfl 3 (by decide) mX9_see_3 rfl rfl dX9_see_55 ?_
          refine r_goto (tgt := 63) C dX9_see_58 (by decide) ?_
          have h9 := Option.some.inj h
          subst h9
          exact r_iret C rfl dX9_see_63
      · replace h := ob_bf h c6
        refine r_bipush (v := -2) C dX9_see_35 bp_m2 ?_
        have h9 := Option.some.inj h
        subst h9
        exact r_iret C rfl dX9_see_37
  · replace h := ob_bf h c2
    refine r_iconst (v := -1) C dX9_see_11 ic_m1 ?_
    have h9 := Option.some.inj h
    subst h9
    exact r_iret C rfl dX9_see_12

/-! ===== FlagWash.unsee ===== -/
def fX9_unsee  (ssz : Int32) : Option (Int32 × Int32) :=
 ((fX7_forgetAll ).bind fun u1 => (some (ssz, u1)))
theorem hinX9_unsee_X9 : ∀ w ∈ u_ws RX9 TX9 12, w ∈ wsX9_unsee := fun w h => List.mem_cons_of_mem _ (List.mem_append_left _ (List.mem_append_right _ h))
theorem mX9_unsee_1 : Cond.fieldLink RX9 62 "FlagWash" "sightings" "LFlagWash$Sightings;" ∈ wsX9_unsee := List.mem_of_getElem? (i := 1) rfl
theorem hinX9_unsee_X7 : ∀ w ∈ u_ws RX7 TX7 4, w ∈ wsX9_unsee := fun w h => List.mem_cons_of_mem _ (List.mem_append_right _ h)
theorem mX9_unsee_2 : Cond.fieldLink RX9 194 "FlagWash$Sightings" "size" "I" ∈ wsX9_unsee := List.mem_of_getElem? (i := 2) rfl
theorem hd_X9_unsee : yX9_unsee.cls ≠ "java/lang/invoke/MethodHandle" ∧ yX9_unsee.cls ≠ "java/lang/invoke/VarHandle" ∧ (parseMethodDescriptor yX9_unsee.desc).map (fun d => d.parameters.length) = some 0 := by decide +kernel
set_option maxHeartbeats 4000000 in
set_option maxRecDepth 100000 in
theorem kX9_unsee {l : Launch} {D : va_G} {cyI cyZ cyW : ClassId} {zW zO : Nat} {ad : Nat → Nat} {letters : (Nat → Int32)} {length : Int32} {stage : Int32} {rco : Int32} {rcl : Int32} {ron : Int32} {rtubs : Int32} {rpegs : Int32} {rpwi : Int32} {rflags : Int32} {rpco : (Nat → Int32)} {rpcl : (Nat → Int32)} {rphr : (Nat → Int32)} {rpho : (Nat → Int32)} {tubs : Int32} {pegs : Int32} {pwi : Int32} {flags : Int32} {pco : (Nat → Int32)} {pcl : (Nat → Int32)} {phr : (Nat → Int32)} {pho : (Nat → Int32)} {wh : (Nat → Int32)} {lf : (Nat → Int32)} {co : (Nat → Int32)} {wi : Int32} {ho : Int32} {twh : (Nat → Int32)} {tlf : (Nat → Int32)} {tco : (Nat → Int32)} {twi : Int32} {tho : Int32} {first : Int32} {size : Int32} {awh : (Nat → Nat → Int32)} {alf : (Nat → Nat → Int32)} {aco : (Nat → Nat → Int32)} {awi : (Nat → Int32)} {aho : (Nat → Int32)} {sfl : (Nat → Int32)} {sco : (Nat → Int32)} {swt : (Nat → Int32)} {ssz : Int32} {kwh : (Nat → Nat → Int32)} {klf : (Nat → Nat → Int32)} {kco : (Nat → Nat → Int32)} {kwi : (Nat → Int32)} {kho : (Nat → Int32)} {kept : (Nat → Int32)} {seed : Int64}  {res : Int32 × Int32} (h : fX9_unsee ssz = some res) : KI l yX9_unsee wsX9_unsee ({ frames := 1, cells := 0, slots := 0, locals := 20 } : Room) D (tyA cyI cyZ cyW) zW zO [.ref (ad 0)] (wFW cyI cyZ cyW ad letters length stage rco rcl ron rtubs rpegs rpwi rflags rpco rpcl rphr rpho tubs pegs pwi flags pco pcl phr pho wh lf co wi ho twh tlf tco twi tho first size awh alf aco awi aho sfl sco swt ssz kwh klf kco kwi kho kept seed) (wFW cyI cyZ cyW ad letters length stage rco rcl ron rtubs rpegs rpwi rflags rpco rpcl rphr rpho tubs pegs pwi flags pco pcl phr pho wh lf co wi ho twh tlf tco twi tho first size awh alf aco awi aho sfl sco swt res.2 kwh klf kco kwi kho kept seed) res.1 := by
  refine enterI (cc := cX9_unsee) (nL := 2) (ret := (some .int)) (by decide) rfl (Nat.le_of_ble_eq_true rfl) (fun p e s m below meth c A C => ?_)
  refine r_lv (lv' := [(0, .ref (ad 0))]) [0] rfl ?_
  unfold fX9_unsee at h
  refine r_aload_n C dX9_unsee_0 0 rfl rfl ?_
  refine r_get (ci := 6) (CC := RX9) (T := TX9) (N := 12) (v := .ref (ad 80)) C hinX9_unsee_X9 0 rfl rfl 8 (by decide) mX9_unsee_1 rfl rfl dX9_unsee_1 ?_
  refine r_get (ci := 4) (CC := RX7) (T := TX7) (N := 4) (v := .int ssz) C hinX9_unsee_X7 80 rfl rfl 3 (by decide) mX9_unsee_2 rfl rfl dX9_unsee_4 ?_
  refine r_istore_n (lv' := [(1, .int ssz), (0, .ref (ad 0))]) C dX9_unsee_7 rfl (by decide) rfl ?_
  refine r_aload_n C dX9_unsee_8 1 rfl rfl ?_
  refine r_get (ci := 6) (CC := RX9) (T := TX9) (N := 12) (v := .ref (ad 80)) C hinX9_unsee_X9 0 rfl rfl 8 (by decide) mX9_unsee_1 rfl rfl dX9_unsee_9 ?_
  obtain ⟨u1, hu1, h⟩ := ob_bind h
  refine r_callVV (q0 := 0) (As := []) (rest := []) (ws1 := (wFW cyI cyZ cyW ad letters length stage rco rcl ron rtubs rpegs rpwi rflags rpco rpcl rphr rpho tubs pegs pwi flags pco pcl phr pho wh lf co wi ho twh tlf tco twi tho first size awh alf aco awi aho sfl sco swt u1 kwh klf kco kwi kho kept seed)) C (kX7_forgetAll (s0 := (ad 80)) (s1 := (ad 81)) (s2 := (ad 82)) (s3 := (ad 83)) (sfl := sfl) (sco := sco) (swt := swt) (ssz := ssz)  hu1) gX9_unsee_X7_forgetAll rfl rfl rfl ⟨rfl, hd_X7_forgetAll⟩ ⟨by decide, by decide⟩ rfl rfl rfl rfl [80, 81, 82, 83] (by decide) in_68 se_68 (adrFW.trans adrFW.symm) rfl (Nat.le_of_ble_eq_true rfl) dX9_unsee_12 ⟨Nat.zero_le _, Nat.zero_le _⟩ ?_
  refine r_iload_n C dX9_unsee_15 0 rfl rfl ?_
  have h9 := Option.some.inj h
  subst h9
  exact r_iret C rfl dX9_unsee_16

/-! ===== FlagWash.had ===== -/
def fX9_had  (x1 : Int32) (x2 : Int32) (flags : Int32) (co : (Nat → Int32)) (sfl : (Nat → Int32)) (sco : (Nat → Int32)) (swt : (Nat → Int32)) (ssz : Int32) : Option (Int32) :=
 ((fX4_has x1 flags).bind fun u1 => (if u1 = true then (if x2 = (0 : Int32) then ((fX7_howManySets x1 sfl sco swt ssz co flags).bind fun u4 => (some u4))
 else (if x2 = (1 : Int32) then ((fX7_coloursInAll x1 sfl sco swt ssz co flags).bind fun u6 => (some u6))
 else (if x2 = (2 : Int32) then ((fX7_coloursInNone x1 sfl sco swt ssz co flags).bind fun u8 => (some u8))
 else (some (-2 : Int32)))))
 else (some (-1 : Int32))))
theorem hinX9_had_X9 : ∀ w ∈ u_ws RX9 TX9 12, w ∈ wsX9_had := fun w h => List.mem_cons_of_mem _ (List.mem_append_left _ (List.mem_append_left _ (List.mem_append_left _ (List.mem_append_right _ h))))
theorem mX9_had_1 : Cond.fieldLink RX9 27 "FlagWash" "plan" "LFlagWash$Plan;" ∈ wsX9_had := List.mem_of_getElem? (i := 1) rfl
theorem mX9_had_2 : Cond.fieldLink RX9 62 "FlagWash" "sightings" "LFlagWash$Sightings;" ∈ wsX9_had := List.mem_of_getElem? (i := 2) rfl
theorem mX9_had_3 : Cond.fieldLink RX9 36 "FlagWash" "now" "LFlagWash$Wash;" ∈ wsX9_had := List.mem_of_getElem? (i := 3) rfl
theorem hd_X9_had : yX9_had.cls ≠ "java/lang/invoke/MethodHandle" ∧ yX9_had.cls ≠ "java/lang/invoke/VarHandle" ∧ (parseMethodDescriptor yX9_had.desc).map (fun d => d.parameters.length) = some 2 := by decide +kernel
set_option maxHeartbeats 4000000 in
set_option maxRecDepth 100000 in
theorem kX9_had {l : Launch} {D : va_G} {cyI cyZ cyW : ClassId} {zW zO : Nat} {ad : Nat → Nat} {letters : (Nat → Int32)} {length : Int32} {stage : Int32} {rco : Int32} {rcl : Int32} {ron : Int32} {rtubs : Int32} {rpegs : Int32} {rpwi : Int32} {rflags : Int32} {rpco : (Nat → Int32)} {rpcl : (Nat → Int32)} {rphr : (Nat → Int32)} {rpho : (Nat → Int32)} {tubs : Int32} {pegs : Int32} {pwi : Int32} {flags : Int32} {pco : (Nat → Int32)} {pcl : (Nat → Int32)} {phr : (Nat → Int32)} {pho : (Nat → Int32)} {wh : (Nat → Int32)} {lf : (Nat → Int32)} {co : (Nat → Int32)} {wi : Int32} {ho : Int32} {twh : (Nat → Int32)} {tlf : (Nat → Int32)} {tco : (Nat → Int32)} {twi : Int32} {tho : Int32} {first : Int32} {size : Int32} {awh : (Nat → Nat → Int32)} {alf : (Nat → Nat → Int32)} {aco : (Nat → Nat → Int32)} {awi : (Nat → Int32)} {aho : (Nat → Int32)} {sfl : (Nat → Int32)} {sco : (Nat → Int32)} {swt : (Nat → Int32)} {ssz : Int32} {kwh : (Nat → Nat → Int32)} {klf : (Nat → Nat → Int32)} {kco : (Nat → Nat → Int32)} {kwi : (Nat → Int32)} {kho : (Nat → Int32)} {kept : (Nat → Int32)} {seed : Int64} {x1 : Int32} {x2 : Int32} {res : Int32} (h : fX9_had x1 x2 flags co sfl sco swt ssz = some res) : KI l yX9_had wsX9_had ({ frames := 3, cells := 0, slots := 0, locals := 72 } : Room) D (tyA cyI cyZ cyW) zW zO [.ref (ad 0), .int x1, .int x2] (wFW cyI cyZ cyW ad letters length stage rco rcl ron rtubs rpegs rpwi rflags rpco rpcl rphr rpho tubs pegs pwi flags pco pcl phr pho wh lf co wi ho twh tlf tco twi tho first size awh alf aco awi aho sfl sco swt ssz kwh klf kco kwi kho kept seed) (wFW cyI cyZ cyW ad letters length stage rco rcl ron rtubs rpegs rpwi rflags rpco rpcl rphr rpho tubs pegs pwi flags pco pcl phr pho wh lf co wi ho twh tlf tco twi tho first size awh alf aco awi aho sfl sco swt ssz kwh klf kco kwi kho kept seed) res := by
  refine enterI (cc := cX9_had) (nL := 3) (ret := (some .int)) (by decide) rfl (Nat.le_of_ble_eq_true rfl) (fun p e s m below meth c A C => ?_)
  refine r_lv (lv' := [(0, .ref (ad 0)), (1, .int x1), (2, .int x2)]) [0, 1, 2] rfl ?_
  unfold fX9_had at h
  refine r_aload_n C dX9_had_0 0 rfl rfl ?_
  refine r_get (ci := 6) (CC := RX9) (T := TX9) (N := 12) (v := .ref (ad 8)) C hinX9_had_X9 0 rfl rfl 3 (by decide) mX9_had_1 rfl rfl dX9_had_1 ?_
  refine r_iload_n C dX9_had_4 1 rfl rfl ?_
  obtain ⟨u1, hu1, h⟩ := ob_bind h
  refine r_readVI (q0 := 0) (As := [.int x1]) (rest := []) C (kX4_has (p0 := (ad 8)) (p1 := (ad 9)) (p2 := (ad 10)) (p3 := (ad 11)) (p4 := (ad 12)) (tubs := tubs) (pegs := pegs) (pwi := pwi) (flags := flags) (pco := pco) (pcl := pcl) (phr := phr) (pho := pho) (x1 := x1) hu1) gX9_had_X4_has rfl rfl rfl ⟨rfl, hd_X4_has⟩ ⟨by decide, by decide⟩ rfl rfl rfl rfl [8, 9, 10, 11, 12] (by decide) in_58 rfl (Nat.le_of_ble_eq_true rfl) dX9_had_5 ⟨Nat.zero_le _, Nat.zero_le _⟩ ?_
  refine r_ifb_ne (tgt := 13) C dX9_had_8 (by decide) (fun c2 => ?_) (fun c2 => ?_)
  · replace h := ob_t h c2
    refine r_iload_n C dX9_had_13 2 rfl rfl ?_
    by_cases c3 : x2 = (0 : Int32)
    · replace h := ob_t h c3
      refine r_tsAt (tgt := 40) (off := 26) C (0 : Int32) c3 dX9_had_14 (by decide) (by decide) (by decide) (by decide) ?_
      refine r_aload_n C dX9_had_40 0 rfl rfl ?_
      refine r_get (ci := 6) (CC := RX9) (T := TX9) (N := 12) (v := .ref (ad 80)) C hinX9_had_X9 0 rfl rfl 8 (by decide) mX9_had_2 rfl rfl dX9_had_41 ?_
      refine r_iload_n C dX9_had_44 1 rfl rfl ?_
      refine r_aload_n C dX9_had_45 0 rfl rfl ?_
      refine r_get (ci := 6) (CC := RX9) (T := TX9) (N := 12) (v := .ref (ad 13)) C hinX9_had_X9 0 rfl rfl 4 (by decide) mX9_had_3 rfl rfl dX9_had_46 ?_
      obtain ⟨u4, hu4, h⟩ := ob_bind h
      refine r_readVI (q0 := 0) (As := [.int x1, .ref (ad 13)]) (rest := []) C (kX7_howManySets (s0 := (ad 80)) (s1 := (ad 81)) (s2 := (ad 82)) (s3 := (ad 83)) (w0 := (ad 13)) (w1 := (ad 14)) (w2 := (ad 15)) (w3 := (ad 16)) (p0 := (ad 8)) (p1 := (ad 9)) (p2 := (ad 10)) (p3 := (ad 11)) (p4 := (ad 12)) (sfl := sfl) (sco := sco) (swt := swt) (ssz := ssz) (wh := wh) (lf := lf) (co := co) (wi := wi) (ho := ho) (tubs := tubs) (pegs := pegs) (pwi := pwi) (flags := flags) (pco := pco) (pcl := pcl) (phr := phr) (pho := pho) (x1 := x1) hu4) gX9_had_X7_howManySets rfl rfl rfl ⟨rfl, hd_X7_howManySets⟩ ⟨by decide, by decide⟩ rfl rfl rfl rfl [80, 81, 82, 83, 13, 14, 15, 16, 8, 9, 10, 11, 12] (by decide) in_69 rfl (Nat.le_of_ble_eq_true rfl) dX9_had_49 ⟨Nat.zero_le _, Nat.zero_le _⟩ ?_
      have h9 := Option.some.inj h
      subst h9
      exact r_iret C rfl dX9_had_52
    replace h := ob_f h c3
    by_cases c5 : x2 = (1 : Int32)
    · replace h := ob_t h c5
      refine r_tsAt (tgt := 53) (off := 39) C (1 : Int32) c5 dX9_had_14 (by decide) (by decide) (by decide) (by decide) ?_
      refine r_aload_n C dX9_had_53 0 rfl rfl ?_
      refine r_get (ci := 6) (CC := RX9) (T := TX9) (N := 12) (v := .ref (ad 80)) C hinX9_had_X9 0 rfl rfl 8 (by decide) mX9_had_2 rfl rfl dX9_had_54 ?_
      refine r_iload_n C dX9_had_57 1 rfl rfl ?_
      refine r_aload_n C dX9_had_58 0 rfl rfl ?_
      refine r_get (ci := 6) (CC := RX9) (T := TX9) (N := 12) (v := .ref (ad 13)) C hinX9_had_X9 0 rfl rfl 4 (by decide) mX9_had_3 rfl rfl dX9_had_59 ?_
      obtain ⟨u6, hu6, h⟩ := ob_bind h
      refine r_readVI (q0 := 0) (As := [.int x1, .ref (ad 13)]) (rest := []) C (kX7_coloursInAll (s0 := (ad 80)) (s1 := (ad 81)) (s2 := (ad 82)) (s3 := (ad 83)) (w0 := (ad 13)) (w1 := (ad 14)) (w2 := (ad 15)) (w3 := (ad 16)) (p0 := (ad 8)) (p1 := (ad 9)) (p2 := (ad 10)) (p3 := (ad 11)) (p4 := (ad 12)) (sfl := sfl) (sco := sco) (swt := swt) (ssz := ssz) (wh := wh) (lf := lf) (co := co) (wi := wi) (ho := ho) (tubs := tubs) (pegs := pegs) (pwi := pwi) (flags := flags) (pco := pco) (pcl := pcl) (phr := phr) (pho := pho) (x1 := x1) hu6) gX9_had_X7_coloursInAll rfl rfl rfl ⟨rfl, hd_X7_coloursInAll⟩ ⟨by decide, by decide⟩ rfl rfl rfl rfl [80, 81, 82, 83, 13, 14, 15, 16, 8, 9, 10, 11, 12] (by decide) in_69 rfl (Nat.le_of_ble_eq_true rfl) dX9_had_62 ⟨Nat.zero_le _, Nat.zero_le _⟩ ?_
      have h9 := Option.some.inj h
      subst h9
      exact r_iret C rfl dX9_had_65
    replace h := ob_f h c5
    by_cases c7 : x2 = (2 : Int32)
    · replace h := ob_t h c7
      refine r_tsAt (tgt := 66) (off := 52) C (2 : Int32) c7 dX9_had_14 (by decide) (by decide) (by decide) (by decide) ?_
      refine r_aload_n C dX9_had_66 0 rfl rfl ?_
      refine r_get (ci := 6) (CC := RX9) (T := TX9) (N := 12) (v := .ref (ad 80)) C hinX9_had_X9 0 rfl rfl 8 (by decide) mX9_had_2 rfl rfl dX9_had_67 ?_
      refine r_iload_n C dX9_had_70 1 rfl rfl ?_
      refine r_aload_n C dX9_had_71 0 rfl rfl ?_
      refine r_get (ci := 6) (CC := RX9) (T := TX9) (N := 12) (v := .ref (ad 13)) C hinX9_had_X9 0 rfl rfl 4 (by decide) mX9_had_3 rfl rfl dX9_had_72 ?_
      obtain ⟨u8, hu8, h⟩ := ob_bind h
      refine r_readVI (q0 := 0) (As := [.int x1, .ref (ad 13)]) (rest := []) C (kX7_coloursInNone (s0 := (ad 80)) (s1 := (ad 81)) (s2 := (ad 82)) (s3 := (ad 83)) (w0 := (ad 13)) (w1 := (ad 14)) (w2 := (ad 15)) (w3 := (ad 16)) (p0 := (ad 8)) (p1 := (ad 9)) (p2 := (ad 10)) (p3 := (ad 11)) (p4 := (ad 12)) (sfl := sfl) (sco := sco) (swt := swt) (ssz := ssz) (wh := wh) (lf := lf) (co := co) (wi := wi) (ho := ho) (tubs := tubs) (pegs := pegs) (pwi := pwi) (flags := flags) (pco := pco) (pcl := pcl) (phr := phr) (pho := pho) (x1 := x1) hu8) gX9_had_X7_coloursInNone rfl rfl rfl ⟨rfl, hd_X7_coloursInNone⟩ ⟨by decide, by decide⟩ rfl rfl rfl rfl [80, 81, 82, 83, 13, 14, 15, 16, 8, 9, 10, 11, 12] (by decide) in_69 rfl (Nat.le_of_ble_eq_true rfl) dX9_had_75 ⟨Nat.zero_le _, Nat.zero_le _⟩ ?_
      have h9 := Option.some.inj h
      subst h9
      exact r_iret C rfl dX9_had_78
    replace h := ob_f h c7
    refine r_tsOut (tgt := 79) C dX9_had_14 (ts_out 0 2 (by decide) (fun k hk1 hk2 => by rcases (show k = 0 ∨ k = 1 ∨ k = 2 by omega) with rfl | rfl | rfl <;> first | exact c3 | exact c5 | exact c7)) (by decide) ?_
    refine r_bipush (v := -2) C dX9_had_79 bp_m2 ?_
    have h9 := Option.some.inj h
    subst h9
    exact r_iret C rfl dX9_had_81
  · replace h := ob_bf h c2
    refine r_iconst (v := -1) C dX9_had_11 ic_m1 ?_
    have h9 := Option.some.inj h
    subst h9
    exact r_iret C rfl dX9_had_12

/-! ===== FlagWash.share ===== -/
def fX9_share  (x1 : Int32) (x2 : Bool) (flags : Int32) (pho : (Nat → Int32)) : Option (Int32) :=
 ((fX4_has x1 flags).bind fun u1 => (if u1 = true then ((fX6_gainInAllOrders x1 flags pho).bind fun u3 => ((fX6_orders flags).bind fun u4 => ((fX9_toldFraction u3 u4 x2).bind fun u5 => (some u5))))
 else (some (-1 : Int32))))
theorem hinX9_share_X9 : ∀ w ∈ u_ws RX9 TX9 12, w ∈ wsX9_share := fun w h => List.mem_cons_of_mem _ (List.mem_append_left _ (List.mem_append_right _ h))
theorem mX9_share_1 : Cond.fieldLink RX9 27 "FlagWash" "plan" "LFlagWash$Plan;" ∈ wsX9_share := List.mem_of_getElem? (i := 1) rfl
theorem hinX9_share_X4 : ∀ w ∈ u_ws RX4 TX4 8, w ∈ wsX9_share := fun w h => List.mem_cons_of_mem _ (List.mem_append_right _ h)
theorem mX9_share_2 : Cond.fieldLink RX9 92 "FlagWash$Plan" "flags" "I" ∈ wsX9_share := List.mem_of_getElem? (i := 2) rfl
theorem hd_X9_share : yX9_share.cls ≠ "java/lang/invoke/MethodHandle" ∧ yX9_share.cls ≠ "java/lang/invoke/VarHandle" ∧ (parseMethodDescriptor yX9_share.desc).map (fun d => d.parameters.length) = some 2 := by decide +kernel
set_option maxHeartbeats 4000000 in
set_option maxRecDepth 100000 in
theorem kX9_share {l : Launch} {D : va_G} {cyI cyZ cyW : ClassId} {zW zO : Nat} {ad : Nat → Nat} {letters : (Nat → Int32)} {length : Int32} {stage : Int32} {rco : Int32} {rcl : Int32} {ron : Int32} {rtubs : Int32} {rpegs : Int32} {rpwi : Int32} {rflags : Int32} {rpco : (Nat → Int32)} {rpcl : (Nat → Int32)} {rphr : (Nat → Int32)} {rpho : (Nat → Int32)} {tubs : Int32} {pegs : Int32} {pwi : Int32} {flags : Int32} {pco : (Nat → Int32)} {pcl : (Nat → Int32)} {phr : (Nat → Int32)} {pho : (Nat → Int32)} {wh : (Nat → Int32)} {lf : (Nat → Int32)} {co : (Nat → Int32)} {wi : Int32} {ho : Int32} {twh : (Nat → Int32)} {tlf : (Nat → Int32)} {tco : (Nat → Int32)} {twi : Int32} {tho : Int32} {first : Int32} {size : Int32} {awh : (Nat → Nat → Int32)} {alf : (Nat → Nat → Int32)} {aco : (Nat → Nat → Int32)} {awi : (Nat → Int32)} {aho : (Nat → Int32)} {sfl : (Nat → Int32)} {sco : (Nat → Int32)} {swt : (Nat → Int32)} {ssz : Int32} {kwh : (Nat → Nat → Int32)} {klf : (Nat → Nat → Int32)} {kco : (Nat → Nat → Int32)} {kwi : (Nat → Int32)} {kho : (Nat → Int32)} {kept : (Nat → Int32)} {seed : Int64} {x1 : Int32} {x2 : Bool} {res : Int32} (h : fX9_share x1 x2 flags pho = some res) : KI l yX9_share wsX9_share ({ frames := 3, cells := 0, slots := 0, locals := 70 } : Room) D (tyA cyI cyZ cyW) zW zO [.ref (ad 0), .int x1, .int (b2i x2)] (wFW cyI cyZ cyW ad letters length stage rco rcl ron rtubs rpegs rpwi rflags rpco rpcl rphr rpho tubs pegs pwi flags pco pcl phr pho wh lf co wi ho twh tlf tco twi tho first size awh alf aco awi aho sfl sco swt ssz kwh klf kco kwi kho kept seed) (wFW cyI cyZ cyW ad letters length stage rco rcl ron rtubs rpegs rpwi rflags rpco rpcl rphr rpho tubs pegs pwi flags pco pcl phr pho wh lf co wi ho twh tlf tco twi tho first size awh alf aco awi aho sfl sco swt ssz kwh klf kco kwi kho kept seed) res := by
  refine enterI (cc := cX9_share) (nL := 3) (ret := (some .int)) (by decide) rfl (Nat.le_of_ble_eq_true rfl) (fun p e s m below meth c A C => ?_)
  refine r_lv (lv' := [(0, .ref (ad 0)), (1, .int x1), (2, .int (b2i x2))]) [0, 1, 2] rfl ?_
  unfold fX9_share at h
  refine r_aload_n C dX9_share_0 0 rfl rfl ?_
  refine r_get (ci := 6) (CC := RX9) (T := TX9) (N := 12) (v := .ref (ad 8)) C hinX9_share_X9 0 rfl rfl 3 (by decide) mX9_share_1 rfl rfl dX9_share_1 ?_
  refine r_iload_n C dX9_share_4 1 rfl rfl ?_
  obtain ⟨u1, hu1, h⟩ := ob_bind h
  refine r_readVI (q0 := 0) (As := [.int x1]) (rest := []) C (kX4_has (p0 := (ad 8)) (p1 := (ad 9)) (p2 := (ad 10)) (p3 := (ad 11)) (p4 := (ad 12)) (tubs := tubs) (pegs := pegs) (pwi := pwi) (flags := flags) (pco := pco) (pcl := pcl) (phr := phr) (pho := pho) (x1 := x1) hu1) gX9_share_X4_has rfl rfl rfl ⟨rfl, hd_X4_has⟩ ⟨by decide, by decide⟩ rfl rfl rfl rfl [8, 9, 10, 11, 12] (by decide) in_58 rfl (Nat.le_of_ble_eq_true rfl) dX9_share_5 ⟨Nat.zero_le _, Nat.zero_le _⟩ ?_
  refine r_ifb_ne (tgt := 13) C dX9_share_8 (by decide) (fun c2 => ?_) (fun c2 => ?_)
  · replace h := ob_t h c2
    refine r_aload_n C dX9_share_13 0 rfl rfl ?_
    refine r_get (ci := 6) (CC := RX9) (T := TX9) (N := 12) (v := .ref (ad 8)) C hinX9_share_X9 0 rfl rfl 3 (by decide) mX9_share_1 rfl rfl dX9_share_14 ?_
    refine r_iload_n C dX9_share_17 1 rfl rfl ?_
    obtain ⟨u3, hu3, h⟩ := ob_bind h
    refine r_readSI (As := [.ref (ad 8), .int x1]) (rest := []) C (kX6_gainInAllOrders (p0 := (ad 8)) (p1 := (ad 9)) (p2 := (ad 10)) (p3 := (ad 11)) (p4 := (ad 12)) (tubs := tubs) (pegs := pegs) (pwi := pwi) (flags := flags) (pco := pco) (pcl := pcl) (phr := phr) (pho := pho) (x1 := x1) hu3) gX9_share_X6_gainInAllOrders rfl rfl rfl hd_X6_gainInAllOrders ⟨by decide, by decide⟩ rfl [8, 9, 10, 11, 12] (by decide) in_58 rfl (Nat.le_of_ble_eq_true rfl) dX9_share_18 ⟨Nat.zero_le _, Nat.zero_le _⟩ ?_
    refine r_aload_n C dX9_share_21 0 rfl rfl ?_
    refine r_get (ci := 6) (CC := RX9) (T := TX9) (N := 12) (v := .ref (ad 8)) C hinX9_share_X9 0 rfl rfl 3 (by decide) mX9_share_1 rfl rfl dX9_share_22 ?_
    refine r_get (ci := 2) (CC := RX4) (T := TX4) (N := 8) (v := .int flags) C hinX9_share_X4 8 rfl rfl 3 (by decide) mX9_share_2 rfl rfl dX9_share_25 ?_
    obtain ⟨u4, hu4, h⟩ := ob_bind h
    refine r_readSI (As := [.int flags]) (rest := [.int u3]) C (kX6_orders   (x0 := flags) hu4) gX9_share_X6_orders rfl rfl rfl hd_X6_orders ⟨by decide, by decide⟩ rfl [] (by decide) rfl rfl (Nat.le_of_ble_eq_true rfl) dX9_share_28 ⟨Nat.zero_le _, Nat.zero_le _⟩ ?_
    refine r_iload_n C dX9_share_31 2 rfl rfl ?_
    obtain ⟨u5, hu5, h⟩ := ob_bind h
    refine r_readSI (As := [.int u3, .int u4, .int (b2i x2)]) (rest := []) C (kX9_toldFraction   (x0 := u3) (x1 := u4) (x2 := x2) hu5) gX9_share_X9_toldFraction rfl rfl rfl hd_X9_toldFraction ⟨by decide, by decide⟩ rfl [] (by decide) rfl rfl (Nat.le_of_ble_eq_true rfl) dX9_share_32 ⟨Nat.zero_le _, Nat.zero_le _⟩ ?_
    have h9 := Option.some.inj h
    subst h9
    exact r_iret C rfl dX9_share_35
  · replace h := ob_bf h c2
    refine r_iconst (v := -1) C dX9_share_11 ic_m1 ?_
    have h9 := Option.some.inj h
    subst h9
    exact r_iret C rfl dX9_share_12

/-! ===== FlagWash.rests ===== -/
def fX9_rests  (x1 : Int32) (x2 : Int32) (x3 : Int32) (flags : Int32) (phr : (Nat → Int32)) (pho : (Nat → Int32)) : Option (Int32) :=
 ((fX4_has x1 flags).bind fun u1 => (if u1 = true then ((fX4_has x2 flags).bind fun u3 => (if u3 = true then (if x1 = x2 then (some (-2 : Int32))
 else (if x3 = (0 : Int32) then ((fX3_howManyRests x1 x2 flags phr pho).bind fun u7 => (some u7))
 else (if x3 = (1 : Int32) then ((fX3_firstRest x1 x2 flags phr pho).bind fun u9 => (some u9))
 else (some (-2 : Int32)))))
 else (some (-1 : Int32))))
 else (some (-1 : Int32))))
theorem hinX9_rests_X9 : ∀ w ∈ u_ws RX9 TX9 12, w ∈ wsX9_rests := fun w h => List.mem_cons_of_mem _ (List.mem_append_left _ (List.mem_append_right _ h))
theorem mX9_rests_1 : Cond.fieldLink RX9 27 "FlagWash" "plan" "LFlagWash$Plan;" ∈ wsX9_rests := List.mem_of_getElem? (i := 1) rfl
theorem hd_X9_rests : yX9_rests.cls ≠ "java/lang/invoke/MethodHandle" ∧ yX9_rests.cls ≠ "java/lang/invoke/VarHandle" ∧ (parseMethodDescriptor yX9_rests.desc).map (fun d => d.parameters.length) = some 3 := by decide +kernel
set_option maxHeartbeats 4000000 in
set_option maxRecDepth 100000 in
theorem kX9_rests {l : Launch} {D : va_G} {cyI cyZ cyW : ClassId} {zW zO : Nat} {ad : Nat → Nat} {letters : (Nat → Int32)} {length : Int32} {stage : Int32} {rco : Int32} {rcl : Int32} {ron : Int32} {rtubs : Int32} {rpegs : Int32} {rpwi : Int32} {rflags : Int32} {rpco : (Nat → Int32)} {rpcl : (Nat → Int32)} {rphr : (Nat → Int32)} {rpho : (Nat → Int32)} {tubs : Int32} {pegs : Int32} {pwi : Int32} {flags : Int32} {pco : (Nat → Int32)} {pcl : (Nat → Int32)} {phr : (Nat → Int32)} {pho : (Nat → Int32)} {wh : (Nat → Int32)} {lf : (Nat → Int32)} {co : (Nat → Int32)} {wi : Int32} {ho : Int32} {twh : (Nat → Int32)} {tlf : (Nat → Int32)} {tco : (Nat → Int32)} {twi : Int32} {tho : Int32} {first : Int32} {size : Int32} {awh : (Nat → Nat → Int32)} {alf : (Nat → Nat → Int32)} {aco : (Nat → Nat → Int32)} {awi : (Nat → Int32)} {aho : (Nat → Int32)} {sfl : (Nat → Int32)} {sco : (Nat → Int32)} {swt : (Nat → Int32)} {ssz : Int32} {kwh : (Nat → Nat → Int32)} {klf : (Nat → Nat → Int32)} {kco : (Nat → Nat → Int32)} {kwi : (Nat → Int32)} {kho : (Nat → Int32)} {kept : (Nat → Int32)} {seed : Int64} {x1 : Int32} {x2 : Int32} {x3 : Int32} {res : Int32} (h : fX9_rests x1 x2 x3 flags phr pho = some res) : KI l yX9_rests wsX9_rests ({ frames := 5, cells := 0, slots := 0, locals := 116 } : Room) D (tyA cyI cyZ cyW) zW zO [.ref (ad 0), .int x1, .int x2, .int x3] (wFW cyI cyZ cyW ad letters length stage rco rcl ron rtubs rpegs rpwi rflags rpco rpcl rphr rpho tubs pegs pwi flags pco pcl phr pho wh lf co wi ho twh tlf tco twi tho first size awh alf aco awi aho sfl sco swt ssz kwh klf kco kwi kho kept seed) (wFW cyI cyZ cyW ad letters length stage rco rcl ron rtubs rpegs rpwi rflags rpco rpcl rphr rpho tubs pegs pwi flags pco pcl phr pho wh lf co wi ho twh tlf tco twi tho first size awh alf aco awi aho sfl sco swt ssz kwh klf kco kwi kho kept seed) res := by
  refine enterI (cc := cX9_rests) (nL := 4) (ret := (some .int)) (by decide) rfl (Nat.le_of_ble_eq_true rfl) (fun p e s m below meth c A C => ?_)
  refine r_lv (lv' := [(0, .ref (ad 0)), (1, .int x1), (2, .int x2), (3, .int x3)]) [0, 1, 2, 3] rfl ?_
  unfold fX9_rests at h
  refine r_aload_n C dX9_rests_0 0 rfl rfl ?_
  refine r_get (ci := 6) (CC := RX9) (T := TX9) (N := 12) (v := .ref (ad 8)) C hinX9_rests_X9 0 rfl rfl 3 (by decide) mX9_rests_1 rfl rfl dX9_rests_1 ?_
  refine r_iload_n C dX9_rests_4 1 rfl rfl ?_
  obtain ⟨u1, hu1, h⟩ := ob_bind h
  refine r_readVI (q0 := 0) (As := [.int x1]) (rest := []) C (kX4_has (p0 := (ad 8)) (p1 := (ad 9)) (p2 := (ad 10)) (p3 := (ad 11)) (p4 := (ad 12)) (tubs := tubs) (pegs := pegs) (pwi := pwi) (flags := flags) (pco := pco) (pcl := pcl) (phr := phr) (pho := pho) (x1 := x1) hu1) gX9_rests_X4_has rfl rfl rfl ⟨rfl, hd_X4_has⟩ ⟨by decide, by decide⟩ rfl rfl rfl rfl [8, 9, 10, 11, 12] (by decide) in_58 rfl (Nat.le_of_ble_eq_true rfl) dX9_rests_5 ⟨Nat.zero_le _, Nat.zero_le _⟩ ?_
  refine r_ifb_eq (tgt := 22) C dX9_rests_8 (by decide) (fun c2 => ?_) (fun c2 => ?_)
  · replace h := ob_bf h c2
    refine r_iconst (v := -1) C dX9_rests_22 ic_m1 ?_
    have h9 := Option.some.inj h
    subst h9
    exact r_iret C rfl dX9_rests_23
  · replace h := ob_t h c2
    refine r_aload_n C dX9_rests_11 0 rfl rfl ?_
    refine r_get (ci := 6) (CC := RX9) (T := TX9) (N := 12) (v := .ref (ad 8)) C hinX9_rests_X9 0 rfl rfl 3 (by decide) mX9_rests_1 rfl rfl dX9_rests_12 ?_
    refine r_iload_n C dX9_rests_15 2 rfl rfl ?_
    obtain ⟨u3, hu3, h⟩ := ob_bind h
    refine r_readVI (q0 := 0) (As := [.int x2]) (rest := []) C (kX4_has (p0 := (ad 8)) (p1 := (ad 9)) (p2 := (ad 10)) (p3 := (ad 11)) (p4 := (ad 12)) (tubs := tubs) (pegs := pegs) (pwi := pwi) (flags := flags) (pco := pco) (pcl := pcl) (phr := phr) (pho := pho) (x1 := x2) hu3) gX9_rests_X4_has rfl rfl rfl ⟨rfl, hd_X4_has⟩ ⟨by decide, by decide⟩ rfl rfl rfl rfl [8, 9, 10, 11, 12] (by decide) in_58 rfl (Nat.le_of_ble_eq_true rfl) dX9_rests_16 ⟨Nat.zero_le _, Nat.zero_le _⟩ ?_
    refine r_ifb_ne (tgt := 24) C dX9_rests_19 (by decide) (fun c4 => ?_) (fun c4 => ?_)
    · replace h := ob_t h c4
      refine r_iload_n C dX9_rests_24 1 rfl rfl ?_
      refine r_iload_n C dX9_rests_25 2 rfl rfl ?_
      refine r_icmp_ne (tgt := 32) C dX9_rests_26 (by decide) (fun c5 => ?_) (fun c5 => ?_)
      · replace h := ob_f h c5
        refine r_iload_n C dX9_rests_32 3 rfl rfl ?_
        by_cases c6 : x3 = (0 : Int32)
        · replace h := ob_t h c6
          refine r_lkAt (tgt := 60) (off := 27) C (by decide) dX9_rests_33 (by rw [c6]; decide) (by decide) ?_
          refine r_aload_n C dX9_rests_60 0 rfl rfl ?_
          refine r_get (ci := 6) (CC := RX9) (T := TX9) (N := 12) (v := .ref (ad 8)) C hinX9_rests_X9 0 rfl rfl 3 (by decide) mX9_rests_1 rfl rfl dX9_rests_61 ?_
          refine r_iload_n C dX9_rests_64 1 rfl rfl ?_
          refine r_iload_n C dX9_rests_65 2 rfl rfl ?_
          obtain ⟨u7, hu7, h⟩ := ob_bind h
          refine r_readSI (As := [.ref (ad 8), .int x1, .int x2]) (rest := []) C (kX3_howManyRests (p0 := (ad 8)) (p1 := (ad 9)) (p2 := (ad 10)) (p3 := (ad 11)) (p4 := (ad 12)) (tubs := tubs) (pegs := pegs) (pwi := pwi) (flags := flags) (pco := pco) (pcl := pcl) (phr := phr) (pho := pho) (x1 := x1) (x2 := x2) hu7) gX9_rests_X3_howManyRests rfl rfl rfl hd_X3_howManyRests ⟨by decide, by decide⟩ rfl [8, 9, 10, 11, 12] (by decide) in_58 rfl (Nat.le_of_ble_eq_true rfl) dX9_rests_66 ⟨Nat.zero_le _, Nat.zero_le _⟩ ?_
          have h9 := Option.some.inj h
          subst h9
          exact r_iret C rfl dX9_rests_69
        replace h := ob_f h c6
        by_cases c8 : x3 = (1 : Int32)
        · replace h := ob_t h c8
          refine r_lkAt (tgt := 70) (off := 37) C (by decide) dX9_rests_33 (by rw [c8]; decide) (by decide) ?_
          refine r_aload_n C dX9_rests_70 0 rfl rfl ?_
          refine r_get (ci := 6) (CC := RX9) (T := TX9) (N := 12) (v := .ref (ad 8)) C hinX9_rests_X9 0 rfl rfl 3 (by decide) mX9_rests_1 rfl rfl dX9_rests_71 ?_
          refine r_iload_n C dX9_rests_74 1 rfl rfl ?_
          refine r_iload_n C dX9_rests_75 2 rfl rfl ?_
          obtain ⟨u9, hu9, h⟩ := ob_bind h
          refine r_readSI (As := [.ref (ad 8), .int x1, .int x2]) (rest := []) C (kX3_firstRest (p0 := (ad 8)) (p1 := (ad 9)) (p2 := (ad 10)) (p3 := (ad 11)) (p4 := (ad 12)) (tubs := tubs) (pegs := pegs) (pwi := pwi) (flags := flags) (pco := pco) (pcl := pcl) (phr := phr) (pho := pho) (x1 := x1) (x2 := x2) hu9) gX9_rests_X3_firstRest rfl rfl rfl hd_X3_firstRest ⟨by decide, by decide⟩ rfl [8, 9, 10, 11, 12] (by decide) in_58 rfl (Nat.le_of_ble_eq_true rfl) dX9_rests_76 ⟨Nat.zero_le _, Nat.zero_le _⟩ ?_
          have h9 := Option.some.inj h
          subst h9
          exact r_iret C rfl dX9_rests_79
        replace h := ob_f h c8
        refine r_lkAt (tgt := 80) (off := 47) C (by decide) dX9_rests_33 (lk_out2 c6 c8) (by decide) ?_
        refine r_bipush (v := -2) C dX9_rests_80 bp_m2 ?_
        have h9 := Option.some.inj h
        subst h9
        exact r_iret C rfl dX9_rests_82
      · replace h := ob_t h c5
        refine r_bipush (v := -2) C dX9_rests_29 bp_m2 ?_
        have h9 := Option.some.inj h
        subst h9
        exact r_iret C rfl dX9_rests_31
    · replace h := ob_bf h c4
      refine r_iconst (v := -1) C dX9_rests_22 ic_m1 ?_
      have h9 := Option.some.inj h
      subst h9
      exact r_iret C rfl dX9_rests_23

/-! ===== FlagWash.dry ===== -/
def fX9_dry  (x1 : Int32) (x2 : Int32) (x3 : Int32) (x4 : Bool) (flags : Int32) (wh : (Nat → Int32)) (lf : (Nat → Int32)) : Option (Int32) :=
 ((fX4_has x1 flags).bind fun u1 => (if u1 = true then (if x2 < (1 : Int32) then (some (-2 : Int32))
 else (if (6 : Int32) < x2 then (some (-2 : Int32))
 else (if x3 < 0 then (some (-2 : Int32))
 else (if x3 ≤ (10 : Int32) then (if inb x1 5 = true then (if (wh x1.toNatClampNeg) = (2 : Int32) then (if inb x1 5 = true then ((fX1_waysToDry (lf x1.toNatClampNeg) x2 x3).bind fun u10 => ((fX1_power (10 : Int32) x2).bind fun u11 => ((fX9_toldFraction u10 u11 x4).bind fun u12 => (some u12)))) else none)
 else (some (-3 : Int32))) else none)
 else (some (-2 : Int32))))))
 else (some (-1 : Int32))))
theorem hinX9_dry_X9 : ∀ w ∈ u_ws RX9 TX9 12, w ∈ wsX9_dry := fun w h => List.mem_cons_of_mem _ (List.mem_append_left _ (List.mem_append_left _ (List.mem_append_right _ h)))
theorem mX9_dry_1 : Cond.fieldLink RX9 27 "FlagWash" "plan" "LFlagWash$Plan;" ∈ wsX9_dry := List.mem_of_getElem? (i := 1) rfl
theorem mX9_dry_2 : Cond.fieldLink RX9 36 "FlagWash" "now" "LFlagWash$Wash;" ∈ wsX9_dry := List.mem_of_getElem? (i := 2) rfl
theorem hinX9_dry_X8 : ∀ w ∈ u_ws RX8 TX8 6, w ∈ wsX9_dry := fun w h => List.mem_cons_of_mem _ (List.mem_append_left _ (List.mem_append_right _ h))
theorem mX9_dry_3 : Cond.fieldLink RX9 108 "FlagWash$Wash" "where" "[I" ∈ wsX9_dry := List.mem_of_getElem? (i := 3) rfl
theorem mX9_dry_4 : Cond.fieldLink RX9 111 "FlagWash$Wash" "left" "[I" ∈ wsX9_dry := List.mem_of_getElem? (i := 4) rfl
theorem hd_X9_dry : yX9_dry.cls ≠ "java/lang/invoke/MethodHandle" ∧ yX9_dry.cls ≠ "java/lang/invoke/VarHandle" ∧ (parseMethodDescriptor yX9_dry.desc).map (fun d => d.parameters.length) = some 4 := by decide +kernel
set_option maxHeartbeats 4000000 in
set_option maxRecDepth 100000 in
theorem kX9_dry {l : Launch} {D : va_G} {cyI cyZ cyW : ClassId} {zW zO : Nat} {ad : Nat → Nat} {letters : (Nat → Int32)} {length : Int32} {stage : Int32} {rco : Int32} {rcl : Int32} {ron : Int32} {rtubs : Int32} {rpegs : Int32} {rpwi : Int32} {rflags : Int32} {rpco : (Nat → Int32)} {rpcl : (Nat → Int32)} {rphr : (Nat → Int32)} {rpho : (Nat → Int32)} {tubs : Int32} {pegs : Int32} {pwi : Int32} {flags : Int32} {pco : (Nat → Int32)} {pcl : (Nat → Int32)} {phr : (Nat → Int32)} {pho : (Nat → Int32)} {wh : (Nat → Int32)} {lf : (Nat → Int32)} {co : (Nat → Int32)} {wi : Int32} {ho : Int32} {twh : (Nat → Int32)} {tlf : (Nat → Int32)} {tco : (Nat → Int32)} {twi : Int32} {tho : Int32} {first : Int32} {size : Int32} {awh : (Nat → Nat → Int32)} {alf : (Nat → Nat → Int32)} {aco : (Nat → Nat → Int32)} {awi : (Nat → Int32)} {aho : (Nat → Int32)} {sfl : (Nat → Int32)} {sco : (Nat → Int32)} {swt : (Nat → Int32)} {ssz : Int32} {kwh : (Nat → Nat → Int32)} {klf : (Nat → Nat → Int32)} {kco : (Nat → Nat → Int32)} {kwi : (Nat → Int32)} {kho : (Nat → Int32)} {kept : (Nat → Int32)} {seed : Int64} {x1 : Int32} {x2 : Int32} {x3 : Int32} {x4 : Bool} {res : Int32} (h : fX9_dry x1 x2 x3 x4 flags wh lf = some res) : KI l yX9_dry wsX9_dry ({ frames := 2, cells := 0, slots := 0, locals := 48 } : Room) D (tyA cyI cyZ cyW) zW zO [.ref (ad 0), .int x1, .int x2, .int x3, .int (b2i x4)] (wFW cyI cyZ cyW ad letters length stage rco rcl ron rtubs rpegs rpwi rflags rpco rpcl rphr rpho tubs pegs pwi flags pco pcl phr pho wh lf co wi ho twh tlf tco twi tho first size awh alf aco awi aho sfl sco swt ssz kwh klf kco kwi kho kept seed) (wFW cyI cyZ cyW ad letters length stage rco rcl ron rtubs rpegs rpwi rflags rpco rpcl rphr rpho tubs pegs pwi flags pco pcl phr pho wh lf co wi ho twh tlf tco twi tho first size awh alf aco awi aho sfl sco swt ssz kwh klf kco kwi kho kept seed) res := by
  refine enterI (cc := cX9_dry) (nL := 5) (ret := (some .int)) (by decide) rfl (Nat.le_of_ble_eq_true rfl) (fun p e s m below meth c A C => ?_)
  refine r_lv (lv' := [(0, .ref (ad 0)), (1, .int x1), (2, .int x2), (3, .int x3), (4, .int (b2i x4))]) [0, 1, 2, 3, 4] rfl ?_
  unfold fX9_dry at h
  refine r_aload_n C dX9_dry_0 0 rfl rfl ?_
  refine r_get (ci := 6) (CC := RX9) (T := TX9) (N := 12) (v := .ref (ad 8)) C hinX9_dry_X9 0 rfl rfl 3 (by decide) mX9_dry_1 rfl rfl dX9_dry_1 ?_
  refine r_iload_n C dX9_dry_4 1 rfl rfl ?_
  obtain ⟨u1, hu1, h⟩ := ob_bind h
  refine r_readVI (q0 := 0) (As := [.int x1]) (rest := []) C (kX4_has (p0 := (ad 8)) (p1 := (ad 9)) (p2 := (ad 10)) (p3 := (ad 11)) (p4 := (ad 12)) (tubs := tubs) (pegs := pegs) (pwi := pwi) (flags := flags) (pco := pco) (pcl := pcl) (phr := phr) (pho := pho) (x1 := x1) hu1) gX9_dry_X4_has rfl rfl rfl ⟨rfl, hd_X4_has⟩ ⟨by decide, by decide⟩ rfl rfl rfl rfl [8, 9, 10, 11, 12] (by decide) in_58 rfl (Nat.le_of_ble_eq_true rfl) dX9_dry_5 ⟨Nat.zero_le _, Nat.zero_le _⟩ ?_
  refine r_ifb_ne (tgt := 13) C dX9_dry_8 (by decide) (fun c2 => ?_) (fun c2 => ?_)
  · replace h := ob_t h c2
    refine r_iload_n C dX9_dry_13 2 rfl rfl ?_
    refine r_iconst (v := 1) C dX9_dry_14 ic_1 ?_
    refine r_icmp_lt (tgt := 34) C dX9_dry_15 (by decide) (fun c3 => ?_) (fun c3 => ?_)
    · replace h := ob_t h c3
      refine r_bipush (v := -2) C dX9_dry_34 bp_m2 ?_
      have h9 := Option.some.inj h
      subst h9
      exact r_iret C rfl dX9_dry_36
    · replace h := ob_f h c3
      refine r_iload_n C dX9_dry_18 2 rfl rfl ?_
      refine r_bipush (v := 6) C dX9_dry_19 bp_6 ?_
      refine r_icmp_gt (tgt := 34) C dX9_dry_21 (by decide) (fun c4 => ?_) (fun c4 => ?_)
      · replace h := ob_t h c4
        refine r_bipush (v := -2) C dX9_dry_34 bp_m2 ?_
        have h9 := Option.some.inj h
        subst h9
        exact r_iret C rfl dX9_dry_36
      · replace h := ob_f h c4
        refine r_iload_n C dX9_dry_24 3 rfl rfl ?_
        refine r_if_lt (tgt := 34) C dX9_dry_25 (by decide) (fun c5 => ?_) (fun c5 => ?_)
        · replace h := ob_t h c5
          refine r_bipush (v := -2) C dX9_dry_34 bp_m2 ?_
          have h9 := Option.some.inj h
          subst h9
          exact r_iret C rfl dX9_dry_36
        · replace h := ob_f h c5
          refine r_iload_n C dX9_dry_28 3 rfl rfl ?_
          refine r_bipush (v := 10) C dX9_dry_29 bp_10 ?_
          refine r_icmp_le (tgt := 37) C dX9_dry_31 (by decide) (fun c6 => ?_) (fun c6 => ?_)
          · replace h := ob_t h c6
            refine r_aload_n C dX9_dry_37 0 rfl rfl ?_
            refine r_get (ci := 6) (CC := RX9) (T := TX9) (N := 12) (v := .ref (ad 13)) C hinX9_dry_X9 0 rfl rfl 4 (by decide) mX9_dry_2 rfl rfl dX9_dry_38 ?_
            refine r_get (ci := 5) (CC := RX8) (T := TX8) (N := 6) (v := .ref (ad 14)) C hinX9_dry_X8 13 rfl rfl 1 (by decide) mX9_dry_3 rfl rfl dX9_dry_41 ?_
            refine r_iload_n C dX9_dry_44 1 rfl rfl ?_
            obtain ⟨hu7, h⟩ := ob_if h
            refine r_iald C 14 0 rfl rfl (inb_vp hu7) dX9_dry_45 ?_
            refine r_iconst (v := 2) C dX9_dry_46 ic_2 ?_
            refine r_icmp_eq (tgt := 53) C dX9_dry_47 (by decide) (fun c8 => ?_) (fun c8 => ?_)
            · replace h := ob_t h c8
              refine r_aload_n C dX9_dry_53 0 rfl rfl ?_
              refine r_get (ci := 6) (CC := RX9) (T := TX9) (N := 12) (v := .ref (ad 13)) C hinX9_dry_X9 0 rfl rfl 4 (by decide) mX9_dry_2 rfl rfl dX9_dry_54 ?_
              refine r_get (ci := 5) (CC := RX8) (T := TX8) (N := 6) (v := .ref (ad 15)) C hinX9_dry_X8 13 rfl rfl 2 (by decide) mX9_dry_4 rfl rfl dX9_dry_57 ?_
              refine r_iload_n C dX9_dry_60 1 rfl rfl ?_
              obtain ⟨hu9, h⟩ := ob_if h
              refine r_iald C 15 0 rfl rfl (inb_vp hu9) dX9_dry_61 ?_
              refine r_iload_n C dX9_dry_62 2 rfl rfl ?_
              refine r_iload_n C dX9_dry_63 3 rfl rfl ?_
              obtain ⟨u10, hu10, h⟩ := ob_bind h
              refine r_readSI (As := [.int (lf x1.toNatClampNeg), .int x2, .int x3]) (rest := []) C (kX1_waysToDry   (x0 := (lf x1.toNatClampNeg)) (x1 := x2) (x2 := x3) hu10) gX9_dry_X1_waysToDry rfl rfl rfl hd_X1_waysToDry ⟨by decide, by decide⟩ rfl [] (by decide) rfl rfl (Nat.le_of_ble_eq_true rfl) dX9_dry_64 ⟨Nat.zero_le _, Nat.zero_le _⟩ ?_
              refine r_bipush (v := 10) C dX9_dry_67 bp_10 ?_
              refine r_iload_n C dX9_dry_69 2 rfl rfl ?_
              obtain ⟨u11, hu11, h⟩ := ob_bind h
              refine r_readSI (As := [.int (10 : Int32), .int x2]) (rest := [.int u10]) C (kX1_power   (x0 := (10 : Int32)) (x1 := x2) hu11) gX9_dry_X1_power rfl rfl rfl hd_X1_power ⟨by decide, by decide⟩ rfl [] (by decide) rfl rfl (Nat.le_of_ble_eq_true rfl) dX9_dry_70 ⟨Nat.zero_le _, Nat.zero_le _⟩ ?_
              refine r_iload C dX9_dry_73 4 rfl ?_
              obtain ⟨u12, hu12, h⟩ := ob_bind h
              refine r_readSI (As := [.int u10, .int u11, .int (b2i x4)]) (rest := []) C (kX9_toldFraction   (x0 := u10) (x1 := u11) (x2 := x4) hu12) gX9_dry_X9_toldFraction rfl rfl rfl hd_X9_toldFraction ⟨by decide, by decide⟩ rfl [] (by decide) rfl rfl (Nat.le_of_ble_eq_true rfl) dX9_dry_75 ⟨Nat.zero_le _, Nat.zero_le _⟩ ?_
              have h9 := Option.some.inj h
              subst h9
              exact r_iret C rfl dX9_dry_78
            · replace h := ob_f h c8
              refine r_bipush (v := -3) C dX9_dry_50 bp_m3 ?_
              have h9 := Option.some.inj h
              subst h9
              exact r_iret C rfl dX9_dry_52
          · replace h := ob_f h c6
            refine r_bipush (v := -2) C dX9_dry_34 bp_m2 ?_
            have h9 := Option.some.inj h
            subst h9
            exact r_iret C rfl dX9_dry_36
  · replace h := ob_bf h c2
    refine r_iconst (v := -1) C dX9_dry_11 ic_m1 ?_
    have h9 := Option.some.inj h
    subst h9
    exact r_iret C rfl dX9_dry_12

/-! ===== FlagWash.seed ===== -/
def fX9_seed  (x1 : Int64) (seed : Int64) : Option (Int64 × Int64) :=
 (some (seed, x1))
theorem hinX9_seed_X9 : ∀ w ∈ u_ws RX9 TX9 12, w ∈ wsX9_seed := fun w h => List.mem_cons_of_mem _ (List.mem_append_right _ h)
theorem mX9_seed_1 : Cond.fieldLink RX9 74 "FlagWash" "seedNow" "J" ∈ wsX9_seed := List.mem_of_getElem? (i := 1) rfl
theorem hd_X9_seed : yX9_seed.cls ≠ "java/lang/invoke/MethodHandle" ∧ yX9_seed.cls ≠ "java/lang/invoke/VarHandle" ∧ (parseMethodDescriptor yX9_seed.desc).map (fun d => d.parameters.length) = some 1 := by decide +kernel
set_option maxHeartbeats 4000000 in
set_option maxRecDepth 100000 in
theorem kX9_seed {l : Launch} {D : va_G} {cyI cyZ cyW : ClassId} {zW zO : Nat} {ad : Nat → Nat} {letters : (Nat → Int32)} {length : Int32} {stage : Int32} {rco : Int32} {rcl : Int32} {ron : Int32} {rtubs : Int32} {rpegs : Int32} {rpwi : Int32} {rflags : Int32} {rpco : (Nat → Int32)} {rpcl : (Nat → Int32)} {rphr : (Nat → Int32)} {rpho : (Nat → Int32)} {tubs : Int32} {pegs : Int32} {pwi : Int32} {flags : Int32} {pco : (Nat → Int32)} {pcl : (Nat → Int32)} {phr : (Nat → Int32)} {pho : (Nat → Int32)} {wh : (Nat → Int32)} {lf : (Nat → Int32)} {co : (Nat → Int32)} {wi : Int32} {ho : Int32} {twh : (Nat → Int32)} {tlf : (Nat → Int32)} {tco : (Nat → Int32)} {twi : Int32} {tho : Int32} {first : Int32} {size : Int32} {awh : (Nat → Nat → Int32)} {alf : (Nat → Nat → Int32)} {aco : (Nat → Nat → Int32)} {awi : (Nat → Int32)} {aho : (Nat → Int32)} {sfl : (Nat → Int32)} {sco : (Nat → Int32)} {swt : (Nat → Int32)} {ssz : Int32} {kwh : (Nat → Nat → Int32)} {klf : (Nat → Nat → Int32)} {kco : (Nat → Nat → Int32)} {kwi : (Nat → Int32)} {kho : (Nat → Int32)} {kept : (Nat → Int32)} {seed : Int64} {x1 : Int64} {res : Int64 × Int64} (h : fX9_seed x1 seed = some res) : KL l yX9_seed wsX9_seed ({ frames := 0, cells := 0, slots := 0, locals := 0 } : Room) D (tyA cyI cyZ cyW) zW zO [.ref (ad 0), .long x1] (wFW cyI cyZ cyW ad letters length stage rco rcl ron rtubs rpegs rpwi rflags rpco rpcl rphr rpho tubs pegs pwi flags pco pcl phr pho wh lf co wi ho twh tlf tco twi tho first size awh alf aco awi aho sfl sco swt ssz kwh klf kco kwi kho kept seed) (wFW cyI cyZ cyW ad letters length stage rco rcl ron rtubs rpegs rpwi rflags rpco rpcl rphr rpho tubs pegs pwi flags pco pcl phr pho wh lf co wi ho twh tlf tco twi tho first size awh alf aco awi aho sfl sco swt ssz kwh klf kco kwi kho kept res.2) res.1 := by
  refine enterL (cc := cX9_seed) (nL := 5) (ret := (some .long)) (by decide) rfl (Nat.le_of_ble_eq_true rfl) (fun p e s m below meth c A C => ?_)
  refine r_lv (lv' := [(0, .ref (ad 0)), (1, .long x1)]) [0, 1] rfl ?_
  unfold fX9_seed at h
  refine r_aload_n C dX9_seed_0 0 rfl rfl ?_
  refine r_get (ci := 6) (CC := RX9) (T := TX9) (N := 12) (v := .long seed) C hinX9_seed_X9 0 rfl rfl 11 (by decide) mX9_seed_1 rfl rfl dX9_seed_1 ?_
  refine r_lstore_n (lv' := [(3, .long seed), (0, .ref (ad 0)), (1, .long x1)]) C dX9_seed_4 rfl (by decide) rfl ?_
  refine r_aload_n C dX9_seed_5 1 rfl rfl ?_
  refine r_lload_n C dX9_seed_6 2 rfl rfl ?_
  refine r_put (ci := 6) (CC := RX9) (T := TX9) (N := 12) (v := .long x1) (ws1 := (wFW cyI cyZ cyW ad letters length stage rco rcl ron rtubs rpegs rpwi rflags rpco rpcl rphr rpho tubs pegs pwi flags pco pcl phr pho wh lf co wi ho twh tlf tco twi tho first size awh alf aco awi aho sfl sco swt ssz kwh klf kco kwi kho kept x1)) (ty := .long) C hinX9_seed_X9 tyX9 tyX9_ok nmX9 0 rfl rfl 11 (by decide) mX9_seed_1 rfl rfl rfl rfl rfl (Nat.le_of_ble_eq_true rfl) rfl dX9_seed_7 ?_
  refine r_lload_n C dX9_seed_10 0 rfl rfl ?_
  have h9 := Option.some.inj h
  subst h9
  exact r_lret C rfl dX9_seed_11
