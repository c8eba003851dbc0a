/-! ===== FlagWashModel.canSend ===== -/
def fX10_canSend  (x1 : Int32) (x2 : Int32) (mflags : Int32) (mtubs : Int32) (mpegs : Int32) (mnow : (Nat → Int32)) : Option (Bool) :=
 ((fX10_isFlag x2 mflags).bind fun u1 => (if u1 = true then (if inb ((((17 : Int32) * x1) + (5 : Int32)) + x2) 34 = true then (if (mnow ((((17 : Int32) * x1) + (5 : Int32)) + x2).toNatClampNeg) = 0 then ((fX10_free x1 (1 : Int32) mflags mtubs mpegs mnow).bind fun u5 => (if u5 ≤ 0 then (some false)
 else (some true)))
 else (some false)) else none)
 else (some false)))
theorem hinX10_canSend_X10 : ∀ w ∈ u_ws RX10 TX10 24, w ∈ wsX10_canSend := fun w h => List.mem_cons_of_mem _ (List.mem_append_right _ h)
theorem mX10_canSend_1 : Cond.fieldLink RX10 19 "FlagWashModel" "now" "[I" ∈ wsX10_canSend := List.mem_of_getElem? (i := 1) rfl
theorem hd_X10_canSend : yX10_canSend.cls ≠ "java/lang/invoke/MethodHandle" ∧ yX10_canSend.cls ≠ "java/lang/invoke/VarHandle" ∧ (parseMethodDescriptor yX10_canSend.desc).map (fun d => d.parameters.length) = some 2 := by decide +kernel
set_option maxHeartbeats 4000000 in
set_option maxRecDepth 100000 in
theorem kX10_canSend {l : Launch} {D : va_G} {cyI cyZ cyW : ClassId} {zW zO : Nat} {md : Nat → Nat} {mflags : Int32} {mtubs : Int32} {mpegs : Int32} {mcl : (Nat → Int32)} {mws : (Nat → Int32)} {mho : (Nat → Int32)} {mnow : (Nat → Int32)} {mrd : (Nat → Int32)} {mrh : (Nat → Int32)} {mrf : Int32} {mtx : (Nat → Int32)} {mlen : Int32} {mat : Int32} {mfa : Int32} {mac : Int32} {mnx : Int32} {mrow : (Nat → Int32)} {msn : Int32} {mso : (Nat → Int32)} {msc : (Nat → Int32)} {msw : (Nat → Int32)} {mseed : Int64} {mik : (Nat → Int32)} {mkp : (Nat → Int32)} {x1 : Int32} {x2 : Int32} {res : Bool} (h : fX10_canSend x1 x2 mflags mtubs mpegs mnow = some res) : KI l yX10_canSend wsX10_canSend ({ frames := 2, cells := 0, slots := 0, locals := 46 } : Room) D (tyA cyI cyZ cyW) zW zO [.ref (md 0), .int x1, .int x2] (wMO cyI cyZ cyW md mflags mtubs mpegs mcl mws mho mnow mrd mrh mrf mtx mlen mat mfa mac mnx mrow msn mso msc msw mseed mik mkp) (wMO cyI cyZ cyW md mflags mtubs mpegs mcl mws mho mnow mrd mrh mrf mtx mlen mat mfa mac mnx mrow msn mso msc msw mseed mik mkp) (b2i res) := by
  refine enterI (cc := cX10_canSend) (nL := 3) (ret := (some .boolean)) (by decide) rfl (Nat.le_of_ble_eq_true rfl) (fun p e s m below meth c A C => ?_)
  refine r_lv (lv' := [(0, .ref (md 0)), (1, .int x1), (2, .int x2)]) [0, 1, 2] rfl ?_
  unfold fX10_canSend at h
  refine r_aload_n C dX10_canSend_0 0 rfl rfl ?_
  refine r_iload_n C dX10_canSend_1 2 rfl rfl ?_
  obtain ⟨u1, hu1, h⟩ := ob_bind h
  refine r_readVI (q0 := 0) (As := [.int x2]) (rest := []) C (kX10_isFlag (md := md) (mflags := mflags) (mtubs := mtubs) (mpegs := mpegs) (mcl := mcl) (mws := mws) (mho := mho) (mnow := mnow) (mrd := mrd) (mrh := mrh) (mrf := mrf) (mtx := mtx) (mlen := mlen) (mat := mat) (mfa := mfa) (mac := mac) (mnx := mnx) (mrow := mrow) (msn := msn) (mso := mso) (msc := msc) (msw := msw) (mseed := mseed) (mik := mik) (mkp := mkp) (x1 := x2) hu1) gX10_canSend_X10_isFlag rfl rfl rfl ⟨rfl, hd_X10_isFlag⟩ ⟨by decide, by decide⟩ rfl rfl rfl rfl [0, 1, 2, 3, 4, 5, 6, 7, 8, 9, 10, 11, 12, 13] (by decide) in_76 rfl (Nat.le_of_ble_eq_true rfl) dX10_canSend_2 ⟨Nat.zero_le _, Nat.zero_le _⟩ ?_
  refine r_ifb_eq (tgt := 37) C dX10_canSend_5 (by decide) (fun c2 => ?_) (fun c2 => ?_)
  · replace h := ob_bf h c2
    refine r_iconst (v := 0) C dX10_canSend_37 ic_0 ?_
    have h9 := Option.some.inj h
    subst h9
    exact r_zret (b := false) C rfl dX10_canSend_38
  · replace h := ob_t h c2
    refine r_aload_n C dX10_canSend_8 0 rfl rfl ?_
    refine r_get (ci := 7) (CC := RX10) (T := TX10) (N := 24) (v := .ref (md 4)) C hinX10_canSend_X10 0 rfl rfl 6 (by decide) mX10_canSend_1 rfl rfl dX10_canSend_9 ?_
    refine r_bipush (v := 17) C dX10_canSend_12 bp_17 ?_
    refine r_iload_n C dX10_canSend_14 1 rfl rfl ?_
    refine r_imul C dX10_canSend_15 ?_
    refine r_iconst (v := 5) C dX10_canSend_16 ic_5 ?_
    refine r_iadd C dX10_canSend_17 ?_
    refine r_iload_n C dX10_canSend_18 2 rfl rfl ?_
    refine r_iadd C dX10_canSend_19 ?_
    obtain ⟨hu3, h⟩ := ob_if h
    refine r_iald C 4 0 rfl rfl (inb_vp hu3) dX10_canSend_20 ?_
    refine r_if_ne (tgt := 37) C dX10_canSend_21 (by decide) (fun c4 => ?_) (fun c4 => ?_)
    · replace h := ob_f h c4
      refine r_iconst (v := 0) C dX10_canSend_37 ic_0 ?_
      have h9 := Option.some.inj h
      subst h9
      exact r_zret (b := false) C rfl dX10_canSend_38
    · replace h := ob_t h c4
      refine r_aload_n C dX10_canSend_24 0 rfl rfl ?_
      refine r_iload_n C dX10_canSend_25 1 rfl rfl ?_
      refine r_iconst (v := 1) C dX10_canSend_26 ic_1 ?_
      obtain ⟨u5, hu5, h⟩ := ob_bind h
      refine r_readVI (q0 := 0) (As := [.int x1, .int (1 : Int32)]) (rest := []) C (kX10_free (md := md) (mflags := mflags) (mtubs := mtubs) (mpegs := mpegs) (mcl := mcl) (mws := mws) (mho := mho) (mnow := mnow) (mrd := mrd) (mrh := mrh) (mrf := mrf) (mtx := mtx) (mlen := mlen) (mat := mat) (mfa := mfa) (mac := mac) (mnx := mnx) (mrow := mrow) (msn := msn) (mso := mso) (msc := msc) (msw := msw) (mseed := mseed) (mik := mik) (mkp := mkp) (x1 := x1) (x2 := (1 : Int32)) hu5) gX10_canSend_X10_free rfl rfl rfl ⟨rfl, hd_X10_free⟩ ⟨by decide, by decide⟩ rfl rfl rfl rfl [0, 1, 2, 3, 4, 5, 6, 7, 8, 9, 10, 11, 12, 13] (by decide) in_76 rfl (Nat.le_of_ble_eq_true rfl) dX10_canSend_27 ⟨Nat.zero_le _, Nat.zero_le _⟩ ?_
      refine r_if_le (tgt := 37) C dX10_canSend_30 (by decide) (fun c6 => ?_) (fun c6 => ?_)
      · replace h := ob_t h c6
        refine r_iconst (v := 0) C dX10_canSend_37 ic_0 ?_
        have h9 := Option.some.inj h
        subst h9
        exact r_zret (b := false) C rfl dX10_canSend_38
      · replace h := ob_f h c6
        refine r_iconst (v := 1) C dX10_canSend_33 ic_1 ?_
        refine r_goto (tgt := 38) C dX10_canSend_34 (by decide) ?_
        have h9 := Option.some.inj h
        subst h9
        exact r_zret (b := true) C rfl dX10_canSend_38

/-! ===== FlagWashModel.sendOn ===== -/
def fX10_sendOn  (x1 : Int32) (x2 : Int32) (mws : (Nat → Int32)) (mnow : (Nat → Int32)) : Option ((Nat → Int32)) :=
 (if inb ((((17 : Int32) * x1) + (5 : Int32)) + x2) 34 = true then (if inb x2 5 = true then (if inb ((((17 : Int32) * x1) + (10 : Int32)) + x2) 34 = true then (some (upd (upd mnow ((((17 : Int32) * x1) + (5 : Int32)) + x2).toNatClampNeg (1 : Int32)) ((((17 : Int32) * x1) + (10 : Int32)) + x2).toNatClampNeg (mws x2.toNatClampNeg))) else none) else none) else none)
theorem hinX10_sendOn_X10 : ∀ w ∈ u_ws RX10 TX10 24, w ∈ wsX10_sendOn := fun w h => List.mem_cons_of_mem _ (List.mem_append_right _ h)
theorem mX10_sendOn_1 : Cond.fieldLink RX10 19 "FlagWashModel" "now" "[I" ∈ wsX10_sendOn := List.mem_of_getElem? (i := 1) rfl
theorem mX10_sendOn_2 : Cond.fieldLink RX10 13 "FlagWashModel" "washed" "[I" ∈ wsX10_sendOn := List.mem_of_getElem? (i := 2) rfl
theorem hd_X10_sendOn : yX10_sendOn.cls ≠ "java/lang/invoke/MethodHandle" ∧ yX10_sendOn.cls ≠ "java/lang/invoke/VarHandle" ∧ (parseMethodDescriptor yX10_sendOn.desc).map (fun d => d.parameters.length) = some 2 := by decide +kernel
set_option maxHeartbeats 4000000 in
set_option maxRecDepth 100000 in
theorem kX10_sendOn {l : Launch} {D : va_G} {cyI cyZ cyW : ClassId} {zW zO : Nat} {md : Nat → Nat} {mflags : Int32} {mtubs : Int32} {mpegs : Int32} {mcl : (Nat → Int32)} {mws : (Nat → Int32)} {mho : (Nat → Int32)} {mnow : (Nat → Int32)} {mrd : (Nat → Int32)} {mrh : (Nat → Int32)} {mrf : Int32} {mtx : (Nat → Int32)} {mlen : Int32} {mat : Int32} {mfa : Int32} {mac : Int32} {mnx : Int32} {mrow : (Nat → Int32)} {msn : Int32} {mso : (Nat → Int32)} {msc : (Nat → Int32)} {msw : (Nat → Int32)} {mseed : Int64} {mik : (Nat → Int32)} {mkp : (Nat → Int32)} {x1 : Int32} {x2 : Int32} {res : (Nat → Int32)} (h : fX10_sendOn x1 x2 mws mnow = some res) : KV l yX10_sendOn wsX10_sendOn ({ frames := 0, cells := 0, slots := 0, locals := 0 } : Room) D (tyA cyI cyZ cyW) zW zO [.ref (md 0), .int x1, .int x2] (wMO cyI cyZ cyW md mflags mtubs mpegs mcl mws mho mnow mrd mrh mrf mtx mlen mat mfa mac mnx mrow msn mso msc msw mseed mik mkp) (wMO cyI cyZ cyW md mflags mtubs mpegs mcl mws mho res mrd mrh mrf mtx mlen mat mfa mac mnx mrow msn mso msc msw mseed mik mkp) := by
  refine enterV (cc := cX10_sendOn) (nL := 3) (ret := none) (by decide) rfl (Nat.le_of_ble_eq_true rfl) (fun p e s m below meth c A C => ?_)
  refine r_lv (lv' := [(0, .ref (md 0)), (1, .int x1), (2, .int x2)]) [0, 1, 2] rfl ?_
  unfold fX10_sendOn at h
  refine r_aload_n C dX10_sendOn_0 0 rfl rfl ?_
  refine r_get (ci := 7) (CC := RX10) (T := TX10) (N := 24) (v := .ref (md 4)) C hinX10_sendOn_X10 0 rfl rfl 6 (by decide) mX10_sendOn_1 rfl rfl dX10_sendOn_1 ?_
  refine r_bipush (v := 17) C dX10_sendOn_4 bp_17 ?_
  refine r_iload_n C dX10_sendOn_6 1 rfl rfl ?_
  refine r_imul C dX10_sendOn_7 ?_
  refine r_iconst (v := 5) C dX10_sendOn_8 ic_5 ?_
  refine r_iadd C dX10_sendOn_9 ?_
  refine r_iload_n C dX10_sendOn_10 2 rfl rfl ?_
  refine r_iadd C dX10_sendOn_11 ?_
  refine r_iconst (v := 1) C dX10_sendOn_12 ic_1 ?_
  obtain ⟨hu1, h⟩ := ob_if h
  refine r_iast (ws1 := (wMO cyI cyZ cyW md mflags mtubs mpegs mcl mws mho (upd mnow ((((17 : Int32) * x1) + (5 : Int32)) + x2).toNatClampNeg (1 : Int32)) mrd mrh mrf mtx mlen mat mfa mac mnx mrow msn mso msc msw mseed mik mkp)) C 4 0 rfl rfl (inb_vp hu1) rfl dX10_sendOn_13 ?_
  refine r_aload_n C dX10_sendOn_14 0 rfl rfl ?_
  refine r_get (ci := 7) (CC := RX10) (T := TX10) (N := 24) (v := .ref (md 4)) C hinX10_sendOn_X10 0 rfl rfl 6 (by decide) mX10_sendOn_1 rfl rfl dX10_sendOn_15 ?_
  refine r_bipush (v := 17) C dX10_sendOn_18 bp_17 ?_
  refine r_iload_n C dX10_sendOn_20 1 rfl rfl ?_
  refine r_imul C dX10_sendOn_21 ?_
  refine r_bipush (v := 10) C dX10_sendOn_22 bp_10 ?_
  refine r_iadd C dX10_sendOn_24 ?_
  refine r_iload_n C dX10_sendOn_25 2 rfl rfl ?_
  refine r_iadd C dX10_sendOn_26 ?_
  refine r_aload_n C dX10_sendOn_27 0 rfl rfl ?_
  refine r_get (ci := 7) (CC := RX10) (T := TX10) (N := 24) (v := .ref (md 2)) C hinX10_sendOn_X10 0 rfl rfl 4 (by decide) mX10_sendOn_2 rfl rfl dX10_sendOn_28 ?_
  refine r_iload_n C dX10_sendOn_31 2 rfl rfl ?_
  obtain ⟨hu2, h⟩ := ob_if h
  refine r_iald C 2 0 rfl rfl (inb_vp hu2) dX10_sendOn_32 ?_
  obtain ⟨hu3, h⟩ := ob_if h
  refine r_iast (ws1 := (wMO cyI cyZ cyW md mflags mtubs mpegs mcl mws mho (upd (upd mnow ((((17 : Int32) * x1) + (5 : Int32)) + x2).toNatClampNeg (1 : Int32)) ((((17 : Int32) * x1) + (10 : Int32)) + x2).toNatClampNeg (mws x2.toNatClampNeg)) mrd mrh mrf mtx mlen mat mfa mac mnx mrow msn mso msc msw mseed mik mkp)) C 4 0 rfl rfl (inb_vp hu3) rfl dX10_sendOn_33 ?_
  have h9 := Option.some.inj h
  subst h9
  exact r_vret C rfl dX10_sendOn_34

/-! ===== FlagWashModel.flag ===== -/
def fX10_flag  (x1 : Int32) (x2 : Int32) (mflags : Int32) (mcl : (Nat → Int32)) (mws : (Nat → Int32)) (mho : (Nat → Int32)) (mnow : (Nat → Int32)) : Option (Int32) :=
 ((fX10_isFlag x1 mflags).bind fun u1 => (if u1 = true then (if x2 = (0 : Int32) then (if inb x1 34 = true then (some (mnow x1.toNatClampNeg)) else none)
 else (if x2 = (1 : Int32) then (if inb x1 5 = true then (some (mcl x1.toNatClampNeg)) else none)
 else (if x2 = (2 : Int32) then (if inb x1 5 = true then (some (mws x1.toNatClampNeg)) else none)
 else (if x2 = (3 : Int32) then (if inb ((5 : Int32) + x1) 34 = true then (some (mnow ((5 : Int32) + x1).toNatClampNeg)) else none)
 else (if x2 = (4 : Int32) then (if inb ((10 : Int32) + x1) 34 = true then (some (mnow ((10 : Int32) + x1).toNatClampNeg)) else none)
 else (if x2 = (5 : Int32) then (if inb x1 5 = true then (some (mho x1.toNatClampNeg)) else none)
 else (some (-2 : Int32))))))))
 else (some (-1 : Int32))))
theorem hinX10_flag_X10 : ∀ w ∈ u_ws RX10 TX10 24, w ∈ wsX10_flag := fun w h => List.mem_cons_of_mem _ (List.mem_append_right _ h)
theorem mX10_flag_1 : Cond.fieldLink RX10 19 "FlagWashModel" "now" "[I" ∈ wsX10_flag := List.mem_of_getElem? (i := 1) rfl
theorem mX10_flag_2 : Cond.fieldLink RX10 7 "FlagWashModel" "cloth" "[I" ∈ wsX10_flag := List.mem_of_getElem? (i := 2) rfl
theorem mX10_flag_3 : Cond.fieldLink RX10 13 "FlagWashModel" "washed" "[I" ∈ wsX10_flag := List.mem_of_getElem? (i := 3) rfl
theorem mX10_flag_4 : Cond.fieldLink RX10 16 "FlagWashModel" "hostile" "[I" ∈ wsX10_flag := List.mem_of_getElem? (i := 4) rfl
theorem hd_X10_flag : yX10_flag.cls ≠ "java/lang/invoke/MethodHandle" ∧ yX10_flag.cls ≠ "java/lang/invoke/VarHandle" ∧ (parseMethodDescriptor yX10_flag.desc).map (fun d => d.parameters.length) = some 2 := by decide +kernel
set_option maxHeartbeats 4000000 in
set_option maxRecDepth 100000 in
theorem kX10_flag {l : Launch} {D : va_G} {cyI cyZ cyW : ClassId} {zW zO : Nat} {md : Nat → Nat} {mflags : Int32} {mtubs : Int32} {mpegs : Int32} {mcl : (Nat → Int32)} {mws : (Nat → Int32)} {mho : (Nat → Int32)} {mnow : (Nat → Int32)} {mrd : (Nat → Int32)} {mrh : (Nat → Int32)} {mrf : Int32} {mtx : (Nat → Int32)} {mlen : Int32} {mat : Int32} {mfa : Int32} {mac : Int32} {mnx : Int32} {mrow : (Nat → Int32)} {msn : Int32} {mso : (Nat → Int32)} {msc : (Nat → Int32)} {msw : (Nat → Int32)} {mseed : Int64} {mik : (Nat → Int32)} {mkp : (Nat → Int32)} {x1 : Int32} {x2 : Int32} {res : Int32} (h : fX10_flag x1 x2 mflags mcl mws mho mnow = some res) : KI l yX10_flag wsX10_flag ({ frames := 2, cells := 0, slots := 0, locals := 46 } : Room) D (tyA cyI cyZ cyW) zW zO [.ref (md 0), .int x1, .int x2] (wMO cyI cyZ cyW md mflags mtubs mpegs mcl mws mho mnow mrd mrh mrf mtx mlen mat mfa mac mnx mrow msn mso msc msw mseed mik mkp) (wMO cyI cyZ cyW md mflags mtubs mpegs mcl mws mho mnow mrd mrh mrf mtx mlen mat mfa mac mnx mrow msn mso msc msw mseed mik mkp) res := by
  refine enterI (cc := cX10_flag) (nL := 3) (ret := (some .int)) (by decide) rfl (Nat.le_of_ble_eq_true rfl) (fun p e s m below meth c A C => ?_)
  refine r_lv (lv' := [(0, .ref (md 0)), (1, .int x1), (2, .int x2)]) [0, 1, 2] rfl ?_
  unfold fX10_flag at h
  refine r_aload_n C dX10_flag_0 0 rfl rfl ?_
  refine r_iload_n C dX10_flag_1 1 rfl rfl ?_
  obtain ⟨u1, hu1, h⟩ := ob_bind h
  refine r_readVI (q0 := 0) (As := [.int x1]) (rest := []) C (kX10_isFlag (md := md) (mflags := mflags) (mtubs := mtubs) (mpegs := mpegs) (mcl := mcl) (mws := mws) (mho := mho) (mnow := mnow) (mrd := mrd) (mrh := mrh) (mrf := mrf) (mtx := mtx) (mlen := mlen) (mat := mat) (mfa := mfa) (mac := mac) (mnx := mnx) (mrow := mrow) (msn := msn) (mso := mso) (msc := msc) (msw := msw) (mseed := mseed) (mik := mik) (mkp := mkp) (x1 := x1) hu1) gX10_flag_X10_isFlag rfl rfl rfl ⟨rfl, hd_X10_isFlag⟩ ⟨by decide, by decide⟩ rfl rfl rfl rfl [0, 1, 2, 3, 4, 5, 6, 7, 8, 9, 10, 11, 12, 13] (by decide) in_76 rfl (Nat.le_of_ble_eq_true rfl) dX10_flag_2 ⟨Nat.zero_le _, Nat.zero_le _⟩ ?_
  refine r_ifb_ne (tgt := 10) C dX10_flag_5 (by decide) (fun c2 => ?_) (fun c2 => ?_)
  · replace h := ob_t h c2
    refine r_iload_n C dX10_flag_10 2 rfl rfl ?_
    by_cases c3 : x2 = (0 : Int32)
    · replace h := ob_t h c3
      refine r_tsAt (tgt := 48) (off := 37) C (0 : Int32) c3 dX10_flag_11 (by decide) (by decide) (by decide) (by decide) ?_
      refine r_aload_n C dX10_flag_48 0 rfl rfl ?_
      refine r_get (ci := 7) (CC := RX10) (T := TX10) (N := 24) (v := .ref (md 4)) C hinX10_flag_X10 0 rfl rfl 6 (by decide) mX10_flag_1 rfl rfl dX10_flag_49 ?_
      refine r_iload_n C dX10_flag_52 1 rfl rfl ?_
      obtain ⟨hu4, h⟩ := ob_if h
      refine r_iald C 4 0 rfl rfl (inb_vp hu4) dX10_flag_53 ?_
      have h9 := Option.some.inj h
      subst h9
      exact r_iret C rfl dX10_flag_54
    replace h := ob_f h c3
    by_cases c5 : x2 = (1 : Int32)
    · replace h := ob_t h c5
      refine r_tsAt (tgt := 55) (off := 44) C (1 : Int32) c5 dX10_flag_11 (by decide) (by decide) (by decide) (by decide) ?_
      refine r_aload_n C dX10_flag_55 0 rfl rfl ?_
      refine r_get (ci := 7) (CC := RX10) (T := TX10) (N := 24) (v := .ref (md 1)) C hinX10_flag_X10 0 rfl rfl 3 (by decide) mX10_flag_2 rfl rfl dX10_flag_56 ?_
      refine r_iload_n C dX10_flag_59 1 rfl rfl ?_
      obtain ⟨hu6, h⟩ := ob_if h
      refine r_iald C 1 0 rfl rfl (inb_vp hu6) dX10_flag_60 ?_
      have h9 := Option.some.inj h
      subst h9
      exact r_iret C rfl dX10_flag_61
    replace h := ob_f h c5
    by_cases c7 : x2 = (2 : Int32)
    · replace h := ob_t h c7
      refine r_tsAt (tgt := 62) (off := 51) C (2 : Int32) c7 dX10_flag_11 (by decide) (by decide) (by decide) (by decide) ?_
      refine r_aload_n C dX10_flag_62 0 rfl rfl ?_
      refine r_get (ci := 7) (CC := RX10) (T := TX10) (N := 24) (v := .ref (md 2)) C hinX10_flag_X10 0 rfl rfl 4 (by decide) mX10_flag_3 rfl rfl dX10_flag_63 ?_
      refine r_iload_n C dX10_flag_66 1 rfl rfl ?_
      obtain ⟨hu8, h⟩ := ob_if h
      refine r_iald C 2 0 rfl rfl (inb_vp hu8) dX10_flag_67 ?_
      have h9 := Option.some.inj h
      subst h9
      exact r_iret C rfl dX10_flag_68
    replace h := ob_f h c7
    by_cases c9 : x2 = (3 : Int32)
    · replace h := ob_t h c9
      refine r_tsAt (tgt := 69) (off := 58) C (3 : Int32) c9 dX10_flag_11 (by decide) (by decide) (by decide) (by decide) ?_
      refine r_aload_n C dX10_flag_69 0 rfl rfl ?_
      refine r_get (ci := 7) (CC := RX10) (T := TX10) (N := 24) (v := .ref (md 4)) C hinX10_flag_X10 0 rfl rfl 6 (by decide) mX10_flag_1 rfl rfl dX10_flag_70 ?_
      refine r_iconst (v := 5) C dX10_flag_73 ic_5 ?_
      refine r_iload_n C dX10_flag_74 1 rfl rfl ?_
      refine r_iadd C dX10_flag_75 ?_
      obtain ⟨hu10, h⟩ := ob_if h
      refine r_iald C 4 0 rfl rfl (inb_vp hu10) dX10_flag_76 ?_
      have h9 := Option.some.inj h
      subst h9
      exact r_iret C rfl dX10_flag_77
    replace h := ob_f h c9
    by_cases c11 : x2 = (4 : Int32)
    · replace h := ob_t h c11
      refine r_tsAt (tgt := 78) (off := 67) C (4 : Int32) c11 dX10_flag_11 (by decide) (by decide) (by decide) (by decide) ?_
      refine r_aload_n C dX10_flag_78 0 rfl rfl ?_
      refine r_get (ci := 7) (CC := RX10) (T := TX10) (N := 24) (v := .ref (md 4)) C hinX10_flag_X10 0 rfl rfl 6 (by decide) mX10_flag_1 rfl rfl dX10_flag_79 ?_
      refine r_bipush (v := 10) C dX10_flag_82 bp_10 ?_
      refine r_iload_n C dX10_flag_84 1 rfl rfl ?_
      refine r_iadd C dX10_flag_85 ?_
      obtain ⟨hu12, h⟩ := ob_if h
      refine r_iald C 4 0 rfl rfl (inb_vp hu12) dX10_flag_86 ?_
      have h9 := Option.some.inj h
      subst h9
      exact r_iret C rfl dX10_flag_87
    replace h := ob_f h c11
    by_cases c13 : x2 = (5 : Int32)
    · replace h := ob_t h c13
      refine r_tsAt (tgt := 88) (off := 77) C (5 : Int32) c13 dX10_flag_11 (by decide) (by decide) (by decide) (by decide) ?_
      refine r_aload_n C dX10_flag_88 0 rfl rfl ?_
      refine r_get (ci := 7) (CC := RX10) (T := TX10) (N := 24) (v := .ref (md 3)) C hinX10_flag_X10 0 rfl rfl 5 (by decide) mX10_flag_4 rfl rfl dX10_flag_89 ?_
      refine r_iload_n C dX10_flag_92 1 rfl rfl ?_
      obtain ⟨hu14, h⟩ := ob_if h
      refine r_iald C 3 0 rfl rfl (inb_vp hu14) dX10_flag_93 ?_
      have h9 := Option.some.inj h
      subst h9
      exact r_iret C rfl dX10_flag_94
    replace h := ob_f h c13
    refine r_tsOut (tgt := 95) C dX10_flag_11 (ts_out 0 5 (by decide) (fun k hk1 hk2 => by rcases (show k = 0 ∨ k = 1 ∨ k = 2 ∨ k = 3 ∨ k = 4 ∨ k = 5 by omega) with rfl | rfl | rfl | rfl | rfl | rfl <;> first | exact c3 | exact c5 | exact c7 | exact c9 | exact c11 | exact c13)) (by decide) ?_
    refine r_bipush (v := -2) C dX10_flag_95 bp_m2 ?_
    have h9 := Option.some.inj h
    subst h9
    exact r_iret C rfl dX10_flag_97
  · replace h := ob_bf h c2
    refine r_iconst (v := -1) C dX10_flag_8 ic_m1 ?_
    have h9 := Option.some.inj h
    subst h9
    exact r_iret C rfl dX10_flag_9

/-! ===== FlagWashModel.keepAct ===== -/
def gX10_keepAct_2 (rec2 : Int32 → (Nat → Int32) → Option (Int32 × Int32 × (Nat → Int32))) (x1 : Int32) (mnow : (Nat → Int32)) (mac : Int32) (mnx : Int32) (mrow : (Nat → Int32)) : Option (Int32 × Int32 × (Nat → Int32)) :=
 (if (17 : Int32) ≤ x1 then (if (14 : Int32) ≤ mac then (some ((14 : Int32), (jrem (mnx + (1 : Int32)) (14 : Int32)), mrow))
 else (some ((mac + (1 : Int32)), (jrem (mnx + (1 : Int32)) (14 : Int32)), mrow)))
 else (if inb x1 34 = true then (if inb (((17 : Int32) * mnx) + x1) 238 = true then (rec2 (x1 + (1 : Int32)) (upd mrow (((17 : Int32) * mnx) + x1).toNatClampNeg (mnow x1.toNatClampNeg))) else none) else none))
def fX10_keepAct_2  (mnow : (Nat → Int32)) (mac : Int32) (mnx : Int32) : Nat → Int32 → (Nat → Int32) → Option (Int32 × Int32 × (Nat → Int32))
  | 0 => fun _ _ => none
  | n + 1 => fun x1 mrow => gX10_keepAct_2 (fX10_keepAct_2  mnow mac mnx n) x1 mnow mac mnx mrow
def fX10_keepAct  (mnow : (Nat → Int32)) (mac : Int32) (mnx : Int32) (mrow : (Nat → Int32)) : Option (Int32 × Int32 × (Nat → Int32)) :=
 (fX10_keepAct_2  mnow mac mnx FU (0 : Int32) mrow)
theorem hinX10_keepAct_X10 : ∀ w ∈ u_ws RX10 TX10 24, w ∈ wsX10_keepAct := fun w h => List.mem_cons_of_mem _ (List.mem_append_right _ h)
theorem mX10_keepAct_2 : Cond.fieldLink RX10 130 "FlagWashModel" "next" "I" ∈ wsX10_keepAct := List.mem_of_getElem? (i := 2) rfl
theorem mX10_keepAct_4 : Cond.fieldLink RX10 104 "FlagWashModel" "acts" "I" ∈ wsX10_keepAct := List.mem_of_getElem? (i := 4) rfl
theorem mX10_keepAct_1 : Cond.fieldLink RX10 31 "FlagWashModel" "row" "[I" ∈ wsX10_keepAct := List.mem_of_getElem? (i := 1) rfl
theorem mX10_keepAct_3 : Cond.fieldLink RX10 19 "FlagWashModel" "now" "[I" ∈ wsX10_keepAct := List.mem_of_getElem? (i := 3) rfl
theorem hd_X10_keepAct : yX10_keepAct.cls ≠ "java/lang/invoke/MethodHandle" ∧ yX10_keepAct.cls ≠ "java/lang/invoke/VarHandle" ∧ (parseMethodDescriptor yX10_keepAct.desc).map (fun d => d.parameters.length) = some 0 := by decide +kernel
set_option maxHeartbeats 4000000 in
set_option maxRecDepth 100000 in
theorem LGX10_keepAct_2 {p : Program} {l : Launch} {e : Env} {s : State} {m : MethodId} {args : Array Value} {below : List Frame} {meth : Method} {c : Code} {D : va_G} {cyI cyZ cyW : ClassId} {zW zO : Nat} {A : Nat → Prop} (C : Cx p s m args meth c cX10_keepAct RX10 "keepAct" wsX10_keepAct none 2 D (tyA cyI cyZ cyW) zW zO A) {md : Nat → Nat} {mflags : Int32} {mtubs : Int32} {mpegs : Int32} {mcl : (Nat → Int32)} {mws : (Nat → Int32)} {mho : (Nat → Int32)} {mnow : (Nat → Int32)} {mrd : (Nat → Int32)} {mrh : (Nat → Int32)} {mrf : Int32} {mtx : (Nat → Int32)} {mlen : Int32} {mat : Int32} {mfa : Int32} {mac : Int32} {mnx : Int32} {mrow : (Nat → Int32)} {msn : Int32} {mso : (Nat → Int32)} {msc : (Nat → Int32)} {msw : (Nat → Int32)} {mseed : Int64} {mik : (Nat → Int32)} {mkp : (Nat → Int32)} {x1 : Int32} {rec2 : Int32 → (Nat → Int32) → Option (Int32 × Int32 × (Nat → Int32))} {res : Int32 × Int32 × (Nat → Int32)} (hrec2 : ∀ (x1 : Int32) (mrow : (Nat → Int32)), rec2 x1 mrow = some res → Mx p l e ({ frames := 0, cells := 0, slots := 0, locals := 0 } : Room) s m args below meth c (MQ below (QV D (tyA cyI cyZ cyW) A (wMO cyI cyZ cyW md mflags mtubs mpegs mcl mws mho mnow mrd mrh mrf mtx mlen mat mfa res.1 res.2.1 res.2.2 msn mso msc msw mseed mik mkp)) args s 0 0 A) 2 D A 0 0 (wMO cyI cyZ cyW md mflags mtubs mpegs mcl mws mho mnow mrd mrh mrf mtx mlen mat mfa mac mnx mrow msn mso msc msw mseed mik mkp) 2 [(0, .ref (md 0)), (1, .int x1)] []) (h : gX10_keepAct_2 rec2 x1 mnow mac mnx mrow = some res) : Mx p l e ({ frames := 0, cells := 0, slots := 0, locals := 0 } : Room) s m args below meth c (MQ below (QV D (tyA cyI cyZ cyW) A (wMO cyI cyZ cyW md mflags mtubs mpegs mcl mws mho mnow mrd mrh mrf mtx mlen mat mfa res.1 res.2.1 res.2.2 msn mso msc msw mseed mik mkp)) args s 0 0 A) 2 D A 0 0 (wMO cyI cyZ cyW md mflags mtubs mpegs mcl mws mho mnow mrd mrh mrf mtx mlen mat mfa mac mnx mrow msn mso msc msw mseed mik mkp) 2 [(0, .ref (md 0)), (1, .int x1)] [] := by
  unfold gX10_keepAct_2 at h
  refine r_iload_n C dX10_keepAct_2 1 rfl rfl ?_
  refine r_bipush (v := 17) C dX10_keepAct_3 bp_17 ?_
  refine r_icmp_ge (tgt := 34) C dX10_keepAct_5 (by decide) (fun c1 => ?_) (fun c1 => ?_)
  · replace h := ob_t h c1
    refine r_aload_n C dX10_keepAct_34 0 rfl rfl ?_
    refine r_aload_n C dX10_keepAct_35 0 rfl rfl ?_
    refine r_get (ci := 7) (CC := RX10) (T := TX10) (N := 24) (v := .int mnx) C hinX10_keepAct_X10 0 rfl rfl 15 (by decide) mX10_keepAct_2 rfl rfl dX10_keepAct_36 ?_
    refine r_iconst (v := 1) C dX10_keepAct_39 ic_1 ?_
    refine r_iadd C dX10_keepAct_40 ?_
    refine r_bipush (v := 14) C dX10_keepAct_41 bp_14 ?_
    refine r_irem C dX10_keepAct_43 (by decide) ?_
    refine r_put (ci := 7) (CC := RX10) (T := TX10) (N := 24) (v := .int (jrem (mnx + (1 : Int32)) (14 : Int32))) (ws1 := (wMO cyI cyZ cyW md mflags mtubs mpegs mcl mws mho mnow mrd mrh mrf mtx mlen mat mfa mac (jrem (mnx + (1 : Int32)) (14 : Int32)) mrow msn mso msc msw mseed mik mkp)) (ty := .int) C hinX10_keepAct_X10 tyX10 tyX10_ok nmX10 0 rfl rfl 15 (by decide) mX10_keepAct_2 rfl rfl rfl rfl rfl (Nat.le_of_ble_eq_true rfl) rfl dX10_keepAct_44 ?_
    refine r_aload_n C dX10_keepAct_47 0 rfl rfl ?_
    refine r_aload_n C dX10_keepAct_48 0 rfl rfl ?_
    refine r_get (ci := 7) (CC := RX10) (T := TX10) (N := 24) (v := .int mac) C hinX10_keepAct_X10 0 rfl rfl 14 (by decide) mX10_keepAct_4 rfl rfl dX10_keepAct_49 ?_
    refine r_bipush (v := 14) C dX10_keepAct_52 bp_14 ?_
    refine r_icmp_ge (tgt := 66) C dX10_keepAct_54 (by decide) (fun c2 => ?_) (fun c2 => ?_)
    · replace h := ob_t h c2
      refine r_bipush (v := 14) C dX10_keepAct_66 bp_14 ?_
      refine r_put (ci := 7) (CC := RX10) (T := TX10) (N := 24) (v := .int (14 : Int32)) (ws1 := (wMO cyI cyZ cyW md mflags mtubs mpegs mcl mws mho mnow mrd mrh mrf mtx mlen mat mfa (14 : Int32) (jrem (mnx + (1 : Int32)) (14 : Int32)) mrow msn mso msc msw mseed mik mkp)) (ty := .int) C hinX10_keepAct_X10 tyX10 tyX10_ok nmX10 0 rfl rfl 14 (by decide) mX10_keepAct_4 rfl rfl rfl rfl rfl (Nat.le_of_ble_eq_true rfl) rfl dX10_keepAct_68 ?_
      have h9 := Option.some.inj h
      subst h9
      exact r_vret C rfl dX10_keepAct_71
    · replace h := ob_f h c2
      refine r_aload_n C dX10_keepAct_57 0 rfl rfl ?_
      refine r_get (ci := 7) (CC := RX10) (T := TX10) (N := 24) (v := .int mac) C hinX10_keepAct_X10 0 rfl rfl 14 (by decide) mX10_keepAct_4 rfl rfl dX10_keepAct_58 ?_
      refine r_iconst (v := 1) C dX10_keepAct_61 ic_1 ?_
      refine r_iadd C dX10_keepAct_62 ?_
      refine r_goto (tgt := 68) C dX10_keepAct_63 (by decide) ?_
      refine r_put (ci := 7) (CC := RX10) (T := TX10) (N := 24) (v := .int (mac + (1 : Int32))) (ws1 := (wMO cyI cyZ cyW md mflags mtubs mpegs mcl mws mho mnow mrd mrh mrf mtx mlen mat mfa (mac + (1 : Int32)) (jrem (mnx + (1 : Int32)) (14 : Int32)) mrow msn mso msc msw mseed mik mkp)) (ty := .int) C hinX10_keepAct_X10 tyX10 tyX10_ok nmX10 0 rfl rfl 14 (by decide) mX10_keepAct_4 rfl rfl rfl rfl rfl (Nat.le_of_ble_eq_true rfl) rfl dX10_keepAct_68 ?_
      have h9 := Option.some.inj h
      subst h9
      exact r_vret C rfl dX10_keepAct_71
  · replace h := ob_f h c1
    refine r_aload_n C dX10_keepAct_8 0 rfl rfl ?_
    refine r_get (ci := 7) (CC := RX10) (T := TX10) (N := 24) (v := .ref (md 8)) C hinX10_keepAct_X10 0 rfl rfl 16 (by decide) mX10_keepAct_1 rfl rfl dX10_keepAct_9 ?_
    refine r_bipush (v := 17) C dX10_keepAct_12 bp_17 ?_
    refine r_aload_n C dX10_keepAct_14 0 rfl rfl ?_
    refine r_get (ci := 7) (CC := RX10) (T := TX10) (N := 24) (v := .int mnx) C hinX10_keepAct_X10 0 rfl rfl 15 (by decide) mX10_keepAct_2 rfl rfl dX10_keepAct_15 ?_
    refine r_imul C dX10_keepAct_18 ?_
    refine r_iload_n C dX10_keepAct_19 1 rfl rfl ?_
    refine r_iadd C dX10_keepAct_20 ?_
    refine r_aload_n C dX10_keepAct_21 0 rfl rfl ?_
    refine r_get (ci := 7) (CC := RX10) (T := TX10) (N := 24) (v := .ref (md 4)) C hinX10_keepAct_X10 0 rfl rfl 6 (by decide) mX10_keepAct_3 rfl rfl dX10_keepAct_22 ?_
    refine r_iload_n C dX10_keepAct_25 1 rfl rfl ?_
    obtain ⟨hu3, h⟩ := ob_if h
    refine r_iald C 4 0 rfl rfl (inb_vp hu3) dX10_keepAct_26 ?_
    obtain ⟨hu4, h⟩ := ob_if h
    refine r_iast (ws1 := (wMO cyI cyZ cyW md mflags mtubs mpegs mcl mws mho mnow mrd mrh mrf mtx mlen mat mfa mac mnx (upd mrow (((17 : Int32) * mnx) + x1).toNatClampNeg (mnow x1.toNatClampNeg)) msn mso msc msw mseed mik mkp)) C 8 0 rfl rfl (inb_vp hu4) rfl dX10_keepAct_27 ?_
    refine r_iinc (v := 1) (lv' := [(1, .int (x1 + (1 : Int32))), (0, .ref (md 0))]) C dX10_keepAct_28 1 rfl ic_1 (by decide) rfl ?_
    refine r_goto (tgt := 2) C dX10_keepAct_31 (by decide) ?_
    refine r_lv (lv' := [(0, .ref (md 0)), (1, .int (x1 + (1 : Int32)))]) [1, 0] rfl ?_
    exact hrec2 (x1 + (1 : Int32)) (upd mrow (((17 : Int32) * mnx) + x1).toNatClampNeg (mnow x1.toNatClampNeg)) h
set_option maxHeartbeats 4000000 in
set_option maxRecDepth 100000 in
theorem LX10_keepAct_2 {p : Program} {l : Launch} {e : Env} {s : State} {m : MethodId} {args : Array Value} {below : List Frame} {meth : Method} {c : Code} {D : va_G} {cyI cyZ cyW : ClassId} {zW zO : Nat} {A : Nat → Prop} (C : Cx p s m args meth c cX10_keepAct RX10 "keepAct" wsX10_keepAct none 2 D (tyA cyI cyZ cyW) zW zO A) {md : Nat → Nat} {mflags : Int32} {mtubs : Int32} {mpegs : Int32} {mcl : (Nat → Int32)} {mws : (Nat → Int32)} {mho : (Nat → Int32)} {mnow : (Nat → Int32)} {mrd : (Nat → Int32)} {mrh : (Nat → Int32)} {mrf : Int32} {mtx : (Nat → Int32)} {mlen : Int32} {mat : Int32} {mfa : Int32} {mac : Int32} {mnx : Int32} {msn : Int32} {mso : (Nat → Int32)} {msc : (Nat → Int32)} {msw : (Nat → Int32)} {mseed : Int64} {mik : (Nat → Int32)} {mkp : (Nat → Int32)}  {res : Int32 × Int32 × (Nat → Int32)}  : ∀ (n : Nat) (x1 : Int32) (mrow : (Nat → Int32)), fX10_keepAct_2  mnow mac mnx n x1 mrow = some res → Mx p l e ({ frames := 0, cells := 0, slots := 0, locals := 0 } : Room) s m args below meth c (MQ below (QV D (tyA cyI cyZ cyW) A (wMO cyI cyZ cyW md mflags mtubs mpegs mcl mws mho mnow mrd mrh mrf mtx mlen mat mfa res.1 res.2.1 res.2.2 msn mso msc msw mseed mik mkp)) args s 0 0 A) 2 D A 0 0 (wMO cyI cyZ cyW md mflags mtubs mpegs mcl mws mho mnow mrd mrh mrf mtx mlen mat mfa mac mnx mrow msn mso msc msw mseed mik mkp) 2 [(0, .ref (md 0)), (1, .int x1)] [] := by
  intro n
  induction n with
  | zero => intro x1 mrow h; cases h
  | succ n ih => intro x1 mrow h; exact LGX10_keepAct_2 C ih h
set_option maxHeartbeats 4000000 in
set_option maxRecDepth 100000 in
theorem kX10_keepAct {l : Launch} {D : va_G} {cyI cyZ cyW : ClassId} {zW zO : Nat} {md : Nat → Nat} {mflags : Int32} {mtubs : Int32} {mpegs : Int32} {mcl : (Nat → Int32)} {mws : (Nat → Int32)} {mho : (Nat → Int32)} {mnow : (Nat → Int32)} {mrd : (Nat → Int32)} {mrh : (Nat → Int32)} {mrf : Int32} {mtx : (Nat → Int32)} {mlen : Int32} {mat : Int32} {mfa : Int32} {mac : Int32} {mnx : Int32} {mrow : (Nat → Int32)} {msn : Int32} {mso : (Nat → Int32)} {msc : (Nat → Int32)} {msw : (Nat → Int32)} {mseed : Int64} {mik : (Nat → Int32)} {mkp : (Nat → Int32)}  {res : Int32 × Int32 × (Nat → Int32)} (h : fX10_keepAct mnow mac mnx mrow = some res) : KV l yX10_keepAct wsX10_keepAct ({ frames := 0, cells := 0, slots := 0, locals := 0 } : Room) D (tyA cyI cyZ cyW) zW zO [.ref (md 0)] (wMO cyI cyZ cyW md mflags mtubs mpegs mcl mws mho mnow mrd mrh mrf mtx mlen mat mfa mac mnx mrow msn mso msc msw mseed mik mkp) (wMO cyI cyZ cyW md mflags mtubs mpegs mcl mws mho mnow mrd mrh mrf mtx mlen mat mfa res.1 res.2.1 res.2.2 msn mso msc msw mseed mik mkp) := by
  refine enterV (cc := cX10_keepAct) (nL := 2) (ret := none) (by decide) rfl (Nat.le_of_ble_eq_true rfl) (fun p e s m below meth c A C => ?_)
  refine r_lv (lv' := [(0, .ref (md 0))]) [0] rfl ?_
  unfold fX10_keepAct at h
  refine r_iconst (v := 0) C dX10_keepAct_0 ic_0 ?_
  refine r_istore_n (lv' := [(1, .int (0 : Int32)), (0, .ref (md 0))]) C dX10_keepAct_1 rfl (by decide) rfl ?_
  refine r_lv (lv' := [(0, .ref (md 0)), (1, .int (0 : Int32))]) [1, 0] rfl ?_
  exact LX10_keepAct_2 C (mflags := mflags) (mtubs := mtubs) (mpegs := mpegs) (mcl := mcl) (mws := mws) (mho := mho) (mnow := mnow) (mrd := mrd) (mrh := mrh) (mrf := mrf) (mtx := mtx) (mlen := mlen) (mat := mat) (mfa := mfa) (mac := mac) (mnx := mnx) (msn := msn) (mso := mso) (msc := msc) (msw := msw) (mseed := mseed) (mik := mik) (mkp := mkp)  FU (0 : Int32) mrow h

/-! ===== FlagWashModel.send ===== -/
def fX10_send  (x1 : Int32) (mflags : Int32) (mtubs : Int32) (mpegs : Int32) (mws : (Nat → Int32)) (mnow : (Nat → Int32)) (mac : Int32) (mnx : Int32) (mrow : (Nat → Int32)) : Option (Int32 × (Nat → Int32) × Int32 × Int32 × (Nat → Int32)) :=
 ((fX10_isFlag x1 mflags).bind fun u1 => (if u1 = true then ((fX10_canSend (0 : Int32) x1 mflags mtubs mpegs mnow).bind fun u3 => (if u3 = true then ((fX10_keepAct mnow mac mnx mrow).bind fun u5 => ((fX10_sendOn (0 : Int32) x1 mws mnow).bind fun u6 => ((fX10_free (0 : Int32) (1 : Int32) mflags mtubs mpegs u6).bind fun u7 => (some (u7, u6, u5.1, u5.2.1, u5.2.2)))))
 else (some ((-3 : Int32), mnow, mac, mnx, mrow))))
 else (some ((-1 : Int32), mnow, mac, mnx, mrow))))
theorem hd_X10_send : yX10_send.cls ≠ "java/lang/invoke/MethodHandle" ∧ yX10_send.cls ≠ "java/lang/invoke/VarHandle" ∧ (parseMethodDescriptor yX10_send.desc).map (fun d => d.parameters.length) = some 1 := by decide +kernel
set_option maxHeartbeats 4000000 in
set_option maxRecDepth 100000 in
theorem kX10_send {l : Launch} {D : va_G} {cyI cyZ cyW : ClassId} {zW zO : Nat} {md : Nat → Nat} {mflags : Int32} {mtubs : Int32} {mpegs : Int32} {mcl : (Nat → Int32)} {mws : (Nat → Int32)} {mho : (Nat → Int32)} {mnow : (Nat → Int32)} {mrd : (Nat → Int32)} {mrh : (Nat → Int32)} {mrf : Int32} {mtx : (Nat → Int32)} {mlen : Int32} {mat : Int32} {mfa : Int32} {mac : Int32} {mnx : Int32} {mrow : (Nat → Int32)} {msn : Int32} {mso : (Nat → Int32)} {msc : (Nat → Int32)} {msw : (Nat → Int32)} {mseed : Int64} {mik : (Nat → Int32)} {mkp : (Nat → Int32)} {x1 : Int32} {res : Int32 × (Nat → Int32) × Int32 × Int32 × (Nat → Int32)} (h : fX10_send x1 mflags mtubs mpegs mws mnow mac mnx mrow = some res) : KI l yX10_send wsX10_send ({ frames := 3, cells := 0, slots := 0, locals := 68 } : Room) D (tyA cyI cyZ cyW) zW zO [.ref (md 0), .int x1] (wMO cyI cyZ cyW md mflags mtubs mpegs mcl mws mho mnow mrd mrh mrf mtx mlen mat mfa mac mnx mrow msn mso msc msw mseed mik mkp) (wMO cyI cyZ cyW md mflags mtubs mpegs mcl mws mho res.2.1 mrd mrh mrf mtx mlen mat mfa res.2.2.1 res.2.2.2.1 res.2.2.2.2 msn mso msc msw mseed mik mkp) res.1 := by
  refine enterI (cc := cX10_send) (nL := 2) (ret := (some .int)) (by decide) rfl (Nat.le_of_ble_eq_true rfl) (fun p e s m below meth c A C => ?_)
  refine r_lv (lv' := [(0, .ref (md 0)), (1, .int x1)]) [0, 1] rfl ?_
  unfold fX10_send at h
  refine r_aload_n C dX10_send_0 0 rfl rfl ?_
  refine r_iload_n C dX10_send_1 1 rfl rfl ?_
  obtain ⟨u1, hu1, h⟩ := ob_bind h
  refine r_readVI (q0 := 0) (As := [.int x1]) (rest := []) C (kX10_isFlag (md := md) (mflags := mflags) (mtubs := mtubs) (mpegs := mpegs) (mcl := mcl) (mws := mws) (mho := mho) (mnow := mnow) (mrd := mrd) (mrh := mrh) (mrf := mrf) (mtx := mtx) (mlen := mlen) (mat := mat) (mfa := mfa) (mac := mac) (mnx := mnx) (mrow := mrow) (msn := msn) (mso := mso) (msc := msc) (msw := msw) (mseed := mseed) (mik := mik) (mkp := mkp) (x1 := x1) hu1) gX10_send_X10_isFlag rfl rfl rfl ⟨rfl, hd_X10_isFlag⟩ ⟨by decide, by decide⟩ rfl rfl rfl rfl [0, 1, 2, 3, 4, 5, 6, 7, 8, 9, 10, 11, 12, 13] (by decide) in_76 rfl (Nat.le_of_ble_eq_true rfl) dX10_send_2 ⟨Nat.zero_le _, Nat.zero_le _⟩ ?_
  refine r_ifb_ne (tgt := 10) C dX10_send_5 (by decide) (fun c2 => ?_) (fun c2 => ?_)
  · replace h := ob_t h c2
    refine r_aload_n C dX10_send_10 0 rfl rfl ?_
    refine r_iconst (v := 0) C dX10_send_11 ic_0 ?_
    refine r_iload_n C dX10_send_12 1 rfl rfl ?_
    obtain ⟨u3, hu3, h⟩ := ob_bind h
    refine r_readVI (q0 := 0) (As := [.int (0 : Int32), .int x1]) (rest := []) C (kX10_canSend (md := md) (mflags := mflags) (mtubs := mtubs) (mpegs := mpegs) (mcl := mcl) (mws := mws) (mho := mho) (mnow := mnow) (mrd := mrd) (mrh := mrh) (mrf := mrf) (mtx := mtx) (mlen := mlen) (mat := mat) (mfa := mfa) (mac := mac) (mnx := mnx) (mrow := mrow) (msn := msn) (mso := mso) (msc := msc) (msw := msw) (mseed := mseed) (mik := mik) (mkp := mkp) (x1 := (0 : Int32)) (x2 := x1) hu3) gX10_send_X10_canSend rfl rfl rfl ⟨rfl, hd_X10_canSend⟩ ⟨by decide, by decide⟩ rfl rfl rfl rfl [0, 1, 2, 3, 4, 5, 6, 7, 8, 9, 10, 11, 12, 13] (by decide) in_76 rfl (Nat.le_of_ble_eq_true rfl) dX10_send_13 ⟨Nat.zero_le _, Nat.zero_le _⟩ ?_
    refine r_ifb_ne (tgt := 22) C dX10_send_16 (by decide) (fun c4 => ?_) (fun c4 => ?_)
    · replace h := ob_t h c4
      refine r_aload_n C dX10_send_22 0 rfl rfl ?_
      obtain ⟨u5, hu5, h⟩ := ob_bind h
      refine r_callVV (q0 := 0) (As := []) (rest := []) (ws1 := (wMO cyI cyZ cyW md mflags mtubs mpegs mcl mws mho mnow mrd mrh mrf mtx mlen mat mfa u5.1 u5.2.1 u5.2.2 msn mso msc msw mseed mik mkp)) C (kX10_keepAct (md := md) (mflags := mflags) (mtubs := mtubs) (mpegs := mpegs) (mcl := mcl) (mws := mws) (mho := mho) (mnow := mnow) (mrd := mrd) (mrh := mrh) (mrf := mrf) (mtx := mtx) (mlen := mlen) (mat := mat) (mfa := mfa) (mac := mac) (mnx := mnx) (mrow := mrow) (msn := msn) (mso := mso) (msc := msc) (msw := msw) (mseed := mseed) (mik := mik) (mkp := mkp)  hu5) gX10_send_X10_keepAct rfl rfl rfl ⟨rfl, hd_X10_keepAct⟩ ⟨by decide, by decide⟩ rfl rfl rfl rfl [0, 1, 2, 3, 4, 5, 6, 7, 8, 9, 10, 11, 12, 13] (by decide) in_80 se_80 (adrMO.trans adrMO.symm) rfl (Nat.le_of_ble_eq_true rfl) dX10_send_23 ⟨Nat.zero_le _, Nat.zero_le _⟩ ?_
      refine r_aload_n C dX10_send_26 0 rfl rfl ?_
      refine r_iconst (v := 0) C dX10_send_27 ic_0 ?_
      refine r_iload_n C dX10_send_28 1 rfl rfl ?_
      obtain ⟨u6, hu6, h⟩ := ob_bind h
      refine r_callVV (q0 := 0) (As := [.int (0 : Int32), .int x1]) (rest := []) (ws1 := (wMO cyI cyZ cyW md mflags mtubs mpegs mcl mws mho u6 mrd mrh mrf mtx mlen mat mfa u5.1 u5.2.1 u5.2.2 msn mso msc msw mseed mik mkp)) C (kX10_sendOn (md := md) (mflags := mflags) (mtubs := mtubs) (mpegs := mpegs) (mcl := mcl) (mws := mws) (mho := mho) (mnow := mnow) (mrd := mrd) (mrh := mrh) (mrf := mrf) (mtx := mtx) (mlen := mlen) (mat := mat) (mfa := mfa) (mac := u5.1) (mnx := u5.2.1) (mrow := u5.2.2) (msn := msn) (mso := mso) (msc := msc) (msw := msw) (mseed := mseed) (mik := mik) (mkp := mkp) (x1 := (0 : Int32)) (x2 := x1) hu6) gX10_send_X10_sendOn rfl rfl rfl ⟨rfl, hd_X10_sendOn⟩ ⟨by decide, by decide⟩ rfl rfl rfl rfl [0, 1, 2, 3, 4, 5, 6, 7, 8, 9, 10, 11, 12, 13] (by decide) in_79 se_79 (adrMO.trans adrMO.symm) rfl (Nat.le_of_ble_eq_true rfl) dX10_send_29 ⟨Nat.zero_le _, Nat.zero_le _⟩ ?_
      refine r_aload_n C dX10_send_32 0 rfl rfl ?_
      refine r_iconst (v := 0) C dX10_send_33 ic_0 ?_
      refine r_iconst (v := 1) C dX10_send_34 ic_1 ?_
      obtain ⟨u7, hu7, h⟩ := ob_bind h
      refine r_readVI (q0 := 0) (As := [.int (0 : Int32), .int (1 : Int32)]) (rest := []) C (kX10_free (md := md) (mflags := mflags) (mtubs := mtubs) (mpegs := mpegs) (mcl := mcl) (mws := mws) (mho := mho) (mnow := u6) (mrd := mrd) (mrh := mrh) (mrf := mrf) (mtx := mtx) (mlen := mlen) (mat := mat) (mfa := mfa) (mac := u5.1) (mnx := u5.2.1) (mrow := u5.2.2) (msn := msn) (mso := mso) (msc := msc) (msw := msw) (mseed := mseed) (mik := mik) (mkp := mkp) (x1 := (0 : Int32)) (x2 := (1 : Int32)) hu7) gX10_send_X10_free rfl rfl rfl ⟨rfl, hd_X10_free⟩ ⟨by decide, by decide⟩ rfl rfl rfl rfl [0, 1, 2, 3, 4, 5, 6, 7, 8, 9, 10, 11, 12, 13] (by decide) in_76 rfl (Nat.le_of_ble_eq_true rfl) dX10_send_35 ⟨Nat.zero_le _, Nat.zero_le _⟩ ?_
      have h9 := Option.some.inj h
      subst h9
      exact r_iret C rfl dX10_send_38
    · replace h := ob_bf h c4
      refine r_bipush (v := -3) C dX10_send_19 bp_m3 ?_
      have h9 := Option.some.inj h
      subst h9
      exact r_iret C rfl dX10_send_21
  · replace h := ob_bf h c2
    refine r_iconst (v := -1) C dX10_send_8 ic_m1 ?_
    have h9 := Option.some.inj h
    subst h9
    exact r_iret C rfl dX10_send_9

/-! ===== FlagWashModel.pullOn ===== -/
def fX10_pullOn  (x1 : Int32) (x2 : Int32) (mnow : (Nat → Int32)) : Option ((Nat → Int32)) :=
 (if inb ((((17 : Int32) * x1) + (5 : Int32)) + x2) 34 = true then (if inb ((((17 : Int32) * x1) + (10 : Int32)) + x2) 34 = true then (some (upd (upd mnow ((((17 : Int32) * x1) + (5 : Int32)) + x2).toNatClampNeg (0 : Int32)) ((((17 : Int32) * x1) + (10 : Int32)) + x2).toNatClampNeg (0 : Int32))) else none) else none)
theorem hinX10_pullOn_X10 : ∀ w ∈ u_ws RX10 TX10 24, w ∈ wsX10_pullOn := fun w h => List.mem_cons_of_mem _ (List.mem_append_right _ h)
theorem mX10_pullOn_1 : Cond.fieldLink RX10 19 "FlagWashModel" "now" "[I" ∈ wsX10_pullOn := List.mem_of_getElem? (i := 1) rfl
theorem hd_X10_pullOn : yX10_pullOn.cls ≠ "java/lang/invoke/MethodHandle" ∧ yX10_pullOn.cls ≠ "java/lang/invoke/VarHandle" ∧ (parseMethodDescriptor yX10_pullOn.desc).map (fun d => d.parameters.length) = some 2 := by decide +kernel
set_option maxHeartbeats 4000000 in
set_option maxRecDepth 100000 in
theorem kX10_pullOn {l : Launch} {D : va_G} {cyI cyZ cyW : ClassId} {zW zO : Nat} {md : Nat → Nat} {mflags : Int32} {mtubs : Int32} {mpegs : Int32} {mcl : (Nat → Int32)} {mws : (Nat → Int32)} {mho : (Nat → Int32)} {mnow : (Nat → Int32)} {mrd : (Nat → Int32)} {mrh : (Nat → Int32)} {mrf : Int32} {mtx : (Nat → Int32)} {mlen : Int32} {mat : Int32} {mfa : Int32} {mac : Int32} {mnx : Int32} {mrow : (Nat → Int32)} {msn : Int32} {mso : (Nat → Int32)} {msc : (Nat → Int32)} {msw : (Nat → Int32)} {mseed : Int64} {mik : (Nat → Int32)} {mkp : (Nat → Int32)} {x1 : Int32} {x2 : Int32} {res : (Nat → Int32)} (h : fX10_pullOn x1 x2 mnow = some res) : KV l yX10_pullOn wsX10_pullOn ({ frames := 0, cells := 0, slots := 0, locals := 0 } : Room) D (tyA cyI cyZ cyW) zW zO [.ref (md 0), .int x1, .int x2] (wMO cyI cyZ cyW md mflags mtubs mpegs mcl mws mho mnow mrd mrh mrf mtx mlen mat mfa mac mnx mrow msn mso msc msw mseed mik mkp) (wMO cyI cyZ cyW md mflags mtubs mpegs mcl mws mho res mrd mrh mrf mtx mlen mat mfa mac mnx mrow msn mso msc msw mseed mik mkp) := by
  refine enterV (cc := cX10_pullOn) (nL := 3) (ret := none) (by decide) rfl (Nat.le_of_ble_eq_true rfl) (fun p e s m below meth c A C => ?_)
  refine r_lv (lv' := [(0, .ref (md 0)), (1, .int x1), (2, .int x2)]) [0, 1, 2] rfl ?_
  unfold fX10_pullOn at h
  refine r_aload_n C dX10_pullOn_0 0 rfl rfl ?_
  refine r_get (ci := 7) (CC := RX10) (T := TX10) (N := 24) (v := .ref (md 4)) C hinX10_pullOn_X10 0 rfl rfl 6 (by decide) mX10_pullOn_1 rfl rfl dX10_pullOn_1 ?_
  refine r_bipush (v := 17) C dX10_pullOn_4 bp_17 ?_
  refine r_iload_n C dX10_pullOn_6 1 rfl rfl ?_
  refine r_imul C dX10_pullOn_7 ?_
  refine r_iconst (v := 5) C dX10_pullOn_8 ic_5 ?_
  refine r_iadd C dX10_pullOn_9 ?_
  refine r_iload_n C dX10_pullOn_10 2 rfl rfl ?_
  refine r_iadd C dX10_pullOn_11 ?_
  refine r_iconst (v := 0) C dX10_pullOn_12 ic_0 ?_
  obtain ⟨hu1, h⟩ := ob_if h
  refine r_iast (ws1 := (wMO cyI cyZ cyW md mflags mtubs mpegs mcl mws mho (upd mnow ((((17 : Int32) * x1) + (5 : Int32)) + x2).toNatClampNeg (0 : Int32)) mrd mrh mrf mtx mlen mat mfa mac mnx mrow msn mso msc msw mseed mik mkp)) C 4 0 rfl rfl (inb_vp hu1) rfl dX10_pullOn_13 ?_
  refine r_aload_n C dX10_pullOn_14 0 rfl rfl ?_
  refine r_get (ci := 7) (CC := RX10) (T := TX10) (N := 24) (v := .ref (md 4)) C hinX10_pullOn_X10 0 rfl rfl 6 (by decide) mX10_pullOn_1 rfl rfl dX10_pullOn_15 ?_
  refine r_bipush (v := 17) C dX10_pullOn_18 bp_17 ?_
  refine r_iload_n C dX10_pullOn_20 1 rfl rfl ?_
  refine r_imul C dX10_pullOn_21 ?_
  refine r_bipush (v := 10) C dX10_pullOn_22 bp_10 ?_
  refine r_iadd C dX10_pullOn_24 ?_
  refine r_iload_n C dX10_pullOn_25 2 rfl rfl ?_
  refine r_iadd C dX10_pullOn_26 ?_
  refine r_iconst (v := 0) C dX10_pullOn_27 ic_0 ?_
  obtain ⟨hu2, h⟩ := ob_if h
  refine r_iast (ws1 := (wMO cyI cyZ cyW md mflags mtubs mpegs mcl mws mho (upd (upd mnow ((((17 : Int32) * x1) + (5 : Int32)) + x2).toNatClampNeg (0 : Int32)) ((((17 : Int32) * x1) + (10 : Int32)) + x2).toNatClampNeg (0 : Int32)) mrd mrh mrf mtx mlen mat mfa mac mnx mrow msn mso msc msw mseed mik mkp)) C 4 0 rfl rfl (inb_vp hu2) rfl dX10_pullOn_28 ?_
  have h9 := Option.some.inj h
  subst h9
  exact r_vret C rfl dX10_pullOn_29

/-! ===== FlagWashModel.pull ===== -/
def fX10_pull  (x1 : Int32) (mflags : Int32) (mnow : (Nat → Int32)) (mac : Int32) (mnx : Int32) (mrow : (Nat → Int32)) : Option (Int32 × (Nat → Int32) × Int32 × Int32 × (Nat → Int32)) :=
 ((fX10_isFlag x1 mflags).bind fun u1 => (if u1 = true then (if inb ((5 : Int32) + x1) 34 = true then (if (mnow ((5 : Int32) + x1).toNatClampNeg) = 0 then (some ((-3 : Int32), mnow, mac, mnx, mrow))
 else ((fX10_keepAct mnow mac mnx mrow).bind fun u5 => ((fX10_pullOn (0 : Int32) x1 mnow).bind fun u6 => (some ((mnow ((5 : Int32) + x1).toNatClampNeg), u6, u5.1, u5.2.1, u5.2.2))))) else none)
 else (some ((-1 : Int32), mnow, mac, mnx, mrow))))
theorem hinX10_pull_X10 : ∀ w ∈ u_ws RX10 TX10 24, w ∈ wsX10_pull := fun w h => List.mem_cons_of_mem _ (List.mem_append_right _ h)
theorem mX10_pull_1 : Cond.fieldLink RX10 19 "FlagWashModel" "now" "[I" ∈ wsX10_pull := List.mem_of_getElem? (i := 1) rfl
theorem hd_X10_pull : yX10_pull.cls ≠ "java/lang/invoke/MethodHandle" ∧ yX10_pull.cls ≠ "java/lang/invoke/VarHandle" ∧ (parseMethodDescriptor yX10_pull.desc).map (fun d => d.parameters.length) = some 1 := by decide +kernel
set_option maxHeartbeats 4000000 in
set_option maxRecDepth 100000 in
theorem kX10_pull {l : Launch} {D : va_G} {cyI cyZ cyW : ClassId} {zW zO : Nat} {md : Nat → Nat} {mflags : Int32} {mtubs : Int32} {mpegs : Int32} {mcl : (Nat → Int32)} {mws : (Nat → Int32)} {mho : (Nat → Int32)} {mnow : (Nat → Int32)} {mrd : (Nat → Int32)} {mrh : (Nat → Int32)} {mrf : Int32} {mtx : (Nat → Int32)} {mlen : Int32} {mat : Int32} {mfa : Int32} {mac : Int32} {mnx : Int32} {mrow : (Nat → Int32)} {msn : Int32} {mso : (Nat → Int32)} {msc : (Nat → Int32)} {msw : (Nat → Int32)} {mseed : Int64} {mik : (Nat → Int32)} {mkp : (Nat → Int32)} {x1 : Int32} {res : Int32 × (Nat → Int32) × Int32 × Int32 × (Nat → Int32)} (h : fX10_pull x1 mflags mnow mac mnx mrow = some res) : KI l yX10_pull wsX10_pull ({ frames := 2, cells := 0, slots := 0, locals := 46 } : Room) D (tyA cyI cyZ cyW) zW zO [.ref (md 0), .int x1] (wMO cyI cyZ cyW md mflags mtubs mpegs mcl mws mho mnow mrd mrh mrf mtx mlen mat mfa mac mnx mrow msn mso msc msw mseed mik mkp) (wMO cyI cyZ cyW md mflags mtubs mpegs mcl mws mho res.2.1 mrd mrh mrf mtx mlen mat mfa res.2.2.1 res.2.2.2.1 res.2.2.2.2 msn mso msc msw mseed mik mkp) res.1 := by
  refine enterI (cc := cX10_pull) (nL := 3) (ret := (some .int)) (by decide) rfl (Nat.le_of_ble_eq_true rfl) (fun p e s m below meth c A C => ?_)
  refine r_lv (lv' := [(0, .ref (md 0)), (1, .int x1)]) [0, 1] rfl ?_
  unfold fX10_pull at h
  refine r_aload_n C dX10_pull_0 0 rfl rfl ?_
  refine r_iload_n C dX10_pull_1 1 rfl rfl ?_
  obtain ⟨u1, hu1, h⟩ := ob_bind h
  refine r_readVI (q0 := 0) (As := [.int x1]) (rest := []) C (kX10_isFlag (md := md) (mflags := mflags) (mtubs := mtubs) (mpegs := mpegs) (mcl := mcl) (mws := mws) (mho := mho) (mnow := mnow) (mrd := mrd) (mrh := mrh) (mrf := mrf) (mtx := mtx) (mlen := mlen) (mat := mat) (mfa := mfa) (mac := mac) (mnx := mnx) (mrow := mrow) (msn := msn) (mso := mso) (msc := msc) (msw := msw) (mseed := mseed) (mik := mik) (mkp := mkp) (x1 := x1) hu1) gX10_pull_X10_isFlag rfl rfl rfl ⟨rfl, hd_X10_isFlag⟩ ⟨by decide, by decide⟩ rfl rfl rfl rfl [0, 1, 2, 3, 4, 5, 6, 7, 8, 9, 10, 11, 12, 13] (by decide) in_76 rfl (Nat.le_of_ble_eq_true rfl) dX10_pull_2 ⟨Nat.zero_le _, Nat.zero_le _⟩ ?_
  refine r_ifb_ne (tgt := 10) C dX10_pull_5 (by decide) (fun c2 => ?_) (fun c2 => ?_)
  · replace h := ob_t h c2
    refine r_aload_n C dX10_pull_10 0 rfl rfl ?_
    refine r_get (ci := 7) (CC := RX10) (T := TX10) (N := 24) (v := .ref (md 4)) C hinX10_pull_X10 0 rfl rfl 6 (by decide) mX10_pull_1 rfl rfl dX10_pull_11 ?_
    refine r_iconst (v := 5) C dX10_pull_14 ic_5 ?_
    refine r_iload_n C dX10_pull_15 1 rfl rfl ?_
    refine r_iadd C dX10_pull_16 ?_
    obtain ⟨hu3, h⟩ := ob_if h
    refine r_iald C 4 0 rfl rfl (inb_vp hu3) dX10_pull_17 ?_
    refine r_istore_n (lv' := [(2, .int (mnow ((5 : Int32) + x1).toNatClampNeg)), (0, .ref (md 0)), (1, .int x1)]) C dX10_pull_18 rfl (by decide) rfl ?_
    refine r_iload_n C dX10_pull_19 0 rfl rfl ?_
    refine r_if_ne (tgt := 26) C dX10_pull_20 (by decide) (fun c4 => ?_) (fun c4 => ?_)
    · replace h := ob_f h c4
      refine r_aload_n C dX10_pull_26 1 rfl rfl ?_
      obtain ⟨u5, hu5, h⟩ := ob_bind h
      refine r_callVV (q0 := 0) (As := []) (rest := []) (ws1 := (wMO cyI cyZ cyW md mflags mtubs mpegs mcl mws mho mnow mrd mrh mrf mtx mlen mat mfa u5.1 u5.2.1 u5.2.2 msn mso msc msw mseed mik mkp)) C (kX10_keepAct (md := md) (mflags := mflags) (mtubs := mtubs) (mpegs := mpegs) (mcl := mcl) (mws := mws) (mho := mho) (mnow := mnow) (mrd := mrd) (mrh := mrh) (mrf := mrf) (mtx := mtx) (mlen := mlen) (mat := mat) (mfa := mfa) (mac := mac) (mnx := mnx) (mrow := mrow) (msn := msn) (mso := mso) (msc := msc) (msw := msw) (mseed := mseed) (mik := mik) (mkp := mkp)  hu5) gX10_pull_X10_keepAct rfl rfl rfl ⟨rfl, hd_X10_keepAct⟩ ⟨by decide, by decide⟩ rfl rfl rfl rfl [0, 1, 2, 3, 4, 5, 6, 7, 8, 9, 10, 11, 12, 13] (by decide) in_80 se_80 (adrMO.trans adrMO.symm) rfl (Nat.le_of_ble_eq_true rfl) dX10_pull_27 ⟨Nat.zero_le _, Nat.zero_le _⟩ ?_
      refine r_aload_n C dX10_pull_30 1 rfl rfl ?_
      refine r_iconst (v := 0) C dX10_pull_31 ic_0 ?_
      refine r_iload_n C dX10_pull_32 2 rfl rfl ?_
      obtain ⟨u6, hu6, h⟩ := ob_bind h
      refine r_callVV (q0 := 0) (As := [.int (0 : Int32), .int x1]) (rest := []) (ws1 := (wMO cyI cyZ cyW md mflags mtubs mpegs mcl mws mho u6 mrd mrh mrf mtx mlen mat mfa u5.1 u5.2.1 u5.2.2 msn mso msc msw mseed mik mkp)) C (kX10_pullOn (md := md) (mflags := mflags) (mtubs := mtubs) (mpegs := mpegs) (mcl := mcl) (mws := mws) (mho := mho) (mnow := mnow) (mrd := mrd) (mrh := mrh) (mrf := mrf) (mtx := mtx) (mlen := mlen) (mat := mat) (mfa := mfa) (mac := u5.1) (mnx := u5.2.1) (mrow := u5.2.2) (msn := msn) (mso := mso) (msc := msc) (msw := msw) (mseed := mseed) (mik := mik) (mkp := mkp) (x1 := (0 : Int32)) (x2 := x1) hu6) gX10_pull_X10_pullOn rfl rfl rfl ⟨rfl, hd_X10_pullOn⟩ ⟨by decide, by decide⟩ rfl rfl rfl rfl [0, 1, 2, 3, 4, 5, 6, 7, 8, 9, 10, 11, 12, 13] (by decide) in_79 se_79 (adrMO.trans adrMO.symm) rfl (Nat.le_of_ble_eq_true rfl) dX10_pull_33 ⟨Nat.zero_le _, Nat.zero_le _⟩ ?_
      refine r_iload_n C dX10_pull_36 0 rfl rfl ?_
      have h9 := Option.some.inj h
      subst h9
      exact r_iret C rfl dX10_pull_37
    · replace h := ob_t h c4
      refine r_bipush (v := -3) C dX10_pull_23 bp_m3 ?_
      have h9 := Option.some.inj h
      subst h9
      exact r_iret C rfl dX10_pull_25
  · replace h := ob_bf h c2
    refine r_iconst (v := -1) C dX10_pull_8 ic_m1 ?_
    have h9 := Option.some.inj h
    subst h9
    exact r_iret C rfl dX10_pull_9

/-! ===== FlagWashModel.hour ===== -/
def fX10_hour  (mflags : Int32) (mtubs : Int32) (mpegs : Int32) (mcl : (Nat → Int32)) (mnow : (Nat → Int32)) (mac : Int32) (mnx : Int32) (mrow : (Nat → Int32)) : Option (Int32 × (Nat → Int32) × Int32 × Int32 × (Nat → Int32)) :=
 ((fX10_keepAct mnow mac mnx mrow).bind fun u1 => ((fX10_passOn (0 : Int32) mflags mtubs mpegs mcl mnow).bind fun u2 => (some (u2.1, u2.2, u1.1, u1.2.1, u1.2.2))))
theorem hd_X10_hour : yX10_hour.cls ≠ "java/lang/invoke/MethodHandle" ∧ yX10_hour.cls ≠ "java/lang/invoke/VarHandle" ∧ (parseMethodDescriptor yX10_hour.desc).map (fun d => d.parameters.length) = some 0 := by decide +kernel
set_option maxHeartbeats 4000000 in
set_option maxRecDepth 100000 in
theorem kX10_hour {l : Launch} {D : va_G} {cyI cyZ cyW : ClassId} {zW zO : Nat} {md : Nat → Nat} {mflags : Int32} {mtubs : Int32} {mpegs : Int32} {mcl : (Nat → Int32)} {mws : (Nat → Int32)} {mho : (Nat → Int32)} {mnow : (Nat → Int32)} {mrd : (Nat → Int32)} {mrh : (Nat → Int32)} {mrf : Int32} {mtx : (Nat → Int32)} {mlen : Int32} {mat : Int32} {mfa : Int32} {mac : Int32} {mnx : Int32} {mrow : (Nat → Int32)} {msn : Int32} {mso : (Nat → Int32)} {msc : (Nat → Int32)} {msw : (Nat → Int32)} {mseed : Int64} {mik : (Nat → Int32)} {mkp : (Nat → Int32)}  {res : Int32 × (Nat → Int32) × Int32 × Int32 × (Nat → Int32)} (h : fX10_hour mflags mtubs mpegs mcl mnow mac mnx mrow = some res) : KI l yX10_hour wsX10_hour ({ frames := 4, cells := 0, slots := 0, locals := 95 } : Room) D (tyA cyI cyZ cyW) zW zO [.ref (md 0)] (wMO cyI cyZ cyW md mflags mtubs mpegs mcl mws mho mnow mrd mrh mrf mtx mlen mat mfa mac mnx mrow msn mso msc msw mseed mik mkp) (wMO cyI cyZ cyW md mflags mtubs mpegs mcl mws mho res.2.1 mrd mrh mrf mtx mlen mat mfa res.2.2.1 res.2.2.2.1 res.2.2.2.2 msn mso msc msw mseed mik mkp) res.1 := by
  refine enterI (cc := cX10_hour) (nL := 1) (ret := (some .int)) (by decide) rfl (Nat.le_of_ble_eq_true rfl) (fun p e s m below meth c A C => ?_)
  refine r_lv (lv' := [(0, .ref (md 0))]) [0] rfl ?_
  unfold fX10_hour at h
  refine r_aload_n C dX10_hour_0 0 rfl rfl ?_
  obtain ⟨u1, hu1, h⟩ := ob_bind h
  refine r_callVV (q0 := 0) (As := []) (rest := []) (ws1 := (wMO cyI cyZ cyW md mflags mtubs mpegs mcl mws mho mnow mrd mrh mrf mtx mlen mat mfa u1.1 u1.2.1 u1.2.2 msn mso msc msw mseed mik mkp)) C (kX10_keepAct (md := md) (mflags := mflags) (mtubs := mtubs) (mpegs := mpegs) (mcl := mcl) (mws := mws) (mho := mho) (mnow := mnow) (mrd := mrd) (mrh := mrh) (mrf := mrf) (mtx := mtx) (mlen := mlen) (mat := mat) (mfa := mfa) (mac := mac) (mnx := mnx) (mrow := mrow) (msn := msn) (mso := mso) (msc := msc) (msw := msw) (mseed := mseed) (mik := mik) (mkp := mkp)  hu1) gX10_hour_X10_keepAct rfl rfl rfl ⟨rfl, hd_X10_keepAct⟩ ⟨by decide, by decide⟩ rfl rfl rfl rfl [0, 1, 2, 3, 4, 5, 6, 7, 8, 9, 10, 11, 12, 13] (by decide) in_80 se_80 (adrMO.trans adrMO.symm) rfl (Nat.le_of_ble_eq_true rfl) dX10_hour_1 ⟨Nat.zero_le _, Nat.zero_le _⟩ ?_
  refine r_aload_n C dX10_hour_4 0 rfl rfl ?_
  refine r_iconst (v := 0) C dX10_hour_5 ic_0 ?_
  obtain ⟨u2, hu2, h⟩ := ob_bind h
  refine r_callVI (q0 := 0) (As := [.int (0 : Int32)]) (rest := []) (ws1 := (wMO cyI cyZ cyW md mflags mtubs mpegs mcl mws mho u2.2 mrd mrh mrf mtx mlen mat mfa u1.1 u1.2.1 u1.2.2 msn mso msc msw mseed mik mkp)) C (kX10_passOn (md := md) (mflags := mflags) (mtubs := mtubs) (mpegs := mpegs) (mcl := mcl) (mws := mws) (mho := mho) (mnow := mnow) (mrd := mrd) (mrh := mrh) (mrf := mrf) (mtx := mtx) (mlen := mlen) (mat := mat) (mfa := mfa) (mac := u1.1) (mnx := u1.2.1) (mrow := u1.2.2) (msn := msn) (mso := mso) (msc := msc) (msw := msw) (mseed := mseed) (mik := mik) (mkp := mkp) (x1 := (0 : Int32)) hu2) gX10_hour_X10_passOn rfl rfl rfl ⟨rfl, hd_X10_passOn⟩ ⟨by decide, by decide⟩ rfl rfl rfl rfl [0, 1, 2, 3, 4, 5, 6, 7, 8, 9, 10, 11, 12, 13] (by decide) in_79 se_79 (adrMO.trans adrMO.symm) rfl (Nat.le_of_ble_eq_true rfl) dX10_hour_6 ⟨Nat.zero_le _, Nat.zero_le _⟩ ?_
  have h9 := Option.some.inj h
  subst h9
  exact r_iret C rfl dX10_hour_9
