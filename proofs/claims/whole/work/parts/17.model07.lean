/-! ===== FlagWashModel.wind ===== -/
def fX10_wind  (x1 : Int32) (mnow : (Nat → Int32)) (mac : Int32) (mnx : Int32) (mrow : (Nat → Int32)) : Option (Int32 × (Nat → Int32) × Int32 × Int32 × (Nat → Int32)) :=
 ((fX10_in x1.toInt64 (0 : Int64) (2 : Int64)).bind fun u1 => (if u1 = true then (if (mnow (15 : Int32).toNatClampNeg) = x1 then (some ((-3 : Int32), mnow, mac, mnx, mrow))
 else ((fX10_keepAct mnow mac mnx mrow).bind fun u4 => (some ((mnow (15 : Int32).toNatClampNeg), (upd mnow (15 : Int32).toNatClampNeg x1), u4.1, u4.2.1, u4.2.2))))
 else (some ((-2 : Int32), mnow, mac, mnx, mrow))))
theorem mX10_wind_1 : Cond.constantLong RX10 148 (2) ∈ wsX10_wind := List.mem_of_getElem? (i := 1) rfl
theorem hinX10_wind_X10 : ∀ w ∈ u_ws RX10 TX10 24, w ∈ wsX10_wind := fun w h => List.mem_cons_of_mem _ (List.mem_append_right _ h)
theorem mX10_wind_2 : Cond.fieldLink RX10 19 "FlagWashModel" "now" "[I" ∈ wsX10_wind := List.mem_of_getElem? (i := 2) rfl
theorem hd_X10_wind : yX10_wind.cls ≠ "java/lang/invoke/MethodHandle" ∧ yX10_wind.cls ≠ "java/lang/invoke/VarHandle" ∧ (parseMethodDescriptor yX10_wind.desc).map (fun d => d.parameters.length) = some 1 := by decide +kernel
set_option maxHeartbeats 4000000 in
set_option maxRecDepth 100000 in
theorem kX10_wind {l : Launch} {D : va_G} {cyI cyZ cyW : ClassId} {zW zO : Nat} {md : Nat → Nat} {mflags : Int32} {mtubs : Int32} {mpegs : Int32} {mcl : (Nat → Int32)} {mws : (Nat → Int32)} {mho : (Nat → Int32)} {mnow : (Nat → Int32)} {mrd : (Nat → Int32)} {mrh : (Nat → Int32)} {mrf : Int32} {mtx : (Nat → Int32)} {mlen : Int32} {mat : Int32} {mfa : Int32} {mac : Int32} {mnx : Int32} {mrow : (Nat → Int32)} {msn : Int32} {mso : (Nat → Int32)} {msc : (Nat → Int32)} {msw : (Nat → Int32)} {mseed : Int64} {mik : (Nat → Int32)} {mkp : (Nat → Int32)} {x1 : Int32} {res : Int32 × (Nat → Int32) × Int32 × Int32 × (Nat → Int32)} (h : fX10_wind x1 mnow mac mnx mrow = some res) : KI l yX10_wind wsX10_wind ({ frames := 1, cells := 0, slots := 0, locals := 25 } : Room) D (tyA cyI cyZ cyW) zW zO [.ref (md 0), .int x1] (wMO cyI cyZ cyW md mflags mtubs mpegs mcl mws mho mnow mrd mrh mrf mtx mlen mat mfa mac mnx mrow msn mso msc msw mseed mik mkp) (wMO cyI cyZ cyW md mflags mtubs mpegs mcl mws mho res.2.1 mrd mrh mrf mtx mlen mat mfa res.2.2.1 res.2.2.2.1 res.2.2.2.2 msn mso msc msw mseed mik mkp) res.1 := by
  refine enterI (cc := cX10_wind) (nL := 3) (ret := (some .int)) (by decide) rfl (Nat.le_of_ble_eq_true rfl) (fun p e s m below meth c A C => ?_)
  refine r_lv (lv' := [(0, .ref (md 0)), (1, .int x1)]) [0, 1] rfl ?_
  unfold fX10_wind at h
  refine r_iload_n C dX10_wind_0 1 rfl rfl ?_
  refine r_i2l C dX10_wind_1 ?_
  refine r_lconst (v := 0) C dX10_wind_2 lc_0 ?_
  refine r_ldc2 (v := 2) C mX10_wind_1 dX10_wind_3 ?_
  obtain ⟨u1, hu1, h⟩ := ob_bind h
  refine r_readSI (As := [.long x1.toInt64, .long (0 : Int64), .long (2 : Int64)]) (rest := []) C (kX10_in   (x0 := x1.toInt64) (x2 := (0 : Int64)) (x4 := (2 : Int64)) hu1) gX10_wind_X10_in rfl rfl rfl hd_X10_in ⟨by decide, by decide⟩ rfl [] (by decide) rfl rfl (Nat.le_of_ble_eq_true rfl) dX10_wind_6 ⟨Nat.zero_le _, Nat.zero_le _⟩ ?_
  refine r_ifb_ne (tgt := 15) C dX10_wind_9 (by decide) (fun c2 => ?_) (fun c2 => ?_)
  · replace h := ob_t h c2
    refine r_aload_n C dX10_wind_15 0 rfl rfl ?_
    refine r_get (ci := 7) (CC := RX10) (T := TX10) (N := 24) (v := .ref (md 4)) C hinX10_wind_X10 0 rfl rfl 6 (by decide) mX10_wind_2 rfl rfl dX10_wind_16 ?_
    refine r_bipush (v := 15) C dX10_wind_19 bp_15 ?_
    refine r_iald C 4 0 rfl rfl (inb_vp (by decide)) dX10_wind_21 ?_
    refine r_istore_n (lv' := [(2, .int (mnow (15 : Int32).toNatClampNeg)), (0, .ref (md 0)), (1, .int x1)]) C dX10_wind_22 rfl (by decide) rfl ?_
    refine r_iload_n C dX10_wind_23 0 rfl rfl ?_
    refine r_iload_n C dX10_wind_24 2 rfl rfl ?_
    refine r_icmp_ne (tgt := 31) C dX10_wind_25 (by decide) (fun c3 => ?_) (fun c3 => ?_)
    · replace h := ob_f h c3
      refine r_aload_n C dX10_wind_31 1 rfl rfl ?_
      obtain ⟨u4, hu4, h⟩ := ob_bind h
      refine r_callVV (q0 := 0) (As := []) (rest := []) (ws1 := (wMO cyI cyZ cyW md mflags mtubs mpegs mcl mws mho mnow mrd mrh mrf mtx mlen mat mfa u4.1 u4.2.1 u4.2.2 msn mso msc msw mseed mik mkp)) C (kX10_keepAct (md := md) (mflags := mflags) (mtubs := mtubs) (mpegs := mpegs) (mcl := mcl) (mws := mws) (mho := mho) (mnow := mnow) (mrd := mrd) (mrh := mrh) (mrf := mrf) (mtx := mtx) (mlen := mlen) (mat := mat) (mfa := mfa) (mac := mac) (mnx := mnx) (mrow := mrow) (msn := msn) (mso := mso) (msc := msc) (msw := msw) (mseed := mseed) (mik := mik) (mkp := mkp)  hu4) gX10_wind_X10_keepAct rfl rfl rfl ⟨rfl, hd_X10_keepAct⟩ ⟨by decide, by decide⟩ rfl rfl rfl rfl [0, 1, 2, 3, 4, 5, 6, 7, 8, 9, 10, 11, 12, 13] (by decide) in_80 se_80 (adrMO.trans adrMO.symm) rfl (Nat.le_of_ble_eq_true rfl) dX10_wind_32 ⟨Nat.zero_le _, Nat.zero_le _⟩ ?_
      refine r_aload_n C dX10_wind_35 1 rfl rfl ?_
      refine r_get (ci := 7) (CC := RX10) (T := TX10) (N := 24) (v := .ref (md 4)) C hinX10_wind_X10 0 rfl rfl 6 (by decide) mX10_wind_2 rfl rfl dX10_wind_36 ?_
      refine r_bipush (v := 15) C dX10_wind_39 bp_15 ?_
      refine r_iload_n C dX10_wind_41 2 rfl rfl ?_
      refine r_iast (ws1 := (wMO cyI cyZ cyW md mflags mtubs mpegs mcl mws mho (upd mnow (15 : Int32).toNatClampNeg x1) mrd mrh mrf mtx mlen mat mfa u4.1 u4.2.1 u4.2.2 msn mso msc msw mseed mik mkp)) C 4 0 rfl rfl (inb_vp (by decide)) rfl dX10_wind_42 ?_
      refine r_iload_n C dX10_wind_43 0 rfl rfl ?_
      have h9 := Option.some.inj h
      subst h9
      exact r_iret C rfl dX10_wind_44
    · replace h := ob_t h c3
      refine r_bipush (v := -3) C dX10_wind_28 bp_m3 ?_
      have h9 := Option.some.inj h
      subst h9
      exact r_iret C rfl dX10_wind_30
  · replace h := ob_bf h c2
    refine r_bipush (v := -2) C dX10_wind_12 bp_m2 ?_
    have h9 := Option.some.inj h
    subst h9
    exact r_iret C rfl dX10_wind_14

/-! ===== FlagWashModel.undo ===== -/
def gX10_undo_36 (rec36 : Int32 → (Nat → Int32) → Option (Int32 × (Nat → Int32) × Int32 × Int32)) (x1 : Int32) (mnow : (Nat → Int32)) (mac : Int32) (mnx : Int32) (mrow : (Nat → Int32)) : Option (Int32 × (Nat → Int32) × Int32 × Int32) :=
 (if (17 : Int32) ≤ x1 then (some (mac, mnow, mac, mnx))
 else (if inb (((17 : Int32) * mnx) + x1) 238 = true then (if inb x1 34 = true then (rec36 (x1 + (1 : Int32)) (upd mnow x1.toNatClampNeg (mrow (((17 : Int32) * mnx) + x1).toNatClampNeg))) else none) else none))
def fX10_undo_36  (mac : Int32) (mnx : Int32) (mrow : (Nat → Int32)) : Nat → Int32 → (Nat → Int32) → Option (Int32 × (Nat → Int32) × Int32 × Int32)
  | 0 => fun _ _ => none
  | n + 1 => fun x1 mnow => gX10_undo_36 (fX10_undo_36  mac mnx mrow n) x1 mnow mac mnx mrow
def fX10_undo  (mnow : (Nat → Int32)) (mac : Int32) (mnx : Int32) (mrow : (Nat → Int32)) : Option (Int32 × (Nat → Int32) × Int32 × Int32) :=
 (if mac = 0 then (some ((-3 : Int32), mnow, mac, mnx))
 else (fX10_undo_36  (mac - (1 : Int32)) (jrem (mnx + (13 : Int32)) (14 : Int32)) mrow FU (0 : Int32) mnow))
theorem hinX10_undo_X10 : ∀ w ∈ u_ws RX10 TX10 24, w ∈ wsX10_undo := fun w h => List.mem_cons_of_mem _ (List.mem_append_right _ h)
theorem mX10_undo_1 : Cond.fieldLink RX10 104 "FlagWashModel" "acts" "I" ∈ wsX10_undo := List.mem_of_getElem? (i := 1) rfl
theorem mX10_undo_2 : Cond.fieldLink RX10 130 "FlagWashModel" "next" "I" ∈ wsX10_undo := List.mem_of_getElem? (i := 2) rfl
theorem mX10_undo_3 : Cond.fieldLink RX10 19 "FlagWashModel" "now" "[I" ∈ wsX10_undo := List.mem_of_getElem? (i := 3) rfl
theorem mX10_undo_4 : Cond.fieldLink RX10 31 "FlagWashModel" "row" "[I" ∈ wsX10_undo := List.mem_of_getElem? (i := 4) rfl
theorem hd_X10_undo : yX10_undo.cls ≠ "java/lang/invoke/MethodHandle" ∧ yX10_undo.cls ≠ "java/lang/invoke/VarHandle" ∧ (parseMethodDescriptor yX10_undo.desc).map (fun d => d.parameters.length) = some 0 := by decide +kernel
set_option maxHeartbeats 4000000 in
set_option maxRecDepth 100000 in
theorem LGX10_undo_36 {p : Program} {l : Launch} {e : Env} {s : State} {m : MethodId} {args : Array Value} {below : List Frame} {meth : Method} {c : Code} {D : va_G} {cyI cyZ cyW : ClassId} {zW zO : Nat} {A : Nat → Prop} (C : Cx p s m args meth c cX10_undo RX10 "undo" wsX10_undo (some .int) 2 D (tyA cyI cyZ cyW) zW zO A) {md : Nat → Nat} {mflags : Int32} {mtubs : Int32} {mpegs : Int32} {mcl : (Nat → Int32)} {mws : (Nat → Int32)} {mho : (Nat → Int32)} {mnow : (Nat → Int32)} {mrd : (Nat → Int32)} {mrh : (Nat → Int32)} {mrf : Int32} {mtx : (Nat → Int32)} {mlen : Int32} {mat : Int32} {mfa : Int32} {mac : Int32} {mnx : Int32} {mrow : (Nat → Int32)} {msn : Int32} {mso : (Nat → Int32)} {msc : (Nat → Int32)} {msw : (Nat → Int32)} {mseed : Int64} {mik : (Nat → Int32)} {mkp : (Nat → Int32)} {x1 : Int32} {rec36 : Int32 → (Nat → Int32) → Option (Int32 × (Nat → Int32) × Int32 × Int32)} {res : Int32 × (Nat → Int32) × Int32 × Int32} (hrec36 : ∀ (x1 : Int32) (mnow : (Nat → Int32)), rec36 x1 mnow = some res → Mx p l e ({ frames := 0, cells := 0, slots := 0, locals := 0 } : Room) s m args below meth c (MQ below (QI D (tyA cyI cyZ cyW) A (wMO cyI cyZ cyW md mflags mtubs mpegs mcl mws mho res.2.1 mrd mrh mrf mtx mlen mat mfa res.2.2.1 res.2.2.2 mrow msn mso msc msw mseed mik mkp) res.1) args s 0 0 A) 2 D A 0 0 (wMO cyI cyZ cyW md mflags mtubs mpegs mcl mws mho mnow mrd mrh mrf mtx mlen mat mfa mac mnx mrow msn mso msc msw mseed mik mkp) 36 [(0, .ref (md 0)), (1, .int x1)] []) (h : gX10_undo_36 rec36 x1 mnow mac mnx mrow = some res) : Mx p l e ({ frames := 0, cells := 0, slots := 0, locals := 0 } : Room) s m args below meth c (MQ below (QI D (tyA cyI cyZ cyW) A (wMO cyI cyZ cyW md mflags mtubs mpegs mcl mws mho res.2.1 mrd mrh mrf mtx mlen mat mfa res.2.2.1 res.2.2.2 mrow msn mso msc msw mseed mik mkp) res.1) args s 0 0 A) 2 D A 0 0 (wMO cyI cyZ cyW md mflags mtubs mpegs mcl mws mho mnow mrd mrh mrf mtx mlen mat mfa mac mnx mrow msn mso msc msw mseed mik mkp) 36 [(0, .ref (md 0)), (1, .int x1)] [] := by
  unfold gX10_undo_36 at h
  refine r_iload_n C dX10_undo_36 1 rfl rfl ?_
  refine r_bipush (v := 17) C dX10_undo_37 bp_17 ?_
  refine r_icmp_ge (tgt := 68) C dX10_undo_39 (by decide) (fun c2 => ?_) (fun c2 => ?_)
  · replace h := ob_t h c2
    refine r_aload_n C dX10_undo_68 0 rfl rfl ?_
    refine r_get (ci := 7) (CC := RX10) (T := TX10) (N := 24) (v := .int mac) C hinX10_undo_X10 0 rfl rfl 14 (by decide) mX10_undo_1 rfl rfl dX10_undo_69 ?_
    have h9 := Option.some.inj h
    subst h9
    exact r_iret C rfl dX10_undo_72
  · replace h := ob_f h c2
    refine r_aload_n C dX10_undo_42 0 rfl rfl ?_
    refine r_get (ci := 7) (CC := RX10) (T := TX10) (N := 24) (v := .ref (md 4)) C hinX10_undo_X10 0 rfl rfl 6 (by decide) mX10_undo_3 rfl rfl dX10_undo_43 ?_
    refine r_iload_n C dX10_undo_46 1 rfl rfl ?_
    refine r_aload_n C dX10_undo_47 0 rfl rfl ?_
    refine r_get (ci := 7) (CC := RX10) (T := TX10) (N := 24) (v := .ref (md 8)) C hinX10_undo_X10 0 rfl rfl 16 (by decide) mX10_undo_4 rfl rfl dX10_undo_48 ?_
    refine r_bipush (v := 17) C dX10_undo_51 bp_17 ?_
    refine r_aload_n C dX10_undo_53 0 rfl rfl ?_
    refine r_get (ci := 7) (CC := RX10) (T := TX10) (N := 24) (v := .int mnx) C hinX10_undo_X10 0 rfl rfl 15 (by decide) mX10_undo_2 rfl rfl dX10_undo_54 ?_
    refine r_imul C dX10_undo_57 ?_
    refine r_iload_n C dX10_undo_58 1 rfl rfl ?_
    refine r_iadd C dX10_undo_59 ?_
    obtain ⟨hu3, h⟩ := ob_if h
    refine r_iald C 8 0 rfl rfl (inb_vp hu3) dX10_undo_60 ?_
    obtain ⟨hu4, h⟩ := ob_if h
    refine r_iast (ws1 := (wMO cyI cyZ cyW md mflags mtubs mpegs mcl mws mho (upd mnow x1.toNatClampNeg (mrow (((17 : Int32) * mnx) + x1).toNatClampNeg)) mrd mrh mrf mtx mlen mat mfa mac mnx mrow msn mso msc msw mseed mik mkp)) C 4 0 rfl rfl (inb_vp hu4) rfl dX10_undo_61 ?_
    refine r_iinc (v := 1) (lv' := [(1, .int (x1 + (1 : Int32))), (0, .ref (md 0))]) C dX10_undo_62 1 rfl ic_1 (by decide) rfl ?_
    refine r_goto (tgt := 36) C dX10_undo_65 (by decide) ?_
    refine r_lv (lv' := [(0, .ref (md 0)), (1, .int (x1 + (1 : Int32)))]) [1, 0] rfl ?_
    exact hrec36 (x1 + (1 : Int32)) (upd mnow x1.toNatClampNeg (mrow (((17 : Int32) * mnx) + x1).toNatClampNeg)) h
set_option maxHeartbeats 4000000 in
set_option maxRecDepth 100000 in
theorem LX10_undo_36 {p : Program} {l : Launch} {e : Env} {s : State} {m : MethodId} {args : Array Value} {below : List Frame} {meth : Method} {c : Code} {D : va_G} {cyI cyZ cyW : ClassId} {zW zO : Nat} {A : Nat → Prop} (C : Cx p s m args meth c cX10_undo RX10 "undo" wsX10_undo (some .int) 2 D (tyA cyI cyZ cyW) zW zO A) {md : Nat → Nat} {mflags : Int32} {mtubs : Int32} {mpegs : Int32} {mcl : (Nat → Int32)} {mws : (Nat → Int32)} {mho : (Nat → Int32)} {mrd : (Nat → Int32)} {mrh : (Nat → Int32)} {mrf : Int32} {mtx : (Nat → Int32)} {mlen : Int32} {mat : Int32} {mfa : Int32} {mac : Int32} {mnx : Int32} {mrow : (Nat → Int32)} {msn : Int32} {mso : (Nat → Int32)} {msc : (Nat → Int32)} {msw : (Nat → Int32)} {mseed : Int64} {mik : (Nat → Int32)} {mkp : (Nat → Int32)}  {res : Int32 × (Nat → Int32) × Int32 × Int32}  : ∀ (n : Nat) (x1 : Int32) (mnow : (Nat → Int32)), fX10_undo_36  mac mnx mrow n x1 mnow = some res → Mx p l e ({ frames := 0, cells := 0, slots := 0, locals := 0 } : Room) s m args below meth c (MQ below (QI D (tyA cyI cyZ cyW) A (wMO cyI cyZ cyW md mflags mtubs mpegs mcl mws mho res.2.1 mrd mrh mrf mtx mlen mat mfa res.2.2.1 res.2.2.2 mrow msn mso msc msw mseed mik mkp) res.1) args s 0 0 A) 2 D A 0 0 (wMO cyI cyZ cyW md mflags mtubs mpegs mcl mws mho mnow mrd mrh mrf mtx mlen mat mfa mac mnx mrow msn mso msc msw mseed mik mkp) 36 [(0, .ref (md 0)), (1, .int x1)] [] := by
  intro n
  induction n with
  | zero => intro x1 mnow h; cases h
  | succ n ih => intro x1 mnow h; exact LGX10_undo_36 C ih h
set_option maxHeartbeats 4000000 in
set_option maxRecDepth 100000 in
theorem kX10_undo {l : Launch} {D : va_G} {cyI cyZ cyW : ClassId} {zW zO : Nat} {md : Nat → Nat} {mflags : Int32} {mtubs : Int32} {mpegs : Int32} {mcl : (Nat → Int32)} {mws : (Nat → Int32)} {mho : (Nat → Int32)} {mnow : (Nat → Int32)} {mrd : (Nat → Int32)} {mrh : (Nat → Int32)} {mrf : Int32} {mtx : (Nat → Int32)} {mlen : Int32} {mat : Int32} {mfa : Int32} {mac : Int32} {mnx : Int32} {mrow : (Nat → Int32)} {msn : Int32} {mso : (Nat → Int32)} {msc : (Nat → Int32)} {msw : (Nat → Int32)} {mseed : Int64} {mik : (Nat → Int32)} {mkp : (Nat → Int32)}  {res : Int32 × (Nat → Int32) × Int32 × Int32} (h : fX10_undo mnow mac mnx mrow = some res) : KI l yX10_undo wsX10_undo ({ frames := 0, cells := 0, slots := 0, locals := 0 } : Room) D (tyA cyI cyZ cyW) zW zO [.ref (md 0)] (wMO cyI cyZ cyW md mflags mtubs mpegs mcl mws mho mnow mrd mrh mrf mtx mlen mat mfa mac mnx mrow msn mso msc msw mseed mik mkp) (wMO cyI cyZ cyW md mflags mtubs mpegs mcl mws mho res.2.1 mrd mrh mrf mtx mlen mat mfa res.2.2.1 res.2.2.2 mrow msn mso msc msw mseed mik mkp) res.1 := by
  refine enterI (cc := cX10_undo) (nL := 2) (ret := (some .int)) (by decide) rfl (Nat.le_of_ble_eq_true rfl) (fun p e s m below meth c A C => ?_)
  refine r_lv (lv' := [(0, .ref (md 0))]) [0] rfl ?_
  unfold fX10_undo at h
  refine r_aload_n C dX10_undo_0 0 rfl rfl ?_
  refine r_get (ci := 7) (CC := RX10) (T := TX10) (N := 24) (v := .int mac) C hinX10_undo_X10 0 rfl rfl 14 (by decide) mX10_undo_1 rfl rfl dX10_undo_1 ?_
  refine r_if_ne (tgt := 10) C dX10_undo_4 (by decide) (fun c1 => ?_) (fun c1 => ?_)
  · replace h := ob_f h c1
    refine r_aload_n C dX10_undo_10 0 rfl rfl ?_
    refine r_dup C dX10_undo_11 rfl ?_
    refine r_get (ci := 7) (CC := RX10) (T := TX10) (N := 24) (v := .int mac) C hinX10_undo_X10 0 rfl rfl 14 (by decide) mX10_undo_1 rfl rfl dX10_undo_12 ?_
    refine r_iconst (v := 1) C dX10_undo_15 ic_1 ?_
    refine r_isub C dX10_undo_16 ?_
    refine r_put (ci := 7) (CC := RX10) (T := TX10) (N := 24) (v := .int (mac - (1 : Int32))) (ws1 := (wMO cyI cyZ cyW md mflags mtubs mpegs mcl mws mho mnow mrd mrh mrf mtx mlen mat mfa (mac - (1 : Int32)) mnx mrow msn mso msc msw mseed mik mkp)) (ty := .int) C hinX10_undo_X10 tyX10 tyX10_ok nmX10 0 rfl rfl 14 (by decide) mX10_undo_1 rfl rfl rfl rfl rfl (Nat.le_of_ble_eq_true rfl) rfl dX10_undo_17 ?_
    refine r_aload_n C dX10_undo_20 0 rfl rfl ?_
    refine r_aload_n C dX10_undo_21 0 rfl rfl ?_
    refine r_get (ci := 7) (CC := RX10) (T := TX10) (N := 24) (v := .int mnx) C hinX10_undo_X10 0 rfl rfl 15 (by decide) mX10_undo_2 rfl rfl dX10_undo_22 ?_
    refine r_bipush (v := 13) C dX10_undo_25 bp_13 ?_
    refine r_iadd C dX10_undo_27 ?_
    refine r_bipush (v := 14) C dX10_undo_28 bp_14 ?_
    refine r_irem C dX10_undo_30 (by decide) ?_
    refine r_put (ci := 7) (CC := RX10) (T := TX10) (N := 24) (v := .int (jrem (mnx + (13 : Int32)) (14 : Int32))) (ws1 := (wMO cyI cyZ cyW md mflags mtubs mpegs mcl mws mho mnow mrd mrh mrf mtx mlen mat mfa (mac - (1 : Int32)) (jrem (mnx + (13 : Int32)) (14 : Int32)) mrow msn mso msc msw mseed mik mkp)) (ty := .int) C hinX10_undo_X10 tyX10 tyX10_ok nmX10 0 rfl rfl 15 (by decide) mX10_undo_2 rfl rfl rfl rfl rfl (Nat.le_of_ble_eq_true rfl) rfl dX10_undo_31 ?_
    refine r_iconst (v := 0) C dX10_undo_34 ic_0 ?_
    refine r_istore_n (lv' := [(1, .int (0 : Int32)), (0, .ref (md 0))]) C dX10_undo_35 rfl (by decide) rfl ?_
    refine r_lv (lv' := [(0, .ref (md 0)), (1, .int (0 : Int32))]) [1, 0] rfl ?_
    exact LX10_undo_36 C (mflags := mflags) (mtubs := mtubs) (mpegs := mpegs) (mcl := mcl) (mws := mws) (mho := mho) (mrd := mrd) (mrh := mrh) (mrf := mrf) (mtx := mtx) (mlen := mlen) (mat := mat) (mfa := mfa) (mac := (mac - (1 : Int32))) (mnx := (jrem (mnx + (13 : Int32)) (14 : Int32))) (mrow := mrow) (msn := msn) (mso := mso) (msc := msc) (msw := msw) (mseed := mseed) (mik := mik) (mkp := mkp)  FU (0 : Int32) mnow h
  · replace h := ob_t h c1
    refine r_bipush (v := -3) C dX10_undo_7 bp_m3 ?_
    have h9 := Option.some.inj h
    subst h9
    exact r_iret C rfl dX10_undo_9

/-! ===== FlagWashModel.layTrial ===== -/
def gX10_layTrial_2 (rec2 : Int32 → (Nat → Int32) → Option ((Nat → Int32))) (x1 : Int32) (mnow : (Nat → Int32)) : Option ((Nat → Int32)) :=
 (if (17 : Int32) ≤ x1 then (some mnow)
 else (if inb x1 34 = true then (if inb ((17 : Int32) + x1) 34 = true then (rec2 (x1 + (1 : Int32)) (upd mnow ((17 : Int32) + x1).toNatClampNeg (mnow x1.toNatClampNeg))) else none) else none))
def fX10_layTrial_2   : Nat → Int32 → (Nat → Int32) → Option ((Nat → Int32))
  | 0 => fun _ _ => none
  | n + 1 => fun x1 mnow => gX10_layTrial_2 (fX10_layTrial_2   n) x1 mnow
def fX10_layTrial  (mnow : (Nat → Int32)) : Option ((Nat → Int32)) :=
 (fX10_layTrial_2   FU (0 : Int32) mnow)
theorem hinX10_layTrial_X10 : ∀ w ∈ u_ws RX10 TX10 24, w ∈ wsX10_layTrial := fun w h => List.mem_cons_of_mem _ (List.mem_append_right _ h)
theorem mX10_layTrial_1 : Cond.fieldLink RX10 19 "FlagWashModel" "now" "[I" ∈ wsX10_layTrial := List.mem_of_getElem? (i := 1) rfl
theorem hd_X10_layTrial : yX10_layTrial.cls ≠ "java/lang/invoke/MethodHandle" ∧ yX10_layTrial.cls ≠ "java/lang/invoke/VarHandle" ∧ (parseMethodDescriptor yX10_layTrial.desc).map (fun d => d.parameters.length) = some 0 := by decide +kernel
set_option maxHeartbeats 4000000 in
set_option maxRecDepth 100000 in
theorem LGX10_layTrial_2 {p : Program} {l : Launch} {e : Env} {s : State} {m : MethodId} {args : Array Value} {below : List Frame} {meth : Method} {c : Code} {D : va_G} {cyI cyZ cyW : ClassId} {zW zO : Nat} {A : Nat → Prop} (C : Cx p s m args meth c cX10_layTrial RX10 "layTrial" wsX10_layTrial none 2 D (tyA cyI cyZ cyW) zW zO A) {md : Nat → Nat} {mflags : Int32} {mtubs : Int32} {mpegs : Int32} {mcl : (Nat → Int32)} {mws : (Nat → Int32)} {mho : (Nat → Int32)} {mnow : (Nat → Int32)} {mrd : (Nat → Int32)} {mrh : (Nat → Int32)} {mrf : Int32} {mtx : (Nat → Int32)} {mlen : Int32} {mat : Int32} {mfa : Int32} {mac : Int32} {mnx : Int32} {mrow : (Nat → Int32)} {msn : Int32} {mso : (Nat → Int32)} {msc : (Nat → Int32)} {msw : (Nat → Int32)} {mseed : Int64} {mik : (Nat → Int32)} {mkp : (Nat → Int32)} {x1 : Int32} {rec2 : Int32 → (Nat → Int32) → Option ((Nat → Int32))} {res : (Nat → Int32)} (hrec2 : ∀ (x1 : Int32) (mnow : (Nat → Int32)), rec2 x1 mnow = some res → Mx p l e ({ frames := 0, cells := 0, slots := 0, locals := 0 } : Room) s m args below meth c (MQ below (QV D (tyA cyI cyZ cyW) A (wMO cyI cyZ cyW md mflags mtubs mpegs mcl mws mho res mrd mrh mrf mtx mlen mat mfa mac mnx mrow msn mso msc msw mseed mik mkp)) args s 0 0 A) 2 D A 0 0 (wMO cyI cyZ cyW md mflags mtubs mpegs mcl mws mho mnow mrd mrh mrf mtx mlen mat mfa mac mnx mrow msn mso msc msw mseed mik mkp) 2 [(0, .ref (md 0)), (1, .int x1)] []) (h : gX10_layTrial_2 rec2 x1 mnow = some res) : Mx p l e ({ frames := 0, cells := 0, slots := 0, locals := 0 } : Room) s m args below meth c (MQ below (QV D (tyA cyI cyZ cyW) A (wMO cyI cyZ cyW md mflags mtubs mpegs mcl mws mho res mrd mrh mrf mtx mlen mat mfa mac mnx mrow msn mso msc msw mseed mik mkp)) args s 0 0 A) 2 D A 0 0 (wMO cyI cyZ cyW md mflags mtubs mpegs mcl mws mho mnow mrd mrh mrf mtx mlen mat mfa mac mnx mrow msn mso msc msw mseed mik mkp) 2 [(0, .ref (md 0)), (1, .int x1)] [] := by
  unfold gX10_layTrial_2 at h
  refine r_iload_n C dX10_layTrial_2 1 rfl rfl ?_
  refine r_bipush (v := 17) C dX10_layTrial_3 bp_17 ?_
  refine r_icmp_ge (tgt := 29) C dX10_layTrial_5 (by decide) (fun c1 => ?_) (fun c1 => ?_)
  · replace h := ob_t h c1
    have h9 := Option.some.inj h
    subst h9
    exact r_vret C rfl dX10_layTrial_29
  · replace h := ob_f h c1
    refine r_aload_n C dX10_layTrial_8 0 rfl rfl ?_
    refine r_get (ci := 7) (CC := RX10) (T := TX10) (N := 24) (v := .ref (md 4)) C hinX10_layTrial_X10 0 rfl rfl 6 (by decide) mX10_layTrial_1 rfl rfl dX10_layTrial_9 ?_
    refine r_bipush (v := 17) C dX10_layTrial_12 bp_17 ?_
    refine r_iload_n C dX10_layTrial_14 1 rfl rfl ?_
    refine r_iadd C dX10_layTrial_15 ?_
    refine r_aload_n C dX10_layTrial_16 0 rfl rfl ?_
    refine r_get (ci := 7) (CC := RX10) (T := TX10) (N := 24) (v := .ref (md 4)) C hinX10_layTrial_X10 0 rfl rfl 6 (by decide) mX10_layTrial_1 rfl rfl dX10_layTrial_17 ?_
    refine r_iload_n C dX10_layTrial_20 1 rfl rfl ?_
    obtain ⟨hu2, h⟩ := ob_if h
    refine r_iald C 4 0 rfl rfl (inb_vp hu2) dX10_layTrial_21 ?_
    obtain ⟨hu3, h⟩ := ob_if h
    refine r_iast (ws1 := (wMO cyI cyZ cyW md mflags mtubs mpegs mcl mws mho (upd mnow ((17 : Int32) + x1).toNatClampNeg (mnow x1.toNatClampNeg)) mrd mrh mrf mtx mlen mat mfa mac mnx mrow msn mso msc msw mseed mik mkp)) C 4 0 rfl rfl (inb_vp hu3) rfl dX10_layTrial_22 ?_
    refine r_iinc (v := 1) (lv' := [(1, .int (x1 + (1 : Int32))), (0, .ref (md 0))]) C dX10_layTrial_23 1 rfl ic_1 (by decide) rfl ?_
    refine r_goto (tgt := 2) C dX10_layTrial_26 (by decide) ?_
    refine r_lv (lv' := [(0, .ref (md 0)), (1, .int (x1 + (1 : Int32)))]) [1, 0] rfl ?_
    exact hrec2 (x1 + (1 : Int32)) (upd mnow ((17 : Int32) + x1).toNatClampNeg (mnow x1.toNatClampNeg)) h
set_option maxHeartbeats 4000000 in
set_option maxRecDepth 100000 in
theorem LX10_layTrial_2 {p : Program} {l : Launch} {e : Env} {s : State} {m : MethodId} {args : Array Value} {below : List Frame} {meth : Method} {c : Code} {D : va_G} {cyI cyZ cyW : ClassId} {zW zO : Nat} {A : Nat → Prop} (C : Cx p s m args meth c cX10_layTrial RX10 "layTrial" wsX10_layTrial none 2 D (tyA cyI cyZ cyW) zW zO A) {md : Nat → Nat} {mflags : Int32} {mtubs : Int32} {mpegs : Int32} {mcl : (Nat → Int32)} {mws : (Nat → Int32)} {mho : (Nat → Int32)} {mrd : (Nat → Int32)} {mrh : (Nat → Int32)} {mrf : Int32} {mtx : (Nat → Int32)} {mlen : Int32} {mat : Int32} {mfa : Int32} {mac : Int32} {mnx : Int32} {mrow : (Nat → Int32)} {msn : Int32} {mso : (Nat → Int32)} {msc : (Nat → Int32)} {msw : (Nat → Int32)} {mseed : Int64} {mik : (Nat → Int32)} {mkp : (Nat → Int32)}  {res : (Nat → Int32)}  : ∀ (n : Nat) (x1 : Int32) (mnow : (Nat → Int32)), fX10_layTrial_2   n x1 mnow = some res → Mx p l e ({ frames := 0, cells := 0, slots := 0, locals := 0 } : Room) s m args below meth c (MQ below (QV D (tyA cyI cyZ cyW) A (wMO cyI cyZ cyW md mflags mtubs mpegs mcl mws mho res mrd mrh mrf mtx mlen mat mfa mac mnx mrow msn mso msc msw mseed mik mkp)) args s 0 0 A) 2 D A 0 0 (wMO cyI cyZ cyW md mflags mtubs mpegs mcl mws mho mnow mrd mrh mrf mtx mlen mat mfa mac mnx mrow msn mso msc msw mseed mik mkp) 2 [(0, .ref (md 0)), (1, .int x1)] [] := by
  intro n
  induction n with
  | zero => intro x1 mnow h; cases h
  | succ n ih => intro x1 mnow h; exact LGX10_layTrial_2 C ih h
set_option maxHeartbeats 4000000 in
set_option maxRecDepth 100000 in
theorem kX10_layTrial {l : Launch} {D : va_G} {cyI cyZ cyW : ClassId} {zW zO : Nat} {md : Nat → Nat} {mflags : Int32} {mtubs : Int32} {mpegs : Int32} {mcl : (Nat → Int32)} {mws : (Nat → Int32)} {mho : (Nat → Int32)} {mnow : (Nat → Int32)} {mrd : (Nat → Int32)} {mrh : (Nat → Int32)} {mrf : Int32} {mtx : (Nat → Int32)} {mlen : Int32} {mat : Int32} {mfa : Int32} {mac : Int32} {mnx : Int32} {mrow : (Nat → Int32)} {msn : Int32} {mso : (Nat → Int32)} {msc : (Nat → Int32)} {msw : (Nat → Int32)} {mseed : Int64} {mik : (Nat → Int32)} {mkp : (Nat → Int32)}  {res : (Nat → Int32)} (h : fX10_layTrial mnow = some res) : KV l yX10_layTrial wsX10_layTrial ({ frames := 0, cells := 0, slots := 0, locals := 0 } : Room) D (tyA cyI cyZ cyW) zW zO [.ref (md 0)] (wMO cyI cyZ cyW md mflags mtubs mpegs mcl mws mho mnow mrd mrh mrf mtx mlen mat mfa mac mnx mrow msn mso msc msw mseed mik mkp) (wMO cyI cyZ cyW md mflags mtubs mpegs mcl mws mho res mrd mrh mrf mtx mlen mat mfa mac mnx mrow msn mso msc msw mseed mik mkp) := by
  refine enterV (cc := cX10_layTrial) (nL := 2) (ret := none) (by decide) rfl (Nat.le_of_ble_eq_true rfl) (fun p e s m below meth c A C => ?_)
  refine r_lv (lv' := [(0, .ref (md 0))]) [0] rfl ?_
  unfold fX10_layTrial at h
  refine r_iconst (v := 0) C dX10_layTrial_0 ic_0 ?_
  refine r_istore_n (lv' := [(1, .int (0 : Int32)), (0, .ref (md 0))]) C dX10_layTrial_1 rfl (by decide) rfl ?_
  refine r_lv (lv' := [(0, .ref (md 0)), (1, .int (0 : Int32))]) [1, 0] rfl ?_
  exact LX10_layTrial_2 C (mflags := mflags) (mtubs := mtubs) (mpegs := mpegs) (mcl := mcl) (mws := mws) (mho := mho) (mrd := mrd) (mrh := mrh) (mrf := mrf) (mtx := mtx) (mlen := mlen) (mat := mat) (mfa := mfa) (mac := mac) (mnx := mnx) (mrow := mrow) (msn := msn) (mso := mso) (msc := msc) (msw := msw) (mseed := mseed) (mik := mik) (mkp := mkp)  FU (0 : Int32) mnow h

/-! ===== FlagWashModel.quietOf ===== -/
def gX10_quietOf_2 (rec2 : Int32 → (Nat → Int32) → Option (Int32 × (Nat → Int32))) (x1 : Int32) (x2 : Int32) (mflags : Int32) (mtubs : Int32) (mpegs : Int32) (mcl : (Nat → Int32)) (mho : (Nat → Int32)) (mnow : (Nat → Int32)) : Option (Int32 × (Nat → Int32)) :=
 (if (40 : Int32) < x2 then (some ((-9 : Int32), mnow))
 else ((fX10_areIn (1 : Int32) (0 : Int32) mflags mnow).bind fun u2 => ((fX10_fights (u2 &&& x1) mflags mho).bind fun u3 => (if u3 ≤ 0 then ((fX10_passOn (1 : Int32) mflags mtubs mpegs mcl mnow).bind fun u5 => (rec2 (x2 + (1 : Int32)) u5.2))
 else (some (x2, mnow))))))
def fX10_quietOf_2  (x1 : Int32) (mflags : Int32) (mtubs : Int32) (mpegs : Int32) (mcl : (Nat → Int32)) (mho : (Nat → Int32)) : Nat → Int32 → (Nat → Int32) → Option (Int32 × (Nat → Int32))
  | 0 => fun _ _ => none
  | n + 1 => fun x2 mnow => gX10_quietOf_2 (fX10_quietOf_2  x1 mflags mtubs mpegs mcl mho n) x1 x2 mflags mtubs mpegs mcl mho mnow
def fX10_quietOf  (x1 : Int32) (mflags : Int32) (mtubs : Int32) (mpegs : Int32) (mcl : (Nat → Int32)) (mho : (Nat → Int32)) (mnow : (Nat → Int32)) : Option (Int32 × (Nat → Int32)) :=
 (fX10_quietOf_2  x1 mflags mtubs mpegs mcl mho FU (0 : Int32) mnow)
theorem hd_X10_quietOf : yX10_quietOf.cls ≠ "java/lang/invoke/MethodHandle" ∧ yX10_quietOf.cls ≠ "java/lang/invoke/VarHandle" ∧ (parseMethodDescriptor yX10_quietOf.desc).map (fun d => d.parameters.length) = some 1 := by decide +kernel
set_option maxHeartbeats 4000000 in
set_option maxRecDepth 100000 in
theorem LGX10_quietOf_2 {p : Program} {l : Launch} {e : Env} {s : State} {m : MethodId} {args : Array Value} {below : List Frame} {meth : Method} {c : Code} {D : va_G} {cyI cyZ cyW : ClassId} {zW zO : Nat} {A : Nat → Prop} (C : Cx p s m args meth c cX10_quietOf RX10 "quietOf" wsX10_quietOf (some .int) 3 D (tyA cyI cyZ cyW) zW zO A) {md : Nat → Nat} {mflags : Int32} {mtubs : Int32} {mpegs : Int32} {mcl : (Nat → Int32)} {mws : (Nat → Int32)} {mho : (Nat → Int32)} {mnow : (Nat → Int32)} {mrd : (Nat → Int32)} {mrh : (Nat → Int32)} {mrf : Int32} {mtx : (Nat → Int32)} {mlen : Int32} {mat : Int32} {mfa : Int32} {mac : Int32} {mnx : Int32} {mrow : (Nat → Int32)} {msn : Int32} {mso : (Nat → Int32)} {msc : (Nat → Int32)} {msw : (Nat → Int32)} {mseed : Int64} {mik : (Nat → Int32)} {mkp : (Nat → Int32)} {x1 : Int32} {x2 : Int32} {rec2 : Int32 → (Nat → Int32) → Option (Int32 × (Nat → Int32))} {res : Int32 × (Nat → Int32)} (hrec2 : ∀ (x2 : Int32) (mnow : (Nat → Int32)), rec2 x2 mnow = some res → Mx p l e ({ frames := 4, cells := 0, slots := 0, locals := 95 } : Room) s m args below meth c (MQ below (QI D (tyA cyI cyZ cyW) A (wMO cyI cyZ cyW md mflags mtubs mpegs mcl mws mho res.2 mrd mrh mrf mtx mlen mat mfa mac mnx mrow msn mso msc msw mseed mik mkp) res.1) args s 0 0 A) 3 D A 0 0 (wMO cyI cyZ cyW md mflags mtubs mpegs mcl mws mho mnow mrd mrh mrf mtx mlen mat mfa mac mnx mrow msn mso msc msw mseed mik mkp) 2 [(0, .ref (md 0)), (1, .int x1), (2, .int x2)] []) (h : gX10_quietOf_2 rec2 x1 x2 mflags mtubs mpegs mcl mho mnow = some res) : Mx p l e ({ frames := 4, cells := 0, slots := 0, locals := 95 } : Room) s m args below meth c (MQ below (QI D (tyA cyI cyZ cyW) A (wMO cyI cyZ cyW md mflags mtubs mpegs mcl mws mho res.2 mrd mrh mrf mtx mlen mat mfa mac mnx mrow msn mso msc msw mseed mik mkp) res.1) args s 0 0 A) 3 D A 0 0 (wMO cyI cyZ cyW md mflags mtubs mpegs mcl mws mho mnow mrd mrh mrf mtx mlen mat mfa mac mnx mrow msn mso msc msw mseed mik mkp) 2 [(0, .ref (md 0)), (1, .int x1), (2, .int x2)] [] := by
  unfold gX10_quietOf_2 at h
  refine r_iload_n C dX10_quietOf_2 2 rfl rfl ?_
  refine r_bipush (v := 40) C dX10_quietOf_3 bp_40 ?_
  refine r_icmp_gt (tgt := 37) C dX10_quietOf_5 (by decide) (fun c1 => ?_) (fun c1 => ?_)
  · replace h := ob_t h c1
    refine r_bipush (v := -9) C dX10_quietOf_37 bp_m9 ?_
    have h9 := Option.some.inj h
    subst h9
    exact r_iret C rfl dX10_quietOf_39
  · replace h := ob_f h c1
    refine r_aload_n C dX10_quietOf_8 0 rfl rfl ?_
    refine r_aload_n C dX10_quietOf_9 0 rfl rfl ?_
    refine r_iconst (v := 1) C dX10_quietOf_10 ic_1 ?_
    refine r_iconst (v := 0) C dX10_quietOf_11 ic_0 ?_
    obtain ⟨u2, hu2, h⟩ := ob_bind h
    refine r_readVI (q0 := 0) (As := [.int (1 : Int32), .int (0 : Int32)]) (rest := [.ref (md 0)]) C (kX10_areIn (md := md) (mflags := mflags) (mtubs := mtubs) (mpegs := mpegs) (mcl := mcl) (mws := mws) (mho := mho) (mnow := mnow) (mrd := mrd) (mrh := mrh) (mrf := mrf) (mtx := mtx) (mlen := mlen) (mat := mat) (mfa := mfa) (mac := mac) (mnx := mnx) (mrow := mrow) (msn := msn) (mso := mso) (msc := msc) (msw := msw) (mseed := mseed) (mik := mik) (mkp := mkp) (x1 := (1 : Int32)) (x2 := (0 : Int32)) hu2) gX10_quietOf_X10_areIn rfl rfl rfl ⟨rfl, hd_X10_areIn⟩ ⟨by decide, by decide⟩ rfl rfl rfl rfl [0, 1, 2, 3, 4, 5, 6, 7, 8, 9, 10, 11, 12, 13] (by decide) in_76 rfl (Nat.le_of_ble_eq_true rfl) dX10_quietOf_12 ⟨Nat.zero_le _, Nat.zero_le _⟩ ?_
    refine r_iload_n C dX10_quietOf_15 1 rfl rfl ?_
    refine r_iand C dX10_quietOf_16 ?_
    obtain ⟨u3, hu3, h⟩ := ob_bind h
    refine r_readVI (q0 := 0) (As := [.int (u2 &&& x1)]) (rest := []) C (kX10_fights (md := md) (mflags := mflags) (mtubs := mtubs) (mpegs := mpegs) (mcl := mcl) (mws := mws) (mho := mho) (mnow := mnow) (mrd := mrd) (mrh := mrh) (mrf := mrf) (mtx := mtx) (mlen := mlen) (mat := mat) (mfa := mfa) (mac := mac) (mnx := mnx) (mrow := mrow) (msn := msn) (mso := mso) (msc := msc) (msw := msw) (mseed := mseed) (mik := mik) (mkp := mkp) (x1 := (u2 &&& x1)) hu3) gX10_quietOf_X10_fights rfl rfl rfl ⟨rfl, hd_X10_fights⟩ ⟨by decide, by decide⟩ rfl rfl rfl rfl [0, 1, 2, 3, 4, 5, 6, 7, 8, 9, 10, 11, 12, 13] (by decide) in_76 rfl (Nat.le_of_ble_eq_true rfl) dX10_quietOf_17 ⟨Nat.zero_le _, Nat.zero_le _⟩ ?_
    refine r_if_le (tgt := 25) C dX10_quietOf_20 (by decide) (fun c4 => ?_) (fun c4 => ?_)
    · replace h := ob_t h c4
      refine r_aload_n C dX10_quietOf_25 0 rfl rfl ?_
      refine r_iconst (v := 1) C dX10_quietOf_26 ic_1 ?_
      obtain ⟨u5, hu5, h⟩ := ob_bind h
      refine r_callVI (q0 := 0) (As := [.int (1 : Int32)]) (rest := []) (ws1 := (wMO cyI cyZ cyW md mflags mtubs mpegs mcl mws mho u5.2 mrd mrh mrf mtx mlen mat mfa mac mnx mrow msn mso msc msw mseed mik mkp)) C (kX10_passOn (md := md) (mflags := mflags) (mtubs := mtubs) (mpegs := mpegs) (mcl := mcl) (mws := mws) (mho := mho) (mnow := mnow) (mrd := mrd) (mrh := mrh) (mrf := mrf) (mtx := mtx) (mlen := mlen) (mat := mat) (mfa := mfa) (mac := mac) (mnx := mnx) (mrow := mrow) (msn := msn) (mso := mso) (msc := msc) (msw := msw) (mseed := mseed) (mik := mik) (mkp := mkp) (x1 := (1 : Int32)) hu5) gX10_quietOf_X10_passOn rfl rfl rfl ⟨rfl, hd_X10_passOn⟩ ⟨by decide, by decide⟩ rfl rfl rfl rfl [0, 1, 2, 3, 4, 5, 6, 7, 8, 9, 10, 11, 12, 13] (by decide) in_79 se_79 (adrMO.trans adrMO.symm) rfl (Nat.le_of_ble_eq_true rfl) dX10_quietOf_27 ⟨Nat.zero_le _, Nat.zero_le _⟩ ?_
      refine r_pop C dX10_quietOf_30 rfl ?_
      refine r_iinc (v := 1) (lv' := [(2, .int (x2 + (1 : Int32))), (0, .ref (md 0)), (1, .int x1)]) C dX10_quietOf_31 2 rfl ic_1 (by decide) rfl ?_
      refine r_goto (tgt := 2) C dX10_quietOf_34 (by decide) ?_
      refine r_lv (lv' := [(0, .ref (md 0)), (1, .int x1), (2, .int (x2 + (1 : Int32)))]) [1, 2, 0] rfl ?_
      exact hrec2 (x2 + (1 : Int32)) u5.2 h
    · replace h := ob_f h c4
      refine r_iload_n C dX10_quietOf_23 2 rfl rfl ?_
      have h9 := Option.some.inj h
      subst h9
      exact r_iret C rfl dX10_quietOf_24
set_option maxHeartbeats 4000000 in
set_option maxRecDepth 100000 in
theorem LX10_quietOf_2 {p : Program} {l : Launch} {e : Env} {s : State} {m : MethodId} {args : Array Value} {below : List Frame} {meth : Method} {c : Code} {D : va_G} {cyI cyZ cyW : ClassId} {zW zO : Nat} {A : Nat → Prop} (C : Cx p s m args meth c cX10_quietOf RX10 "quietOf" wsX10_quietOf (some .int) 3 D (tyA cyI cyZ cyW) zW zO A) {md : Nat → Nat} {x1 : Int32} {mflags : Int32} {mtubs : Int32} {mpegs : Int32} {mcl : (Nat → Int32)} {mws : (Nat → Int32)} {mho : (Nat → Int32)} {mrd : (Nat → Int32)} {mrh : (Nat → Int32)} {mrf : Int32} {mtx : (Nat → Int32)} {mlen : Int32} {mat : Int32} {mfa : Int32} {mac : Int32} {mnx : Int32} {mrow : (Nat → Int32)} {msn : Int32} {mso : (Nat → Int32)} {msc : (Nat → Int32)} {msw : (Nat → Int32)} {mseed : Int64} {mik : (Nat → Int32)} {mkp : (Nat → Int32)}  {res : Int32 × (Nat → Int32)}  : ∀ (n : Nat) (x2 : Int32) (mnow : (Nat → Int32)), fX10_quietOf_2  x1 mflags mtubs mpegs mcl mho n x2 mnow = some res → Mx p l e ({ frames := 4, cells := 0, slots := 0, locals := 95 } : Room) s m args below meth c (MQ below (QI D (tyA cyI cyZ cyW) A (wMO cyI cyZ cyW md mflags mtubs mpegs mcl mws mho res.2 mrd mrh mrf mtx mlen mat mfa mac mnx mrow msn mso msc msw mseed mik mkp) res.1) args s 0 0 A) 3 D A 0 0 (wMO cyI cyZ cyW md mflags mtubs mpegs mcl mws mho mnow mrd mrh mrf mtx mlen mat mfa mac mnx mrow msn mso msc msw mseed mik mkp) 2 [(0, .ref (md 0)), (1, .int x1), (2, .int x2)] [] := by
  intro n
  induction n with
  | zero => intro x2 mnow h; cases h
  | succ n ih => intro x2 mnow h; exact LGX10_quietOf_2 C ih h
set_option maxHeartbeats 4000000 in
set_option maxRecDepth 100000 in
theorem kX10_quietOf {l : Launch} {D : va_G} {cyI cyZ cyW : ClassId} {zW zO : Nat} {md : Nat → Nat} {mflags : Int32} {mtubs : Int32} {mpegs : Int32} {mcl : (Nat → Int32)} {mws : (Nat → Int32)} {mho : (Nat → Int32)} {mnow : (Nat → Int32)} {mrd : (Nat → Int32)} {mrh : (Nat → Int32)} {mrf : Int32} {mtx : (Nat → Int32)} {mlen : Int32} {mat : Int32} {mfa : Int32} {mac : Int32} {mnx : Int32} {mrow : (Nat → Int32)} {msn : Int32} {mso : (Nat → Int32)} {msc : (Nat → Int32)} {msw : (Nat → Int32)} {mseed : Int64} {mik : (Nat → Int32)} {mkp : (Nat → Int32)} {x1 : Int32} {res : Int32 × (Nat → Int32)} (h : fX10_quietOf x1 mflags mtubs mpegs mcl mho mnow = some res) : KI l yX10_quietOf wsX10_quietOf ({ frames := 4, cells := 0, slots := 0, locals := 95 } : Room) D (tyA cyI cyZ cyW) zW zO [.ref (md 0), .int x1] (wMO cyI cyZ cyW md mflags mtubs mpegs mcl mws mho mnow mrd mrh mrf mtx mlen mat mfa mac mnx mrow msn mso msc msw mseed mik mkp) (wMO cyI cyZ cyW md mflags mtubs mpegs mcl mws mho res.2 mrd mrh mrf mtx mlen mat mfa mac mnx mrow msn mso msc msw mseed mik mkp) res.1 := by
  refine enterI (cc := cX10_quietOf) (nL := 3) (ret := (some .int)) (by decide) rfl (Nat.le_of_ble_eq_true rfl) (fun p e s m below meth c A C => ?_)
  refine r_lv (lv' := [(0, .ref (md 0)), (1, .int x1)]) [0, 1] rfl ?_
  unfold fX10_quietOf at h
  refine r_iconst (v := 0) C dX10_quietOf_0 ic_0 ?_
  refine r_istore_n (lv' := [(2, .int (0 : Int32)), (0, .ref (md 0)), (1, .int x1)]) C dX10_quietOf_1 rfl (by decide) rfl ?_
  refine r_lv (lv' := [(0, .ref (md 0)), (1, .int x1), (2, .int (0 : Int32))]) [1, 2, 0] rfl ?_
  exact LX10_quietOf_2 C (x1 := x1) (mflags := mflags) (mtubs := mtubs) (mpegs := mpegs) (mcl := mcl) (mws := mws) (mho := mho) (mrd := mrd) (mrh := mrh) (mrf := mrf) (mtx := mtx) (mlen := mlen) (mat := mat) (mfa := mfa) (mac := mac) (mnx := mnx) (mrow := mrow) (msn := msn) (mso := mso) (msc := msc) (msw := msw) (mseed := mseed) (mik := mik) (mkp := mkp)  FU (0 : Int32) mnow h

/-! ===== FlagWashModel.peace ===== -/
def fX10_peace  (x1 : Int32) (x2 : Int32) (mflags : Int32) (mtubs : Int32) (mpegs : Int32) (mcl : (Nat → Int32)) (mho : (Nat → Int32)) (mnow : (Nat → Int32)) : Option (Int32 × (Nat → Int32)) :=
 ((fX10_isFlag x1 mflags).bind fun u1 => (if u1 = true then ((fX10_isFlag x2 mflags).bind fun u3 => (if u3 = true then (if x1 = x2 then (some ((-2 : Int32), mnow))
 else ((fX10_layTrial mnow).bind fun u6 => (if inb x1 5 = true then ((fX10_has (mho x1.toNatClampNeg) x2).bind fun u8 => (if u8 = true then ((fX10_quietOf (((1 : Int32) <<< (x1 &&& 31)) ||| ((1 : Int32) <<< (x2 &&& 31))) mflags mtubs mpegs mcl mho u6).bind fun u10 => (some (u10.1, u10.2)))
 else (some ((-9 : Int32), u6)))) else none)))
 else (some ((-1 : Int32), mnow))))
 else (some ((-1 : Int32), mnow))))
theorem hinX10_peace_X10 : ∀ w ∈ u_ws RX10 TX10 24, w ∈ wsX10_peace := fun w h => List.mem_cons_of_mem _ (List.mem_append_right _ h)
theorem mX10_peace_1 : Cond.fieldLink RX10 16 "FlagWashModel" "hostile" "[I" ∈ wsX10_peace := List.mem_of_getElem? (i := 1) rfl
theorem hd_X10_peace : yX10_peace.cls ≠ "java/lang/invoke/MethodHandle" ∧ yX10_peace.cls ≠ "java/lang/invoke/VarHandle" ∧ (parseMethodDescriptor yX10_peace.desc).map (fun d => d.parameters.length) = some 2 := by decide +kernel
set_option maxHeartbeats 4000000 in
set_option maxRecDepth 100000 in
theorem kX10_peace {l : Launch} {D : va_G} {cyI cyZ cyW : ClassId} {zW zO : Nat} {md : Nat → Nat} {mflags : Int32} {mtubs : Int32} {mpegs : Int32} {mcl : (Nat → Int32)} {mws : (Nat → Int32)} {mho : (Nat → Int32)} {mnow : (Nat → Int32)} {mrd : (Nat → Int32)} {mrh : (Nat → Int32)} {mrf : Int32} {mtx : (Nat → Int32)} {mlen : Int32} {mat : Int32} {mfa : Int32} {mac : Int32} {mnx : Int32} {mrow : (Nat → Int32)} {msn : Int32} {mso : (Nat → Int32)} {msc : (Nat → Int32)} {msw : (Nat → Int32)} {mseed : Int64} {mik : (Nat → Int32)} {mkp : (Nat → Int32)} {x1 : Int32} {x2 : Int32} {res : Int32 × (Nat → Int32)} (h : fX10_peace x1 x2 mflags mtubs mpegs mcl mho mnow = some res) : KI l yX10_peace wsX10_peace ({ frames := 5, cells := 0, slots := 0, locals := 117 } : Room) D (tyA cyI cyZ cyW) zW zO [.ref (md 0), .int x1, .int x2] (wMO cyI cyZ cyW md mflags mtubs mpegs mcl mws mho mnow mrd mrh mrf mtx mlen mat mfa mac mnx mrow msn mso msc msw mseed mik mkp) (wMO cyI cyZ cyW md mflags mtubs mpegs mcl mws mho res.2 mrd mrh mrf mtx mlen mat mfa mac mnx mrow msn mso msc msw mseed mik mkp) res.1 := by
  refine enterI (cc := cX10_peace) (nL := 3) (ret := (some .int)) (by decide) rfl (Nat.le_of_ble_eq_true rfl) (fun p e s m below meth c A C => ?_)
  refine r_lv (lv' := [(0, .ref (md 0)), (1, .int x1), (2, .int x2)]) [0, 1, 2] rfl ?_
  unfold fX10_peace at h
  refine r_aload_n C dX10_peace_0 0 rfl rfl ?_
  refine r_iload_n C dX10_peace_1 1 rfl rfl ?_
  obtain ⟨u1, hu1, h⟩ := ob_bind h
  refine r_readVI (q0 := 0) (As := [.int x1]) (rest := []) C (kX10_isFlag (md := md) (mflags := mflags) (mtubs := mtubs) (mpegs := mpegs) (mcl := mcl) (mws := mws) (mho := mho) (mnow := mnow) (mrd := mrd) (mrh := mrh) (mrf := mrf) (mtx := mtx) (mlen := mlen) (mat := mat) (mfa := mfa) (mac := mac) (mnx := mnx) (mrow := mrow) (msn := msn) (mso := mso) (msc := msc) (msw := msw) (mseed := mseed) (mik := mik) (mkp := mkp) (x1 := x1) hu1) gX10_peace_X10_isFlag rfl rfl rfl ⟨rfl, hd_X10_isFlag⟩ ⟨by decide, by decide⟩ rfl rfl rfl rfl [0, 1, 2, 3, 4, 5, 6, 7, 8, 9, 10, 11, 12, 13] (by decide) in_76 rfl (Nat.le_of_ble_eq_true rfl) dX10_peace_2 ⟨Nat.zero_le _, Nat.zero_le _⟩ ?_
  refine r_ifb_eq (tgt := 16) C dX10_peace_5 (by decide) (fun c2 => ?_) (fun c2 => ?_)
  · replace h := ob_bf h c2
    refine r_iconst (v := -1) C dX10_peace_16 ic_m1 ?_
    have h9 := Option.some.inj h
    subst h9
    exact r_iret C rfl dX10_peace_17
  · replace h := ob_t h c2
    refine r_aload_n C dX10_peace_8 0 rfl rfl ?_
    refine r_iload_n C dX10_peace_9 2 rfl rfl ?_
    obtain ⟨u3, hu3, h⟩ := ob_bind h
    refine r_readVI (q0 := 0) (As := [.int x2]) (rest := []) C (kX10_isFlag (md := md) (mflags := mflags) (mtubs := mtubs) (mpegs := mpegs) (mcl := mcl) (mws := mws) (mho := mho) (mnow := mnow) (mrd := mrd) (mrh := mrh) (mrf := mrf) (mtx := mtx) (mlen := mlen) (mat := mat) (mfa := mfa) (mac := mac) (mnx := mnx) (mrow := mrow) (msn := msn) (mso := mso) (msc := msc) (msw := msw) (mseed := mseed) (mik := mik) (mkp := mkp) (x1 := x2) hu3) gX10_peace_X10_isFlag rfl rfl rfl ⟨rfl, hd_X10_isFlag⟩ ⟨by decide, by decide⟩ rfl rfl rfl rfl [0, 1, 2, 3, 4, 5, 6, 7, 8, 9, 10, 11, 12, 13] (by decide) in_76 rfl (Nat.le_of_ble_eq_true rfl) dX10_peace_10 ⟨Nat.zero_le _, Nat.zero_le _⟩ ?_
    refine r_ifb_ne (tgt := 18) C dX10_peace_13 (by decide) (fun c4 => ?_) (fun c4 => ?_)
    · replace h := ob_t h c4
      refine r_iload_n C dX10_peace_18 1 rfl rfl ?_
      refine r_iload_n C dX10_peace_19 2 rfl rfl ?_
      refine r_icmp_ne (tgt := 26) C dX10_peace_20 (by decide) (fun c5 => ?_) (fun c5 => ?_)
      · replace h := ob_f h c5
        refine r_aload_n C dX10_peace_26 0 rfl rfl ?_
        obtain ⟨u6, hu6, h⟩ := ob_bind h
        refine r_callVV (q0 := 0) (As := []) (rest := []) (ws1 := (wMO cyI cyZ cyW md mflags mtubs mpegs mcl mws mho u6 mrd mrh mrf mtx mlen mat mfa mac mnx mrow msn mso msc msw mseed mik mkp)) C (kX10_layTrial (md := md) (mflags := mflags) (mtubs := mtubs) (mpegs := mpegs) (mcl := mcl) (mws := mws) (mho := mho) (mnow := mnow) (mrd := mrd) (mrh := mrh) (mrf := mrf) (mtx := mtx) (mlen := mlen) (mat := mat) (mfa := mfa) (mac := mac) (mnx := mnx) (mrow := mrow) (msn := msn) (mso := mso) (msc := msc) (msw := msw) (mseed := mseed) (mik := mik) (mkp := mkp)  hu6) gX10_peace_X10_layTrial rfl rfl rfl ⟨rfl, hd_X10_layTrial⟩ ⟨by decide, by decide⟩ rfl rfl rfl rfl [0, 1, 2, 3, 4, 5, 6, 7, 8, 9, 10, 11, 12, 13] (by decide) in_79 se_79 (adrMO.trans adrMO.symm) rfl (Nat.le_of_ble_eq_true rfl) dX10_peace_27 ⟨Nat.zero_le _, Nat.zero_le _⟩ ?_
        refine r_aload_n C dX10_peace_30 0 rfl rfl ?_
        refine r_get (ci := 7) (CC := RX10) (T := TX10) (N := 24) (v := .ref (md 3)) C hinX10_peace_X10 0 rfl rfl 5 (by decide) mX10_peace_1 rfl rfl dX10_peace_31 ?_
        refine r_iload_n C dX10_peace_34 1 rfl rfl ?_
        obtain ⟨hu7, h⟩ := ob_if h
        refine r_iald C 3 0 rfl rfl (inb_vp hu7) dX10_peace_35 ?_
        refine r_iload_n C dX10_peace_36 2 rfl rfl ?_
        obtain ⟨u8, hu8, h⟩ := ob_bind h
        refine r_readSI (As := [.int (mho x1.toNatClampNeg), .int x2]) (rest := []) C (kX10_has   (x0 := (mho x1.toNatClampNeg)) (x1 := x2) hu8) gX10_peace_X10_has rfl rfl rfl hd_X10_has ⟨by decide, by decide⟩ rfl [] (by decide) rfl rfl (Nat.le_of_ble_eq_true rfl) dX10_peace_37 ⟨Nat.zero_le _, Nat.zero_le _⟩ ?_
        refine r_ifb_eq (tgt := 57) C dX10_peace_40 (by decide) (fun c9 => ?_) (fun c9 => ?_)
        · replace h := ob_bf h c9
          refine r_bipush (v := -9) C dX10_peace_57 bp_m9 ?_
          have h9 := Option.some.inj h
          subst h9
          exact r_iret C rfl dX10_peace_59
        · replace h := ob_t h c9
          refine r_aload_n C dX10_peace_43 0 rfl rfl ?_
          refine r_iconst (v := 1) C dX10_peace_44 ic_1 ?_
          refine r_iload_n C dX10_peace_45 1 rfl rfl ?_
          refine r_ishl C dX10_peace_46 ?_
          refine r_iconst (v := 1) C dX10_peace_47 ic_1 ?_
          refine r_iload_n C dX10_peace_48 2 rfl rfl ?_
          refine r_ishl C dX10_peace_49 ?_
          refine r_ior C dX10_peace_50 ?_
          obtain ⟨u10, hu10, h⟩ := ob_bind h
          refine r_callVI (q0 := 0) (As := [.int (((1 : Int32) <<< (x1 &&& 31)) ||| ((1 : Int32) <<< (x2 &&& 31)))]) (rest := []) (ws1 := (wMO cyI cyZ cyW md mflags mtubs mpegs mcl mws mho u10.2 mrd mrh mrf mtx mlen mat mfa mac mnx mrow msn mso msc msw mseed mik mkp)) C (kX10_quietOf (md := md) (mflags := mflags) (mtubs := mtubs) (mpegs := mpegs) (mcl := mcl) (mws := mws) (mho := mho) (mnow := u6) (mrd := mrd) (mrh := mrh) (mrf := mrf) (mtx := mtx) (mlen := mlen) (mat := mat) (mfa := mfa) (mac := mac) (mnx := mnx) (mrow := mrow) (msn := msn) (mso := mso) (msc := msc) (msw := msw) (mseed := mseed) (mik := mik) (mkp := mkp) (x1 := (((1 : Int32) <<< (x1 &&& 31)) ||| ((1 : Int32) <<< (x2 &&& 31)))) hu10) gX10_peace_X10_quietOf rfl rfl rfl ⟨rfl, hd_X10_quietOf⟩ ⟨by decide, by decide⟩ rfl rfl rfl rfl [0, 1, 2, 3, 4, 5, 6, 7, 8, 9, 10, 11, 12, 13] (by decide) in_79 se_79 (adrMO.trans adrMO.symm) rfl (Nat.le_of_ble_eq_true rfl) dX10_peace_51 ⟨Nat.zero_le _, Nat.zero_le _⟩ ?_
          refine r_goto (tgt := 59) C dX10_peace_54 (by decide) ?_
          have h9 := Option.some.inj h
          subst h9
          exact r_iret C rfl dX10_peace_59
      · replace h := ob_t h c5
        refine r_bipush (v := -2) C dX10_peace_23 bp_m2 ?_
        have h9 := Option.some.inj h
        subst h9
        exact r_iret C rfl dX10_peace_25
    · replace h := ob_bf h c4
      refine r_iconst (v := -1) C dX10_peace_16 ic_m1 ?_
      have h9 := Option.some.inj h
      subst h9
      exact r_iret C rfl dX10_peace_17

/-! ===== FlagWashModel.quiet ===== -/
def fX10_quiet  (mflags : Int32) (mtubs : Int32) (mpegs : Int32) (mcl : (Nat → Int32)) (mho : (Nat → Int32)) (mnow : (Nat → Int32)) : Option (Int32 × (Nat → Int32)) :=
 ((fX10_layTrial mnow).bind fun u1 => ((fX10_quietOf (31 : Int32) mflags mtubs mpegs mcl mho u1).bind fun u2 => (some (u2.1, u2.2))))
theorem hd_X10_quiet : yX10_quiet.cls ≠ "java/lang/invoke/MethodHandle" ∧ yX10_quiet.cls ≠ "java/lang/invoke/VarHandle" ∧ (parseMethodDescriptor yX10_quiet.desc).map (fun d => d.parameters.length) = some 0 := by decide +kernel
set_option maxHeartbeats 4000000 in
set_option maxRecDepth 100000 in
theorem kX10_quiet {l : Launch} {D : va_G} {cyI cyZ cyW : ClassId} {zW zO : Nat} {md : Nat → Nat} {mflags : Int32} {mtubs : Int32} {mpegs : Int32} {mcl : (Nat → Int32)} {mws : (Nat → Int32)} {mho : (Nat → Int32)} {mnow : (Nat → Int32)} {mrd : (Nat → Int32)} {mrh : (Nat → Int32)} {mrf : Int32} {mtx : (Nat → Int32)} {mlen : Int32} {mat : Int32} {mfa : Int32} {mac : Int32} {mnx : Int32} {mrow : (Nat → Int32)} {msn : Int32} {mso : (Nat → Int32)} {msc : (Nat → Int32)} {msw : (Nat → Int32)} {mseed : Int64} {mik : (Nat → Int32)} {mkp : (Nat → Int32)}  {res : Int32 × (Nat → Int32)} (h : fX10_quiet mflags mtubs mpegs mcl mho mnow = some res) : KI l yX10_quiet wsX10_quiet ({ frames := 5, cells := 0, slots := 0, locals := 117 } : Room) D (tyA cyI cyZ cyW) zW zO [.ref (md 0)] (wMO cyI cyZ cyW md mflags mtubs mpegs mcl mws mho mnow mrd mrh mrf mtx mlen mat mfa mac mnx mrow msn mso msc msw mseed mik mkp) (wMO cyI cyZ cyW md mflags mtubs mpegs mcl mws mho res.2 mrd mrh mrf mtx mlen mat mfa mac mnx mrow msn mso msc msw mseed mik mkp) res.1 := by
  refine enterI (cc := cX10_quiet) (nL := 1) (ret := (some .int)) (by decide) rfl (Nat.le_of_ble_eq_true rfl) (fun p e s m below meth c A C => ?_)
  refine r_lv (lv' := [(0, .ref (md 0))]) [0] rfl ?_
  unfold fX10_quiet at h
  refine r_aload_n C dX10_quiet_0 0 rfl rfl ?_
  obtain ⟨u1, hu1, h⟩ := ob_bind h
  refine r_callVV (q0 := 0) (As := []) (rest := []) (ws1 := (wMO cyI cyZ cyW md mflags mtubs mpegs mcl mws mho u1 mrd mrh mrf mtx mlen mat mfa mac mnx mrow msn mso msc msw mseed mik mkp)) C (kX10_layTrial (md := md) (mflags := mflags) (mtubs := mtubs) (mpegs := mpegs) (mcl := mcl) (mws := mws) (mho := mho) (mnow := mnow) (mrd := mrd) (mrh := mrh) (mrf := mrf) (mtx := mtx) (mlen := mlen) (mat := mat) (mfa := mfa) (mac := mac) (mnx := mnx) (mrow := mrow) (msn := msn) (mso := mso) (msc := msc) (msw := msw) (mseed := mseed) (mik := mik) (mkp := mkp)  hu1) gX10_quiet_X10_layTrial rfl rfl rfl ⟨rfl, hd_X10_layTrial⟩ ⟨by decide, by decide⟩ rfl rfl rfl rfl [0, 1, 2, 3, 4, 5, 6, 7, 8, 9, 10, 11, 12, 13] (by decide) in_79 se_79 (adrMO.trans adrMO.symm) rfl (Nat.le_of_ble_eq_true rfl) dX10_quiet_1 ⟨Nat.zero_le _, Nat.zero_le _⟩ ?_
  refine r_aload_n C dX10_quiet_4 0 rfl rfl ?_
  refine r_bipush (v := 31) C dX10_quiet_5 bp_31 ?_
  obtain ⟨u2, hu2, h⟩ := ob_bind h
  refine r_callVI (q0 := 0) (As := [.int (31 : Int32)]) (rest := []) (ws1 := (wMO cyI cyZ cyW md mflags mtubs mpegs mcl mws mho u2.2 mrd mrh mrf mtx mlen mat mfa mac mnx mrow msn mso msc msw mseed mik mkp)) C (kX10_quietOf (md := md) (mflags := mflags) (mtubs := mtubs) (mpegs := mpegs) (mcl := mcl) (mws := mws) (mho := mho) (mnow := u1) (mrd := mrd) (mrh := mrh) (mrf := mrf) (mtx := mtx) (mlen := mlen) (mat := mat) (mfa := mfa) (mac := mac) (mnx := mnx) (mrow := mrow) (msn := msn) (mso := mso) (msc := msc) (msw := msw) (mseed := mseed) (mik := mik) (mkp := mkp) (x1 := (31 : Int32)) hu2) gX10_quiet_X10_quietOf rfl rfl rfl ⟨rfl, hd_X10_quietOf⟩ ⟨by decide, by decide⟩ rfl rfl rfl rfl [0, 1, 2, 3, 4, 5, 6, 7, 8, 9, 10, 11, 12, 13] (by decide) in_79 se_79 (adrMO.trans adrMO.symm) rfl (Nat.le_of_ble_eq_true rfl) dX10_quiet_7 ⟨Nat.zero_le _, Nat.zero_le _⟩ ?_
  have h9 := Option.some.inj h
  subst h9
  exact r_iret C rfl dX10_quiet_10
