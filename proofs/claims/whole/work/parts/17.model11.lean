/-! ===== FlagWashModel.tenTo ===== -/
def gX10_tenTo_4 (rec4 : Int32 → Int32 → Option (Int32)) (x0 : Int32) (x1 : Int32) (x2 : Int32) : Option (Int32) :=
 (if x0 ≤ x2 then (some x1)
 else (rec4 (x1 * (10 : Int32)) (x2 + (1 : Int32))))
def fX10_tenTo_4  (x0 : Int32) : Nat → Int32 → Int32 → Option (Int32)
  | 0 => fun _ _ => none
  | n + 1 => fun x1 x2 => gX10_tenTo_4 (fX10_tenTo_4  x0 n) x0 x1 x2
def fX10_tenTo  (x0 : Int32) : Option (Int32) :=
 (fX10_tenTo_4  x0 FU (1 : Int32) (0 : Int32))
theorem hd_X10_tenTo : yX10_tenTo.cls ≠ "java/lang/invoke/MethodHandle" ∧ yX10_tenTo.cls ≠ "java/lang/invoke/VarHandle" ∧ (parseMethodDescriptor yX10_tenTo.desc).map (fun d => d.parameters.length) = some 1 := by decide +kernel
set_option maxHeartbeats 4000000 in
set_option maxRecDepth 100000 in
theorem LGX10_tenTo_4 {p : Program} {l : Launch} {e : Env} {s : State} {m : MethodId} {args : Array Value} {below : List Frame} {meth : Method} {c : Code} {D : va_G} {cyI cyZ cyW : ClassId} {zW zO : Nat} {A : Nat → Prop} (C : Cx p s m args meth c cX10_tenTo RX10 "tenTo" wsX10_tenTo (some .int) 3 D (tyA cyI cyZ cyW) zW zO A)   {x0 : Int32} {x1 : Int32} {x2 : Int32} {rec4 : Int32 → Int32 → Option (Int32)} {res : Int32} (hrec4 : ∀ (x1 : Int32) (x2 : Int32), rec4 x1 x2 = some res → Mx p l e ({ frames := 0, cells := 0, slots := 0, locals := 0 } : Room) s m args below meth c (MQ below (QI D (tyA cyI cyZ cyW) A ([] : va_W) res) args s 0 0 A) 3 D A 0 0 ([] : va_W) 4 [(0, .int x0), (1, .int x1), (2, .int x2)] []) (h : gX10_tenTo_4 rec4 x0 x1 x2 = some res) : Mx p l e ({ frames := 0, cells := 0, slots := 0, locals := 0 } : Room) s m args below meth c (MQ below (QI D (tyA cyI cyZ cyW) A ([] : va_W) res) args s 0 0 A) 3 D A 0 0 ([] : va_W) 4 [(0, .int x0), (1, .int x1), (2, .int x2)] [] := by
  unfold gX10_tenTo_4 at h
  refine r_iload_n C dX10_tenTo_4 2 rfl rfl ?_
  refine r_iload_n C dX10_tenTo_5 0 rfl rfl ?_
  refine r_icmp_ge (tgt := 20) C dX10_tenTo_6 (by decide) (fun c1 => ?_) (fun c1 => ?_)
  · replace h := ob_t h c1
    refine r_iload_n C dX10_tenTo_20 1 rfl rfl ?_
    have h9 := Option.some.inj h
    subst h9
    exact r_iret C rfl dX10_tenTo_21
  · replace h := ob_f h c1
    refine r_iload_n C dX10_tenTo_9 1 rfl rfl ?_
    refine r_bipush (v := 10) C dX10_tenTo_10 bp_10 ?_
    refine r_imul C dX10_tenTo_12 ?_
    refine r_istore_n (lv' := [(1, .int (x1 * (10 : Int32))), (0, .int x0), (2, .int x2)]) C dX10_tenTo_13 rfl (by decide) rfl ?_
    refine r_iinc (v := 1) (lv' := [(2, .int (x2 + (1 : Int32))), (1, .int (x1 * (10 : Int32))), (0, .int x0)]) C dX10_tenTo_14 2 rfl ic_1 (by decide) rfl ?_
    refine r_goto (tgt := 4) C dX10_tenTo_17 (by decide) ?_
    refine r_lv (lv' := [(0, .int x0), (1, .int (x1 * (10 : Int32))), (2, .int (x2 + (1 : Int32)))]) [2, 1, 0] rfl ?_
    exact hrec4 (x1 * (10 : Int32)) (x2 + (1 : Int32)) h
set_option maxHeartbeats 4000000 in
set_option maxRecDepth 100000 in
theorem LX10_tenTo_4 {p : Program} {l : Launch} {e : Env} {s : State} {m : MethodId} {args : Array Value} {below : List Frame} {meth : Method} {c : Code} {D : va_G} {cyI cyZ cyW : ClassId} {zW zO : Nat} {A : Nat → Prop} (C : Cx p s m args meth c cX10_tenTo RX10 "tenTo" wsX10_tenTo (some .int) 3 D (tyA cyI cyZ cyW) zW zO A)  {x0 : Int32}  {res : Int32}  : ∀ (n : Nat) (x1 : Int32) (x2 : Int32), fX10_tenTo_4  x0 n x1 x2 = some res → Mx p l e ({ frames := 0, cells := 0, slots := 0, locals := 0 } : Room) s m args below meth c (MQ below (QI D (tyA cyI cyZ cyW) A ([] : va_W) res) args s 0 0 A) 3 D A 0 0 ([] : va_W) 4 [(0, .int x0), (1, .int x1), (2, .int x2)] [] := by
  intro n
  induction n with
  | zero => intro x1 x2 h; cases h
  | succ n ih => intro x1 x2 h; exact LGX10_tenTo_4 C ih h
set_option maxHeartbeats 4000000 in
set_option maxRecDepth 100000 in
theorem kX10_tenTo {l : Launch} {D : va_G} {cyI cyZ cyW : ClassId} {zW zO : Nat}   {x0 : Int32} {res : Int32} (h : fX10_tenTo x0 = some res) : KI l yX10_tenTo wsX10_tenTo ({ frames := 0, cells := 0, slots := 0, locals := 0 } : Room) D (tyA cyI cyZ cyW) zW zO [.int x0] ([] : va_W) ([] : va_W) res := by
  refine enterI (cc := cX10_tenTo) (nL := 3) (ret := (some .int)) (by decide) rfl (Nat.le_of_ble_eq_true rfl) (fun p e s m below meth c A C => ?_)
  refine r_lv (lv' := [(0, .int x0)]) [0] rfl ?_
  unfold fX10_tenTo at h
  refine r_iconst (v := 1) C dX10_tenTo_0 ic_1 ?_
  refine r_istore_n (lv' := [(1, .int (1 : Int32)), (0, .int x0)]) C dX10_tenTo_1 rfl (by decide) rfl ?_
  refine r_iconst (v := 0) C dX10_tenTo_2 ic_0 ?_
  refine r_istore_n (lv' := [(2, .int (0 : Int32)), (1, .int (1 : Int32)), (0, .int x0)]) C dX10_tenTo_3 rfl (by decide) rfl ?_
  refine r_lv (lv' := [(0, .int x0), (1, .int (1 : Int32)), (2, .int (0 : Int32))]) [2, 1, 0] rfl ?_
  exact LX10_tenTo_4 C (x0 := x0)  FU (1 : Int32) (0 : Int32) h

/-! ===== FlagWashModel.tryThing ===== -/
def fX10_tryThing_78  (x1 : Int32) (y0 : Bool) (mnow : (Nat → Int32)) : Option (Bool × (Nat → Int32)) :=
 (if y0 = true then ((fX10_pullOn (1 : Int32) (x1 - (6 : Int32)) mnow).bind fun u13 => (some (y0, u13)))
 else (some (y0, mnow)))
def fX10_tryThing_77  (x1 : Int32) (mnow : (Nat → Int32)) : Option (Bool × (Nat → Int32)) :=
 (fX10_tryThing_78  x1 false mnow)
def fX10_tryThing  (x1 : Int32) (mflags : Int32) (mtubs : Int32) (mpegs : Int32) (mcl : (Nat → Int32)) (mws : (Nat → Int32)) (mnow : (Nat → Int32)) : Option (Bool × (Nat → Int32)) :=
 (if x1 = 0 then ((fX10_passOn (1 : Int32) mflags mtubs mpegs mcl mnow).bind fun u10 => (if u10.1 < 0 then (some (false, u10.2))
 else (some (true, u10.2))))
 else (if (6 : Int32) ≤ x1 then ((fX10_isFlag (x1 - (6 : Int32)) mflags).bind fun u3 => (if u3 = true then (if inb (((22 : Int32) + x1) - (6 : Int32)) 34 = true then (if (mnow (((22 : Int32) + x1) - (6 : Int32)).toNatClampNeg) = 0 then (fX10_tryThing_77  x1 mnow)
 else (fX10_tryThing_78  x1 true mnow)) else none)
 else (fX10_tryThing_77  x1 mnow)))
 else ((fX10_canSend (1 : Int32) (x1 - (1 : Int32)) mflags mtubs mpegs mnow).bind fun u7 => (if u7 = true then ((fX10_sendOn (1 : Int32) (x1 - (1 : Int32)) mws mnow).bind fun u9 => (some (u7, u9)))
 else (some (u7, mnow))))))
theorem hinX10_tryThing_X10 : ∀ w ∈ u_ws RX10 TX10 24, w ∈ wsX10_tryThing := fun w h => List.mem_cons_of_mem _ (List.mem_append_right _ h)
theorem mX10_tryThing_1 : Cond.fieldLink RX10 19 "FlagWashModel" "now" "[I" ∈ wsX10_tryThing := List.mem_of_getElem? (i := 1) rfl
theorem hd_X10_tryThing : yX10_tryThing.cls ≠ "java/lang/invoke/MethodHandle" ∧ yX10_tryThing.cls ≠ "java/lang/invoke/VarHandle" ∧ (parseMethodDescriptor yX10_tryThing.desc).map (fun d => d.parameters.length) = some 1 := by decide +kernel
set_option maxHeartbeats 4000000 in
set_option maxRecDepth 100000 in
theorem LX10_tryThing_78 {p : Program} {l : Launch} {e : Env} {s : State} {m : MethodId} {args : Array Value} {below : List Frame} {meth : Method} {c : Code} {D : va_G} {cyI cyZ cyW : ClassId} {zW zO : Nat} {A : Nat → Prop} (C : Cx p s m args meth c cX10_tryThing RX10 "tryThing" wsX10_tryThing (some .boolean) 3 D (tyA cyI cyZ cyW) zW zO A) {md : Nat → Nat} {mflags : Int32} {mtubs : Int32} {mpegs : Int32} {mcl : (Nat → Int32)} {mws : (Nat → Int32)} {mho : (Nat → Int32)} {mnow : (Nat → Int32)} {mrd : (Nat → Int32)} {mrh : (Nat → Int32)} {mrf : Int32} {mtx : (Nat → Int32)} {mlen : Int32} {mat : Int32} {mfa : Int32} {mac : Int32} {mnx : Int32} {mrow : (Nat → Int32)} {msn : Int32} {mso : (Nat → Int32)} {msc : (Nat → Int32)} {msw : (Nat → Int32)} {mseed : Int64} {mik : (Nat → Int32)} {mkp : (Nat → Int32)} {x1 : Int32} {y0 : Bool}  {res : Bool × (Nat → Int32)}  (h : fX10_tryThing_78  x1 y0 mnow = some res) : Mx p l e ({ frames := 4, cells := 0, slots := 0, locals := 95 } : Room) s m args below meth c (MQ below (QI D (tyA cyI cyZ cyW) A (wMO cyI cyZ cyW md mflags mtubs mpegs mcl mws mho res.2 mrd mrh mrf mtx mlen mat mfa mac mnx mrow msn mso msc msw mseed mik mkp) (b2i res.1)) args s 0 0 A) 3 D A 0 0 (wMO cyI cyZ cyW md mflags mtubs mpegs mcl mws mho mnow mrd mrh mrf mtx mlen mat mfa mac mnx mrow msn mso msc msw mseed mik mkp) 78 [(0, .ref (md 0)), (1, .int x1)] [.int (b2i y0)] := by
  unfold fX10_tryThing_78 at h
  refine r_istore_n (lv' := [(2, .int (b2i y0)), (0, .ref (md 0)), (1, .int x1)]) C dX10_tryThing_78 rfl (by decide) rfl ?_
  refine r_iload_n C dX10_tryThing_79 0 rfl rfl ?_
  refine r_ifb_eq (tgt := 92) C dX10_tryThing_80 (by decide) (fun c12 => ?_) (fun c12 => ?_)
  · replace h := ob_bf h c12
    refine r_iload_n C dX10_tryThing_92 0 rfl rfl ?_
    have h9 := Option.some.inj h
    subst h9
    exact r_zret (b := y0) C rfl dX10_tryThing_93
  · replace h := ob_t h c12
    refine r_aload_n C dX10_tryThing_83 1 rfl rfl ?_
    refine r_iconst (v := 1) C dX10_tryThing_84 ic_1 ?_
    refine r_iload_n C dX10_tryThing_85 2 rfl rfl ?_
    refine r_bipush (v := 6) C dX10_tryThing_86 bp_6 ?_
    refine r_isub C dX10_tryThing_88 ?_
    obtain ⟨u13, hu13, h⟩ := ob_bind h
    refine r_callVV (q0 := 0) (As := [.int (1 : Int32), .int (x1 - (6 : Int32))]) (rest := []) (ws1 := (wMO cyI cyZ cyW md mflags mtubs mpegs mcl mws mho u13 mrd mrh mrf mtx mlen mat mfa mac mnx mrow msn mso msc msw mseed mik mkp)) C (kX10_pullOn (md := md) (mflags := mflags) (mtubs := mtubs) (mpegs := mpegs) (mcl := mcl) (mws := mws) (mho := mho) (mnow := mnow) (mrd := mrd) (mrh := mrh) (mrf := mrf) (mtx := mtx) (mlen := mlen) (mat := mat) (mfa := mfa) (mac := mac) (mnx := mnx) (mrow := mrow) (msn := msn) (mso := mso) (msc := msc) (msw := msw) (mseed := mseed) (mik := mik) (mkp := mkp) (x1 := (1 : Int32)) (x2 := (x1 - (6 : Int32))) hu13) gX10_tryThing_X10_pullOn rfl rfl rfl ⟨rfl, hd_X10_pullOn⟩ ⟨by decide, by decide⟩ rfl rfl rfl rfl [0, 1, 2, 3, 4, 5, 6, 7, 8, 9, 10, 11, 12, 13] (by decide) in_79 se_79 (adrMO.trans adrMO.symm) rfl (Nat.le_of_ble_eq_true rfl) dX10_tryThing_89 ⟨Nat.zero_le _, Nat.zero_le _⟩ ?_
    refine r_iload_n C dX10_tryThing_92 0 rfl rfl ?_
    have h9 := Option.some.inj h
    subst h9
    exact r_zret (b := y0) C rfl dX10_tryThing_93
set_option maxHeartbeats 4000000 in
set_option maxRecDepth 100000 in
theorem LX10_tryThing_77 {p : Program} {l : Launch} {e : Env} {s : State} {m : MethodId} {args : Array Value} {below : List Frame} {meth : Method} {c : Code} {D : va_G} {cyI cyZ cyW : ClassId} {zW zO : Nat} {A : Nat → Prop} (C : Cx p s m args meth c cX10_tryThing RX10 "tryThing" wsX10_tryThing (some .boolean) 3 D (tyA cyI cyZ cyW) zW zO A) {md : Nat → Nat} {mflags : Int32} {mtubs : Int32} {mpegs : Int32} {mcl : (Nat → Int32)} {mws : (Nat → Int32)} {mho : (Nat → Int32)} {mnow : (Nat → Int32)} {mrd : (Nat → Int32)} {mrh : (Nat → Int32)} {mrf : Int32} {mtx : (Nat → Int32)} {mlen : Int32} {mat : Int32} {mfa : Int32} {mac : Int32} {mnx : Int32} {mrow : (Nat → Int32)} {msn : Int32} {mso : (Nat → Int32)} {msc : (Nat → Int32)} {msw : (Nat → Int32)} {mseed : Int64} {mik : (Nat → Int32)} {mkp : (Nat → Int32)} {x1 : Int32}  {res : Bool × (Nat → Int32)}  (h : fX10_tryThing_77  x1 mnow = some res) : Mx p l e ({ frames := 4, cells := 0, slots := 0, locals := 95 } : Room) s m args below meth c (MQ below (QI D (tyA cyI cyZ cyW) A (wMO cyI cyZ cyW md mflags mtubs mpegs mcl mws mho res.2 mrd mrh mrf mtx mlen mat mfa mac mnx mrow msn mso msc msw mseed mik mkp) (b2i res.1)) args s 0 0 A) 3 D A 0 0 (wMO cyI cyZ cyW md mflags mtubs mpegs mcl mws mho mnow mrd mrh mrf mtx mlen mat mfa mac mnx mrow msn mso msc msw mseed mik mkp) 77 [(0, .ref (md 0)), (1, .int x1)] [] := by
  unfold fX10_tryThing_77 at h
  refine r_iconst (v := 0) C dX10_tryThing_77 ic_0 ?_
  refine r_lv (lv' := [(0, .ref (md 0)), (1, .int x1)]) [0, 1] rfl ?_
  exact LX10_tryThing_78 C (x1 := x1) (y0 := false) (mflags := mflags) (mtubs := mtubs) (mpegs := mpegs) (mcl := mcl) (mws := mws) (mho := mho) (mnow := mnow) (mrd := mrd) (mrh := mrh) (mrf := mrf) (mtx := mtx) (mlen := mlen) (mat := mat) (mfa := mfa) (mac := mac) (mnx := mnx) (mrow := mrow) (msn := msn) (mso := mso) (msc := msc) (msw := msw) (mseed := mseed) (mik := mik) (mkp := mkp)  h
set_option maxHeartbeats 4000000 in
set_option maxRecDepth 100000 in
theorem kX10_tryThing {l : Launch} {D : va_G} {cyI cyZ cyW : ClassId} {zW zO : Nat} {md : Nat → Nat} {mflags : Int32} {mtubs : Int32} {mpegs : Int32} {mcl : (Nat → Int32)} {mws : (Nat → Int32)} {mho : (Nat → Int32)} {mnow : (Nat → Int32)} {mrd : (Nat → Int32)} {mrh : (Nat → Int32)} {mrf : Int32} {mtx : (Nat → Int32)} {mlen : Int32} {mat : Int32} {mfa : Int32} {mac : Int32} {mnx : Int32} {mrow : (Nat → Int32)} {msn : Int32} {mso : (Nat → Int32)} {msc : (Nat → Int32)} {msw : (Nat → Int32)} {mseed : Int64} {mik : (Nat → Int32)} {mkp : (Nat → Int32)} {x1 : Int32} {res : Bool × (Nat → Int32)} (h : fX10_tryThing x1 mflags mtubs mpegs mcl mws mnow = some res) : KI l yX10_tryThing wsX10_tryThing ({ frames := 4, cells := 0, slots := 0, locals := 95 } : Room) D (tyA cyI cyZ cyW) zW zO [.ref (md 0), .int x1] (wMO cyI cyZ cyW md mflags mtubs mpegs mcl mws mho mnow mrd mrh mrf mtx mlen mat mfa mac mnx mrow msn mso msc msw mseed mik mkp) (wMO cyI cyZ cyW md mflags mtubs mpegs mcl mws mho res.2 mrd mrh mrf mtx mlen mat mfa mac mnx mrow msn mso msc msw mseed mik mkp) (b2i res.1) := by
  refine enterI (cc := cX10_tryThing) (nL := 3) (ret := (some .boolean)) (by decide) rfl (Nat.le_of_ble_eq_true rfl) (fun p e s m below meth c A C => ?_)
  refine r_lv (lv' := [(0, .ref (md 0)), (1, .int x1)]) [0, 1] rfl ?_
  unfold fX10_tryThing at h
  refine r_iload_n C dX10_tryThing_0 1 rfl rfl ?_
  refine r_if_ne (tgt := 18) C dX10_tryThing_1 (by decide) (fun c1 => ?_) (fun c1 => ?_)
  · replace h := ob_f h c1
    refine r_iload_n C dX10_tryThing_18 1 rfl rfl ?_
    refine r_bipush (v := 6) C dX10_tryThing_19 bp_6 ?_
    refine r_icmp_ge (tgt := 47) C dX10_tryThing_21 (by decide) (fun c2 => ?_) (fun c2 => ?_)
    · replace h := ob_t h c2
      refine r_aload_n C dX10_tryThing_47 0 rfl rfl ?_
      refine r_iload_n C dX10_tryThing_48 1 rfl rfl ?_
      refine r_bipush (v := 6) C dX10_tryThing_49 bp_6 ?_
      refine r_isub C dX10_tryThing_51 ?_
      obtain ⟨u3, hu3, h⟩ := ob_bind h
      refine r_readVI (q0 := 0) (As := [.int (x1 - (6 : Int32))]) (rest := []) C (kX10_isFlag (md := md) (mflags := mflags) (mtubs := mtubs) (mpegs := mpegs) (mcl := mcl) (mws := mws) (mho := mho) (mnow := mnow) (mrd := mrd) (mrh := mrh) (mrf := mrf) (mtx := mtx) (mlen := mlen) (mat := mat) (mfa := mfa) (mac := mac) (mnx := mnx) (mrow := mrow) (msn := msn) (mso := mso) (msc := msc) (msw := msw) (mseed := mseed) (mik := mik) (mkp := mkp) (x1 := (x1 - (6 : Int32))) hu3) gX10_tryThing_X10_isFlag rfl rfl rfl ⟨rfl, hd_X10_isFlag⟩ ⟨by decide, by decide⟩ rfl rfl rfl rfl [0, 1, 2, 3, 4, 5, 6, 7, 8, 9, 10, 11, 12, 13] (by decide) in_76 rfl (Nat.le_of_ble_eq_true rfl) dX10_tryThing_52 ⟨Nat.zero_le _, Nat.zero_le _⟩ ?_
      refine r_ifb_eq (tgt := 77) C dX10_tryThing_55 (by decide) (fun c4 => ?_) (fun c4 => ?_)
      · replace h := ob_bf h c4
        refine r_lv (lv' := [(0, .ref (md 0)), (1, .int x1)]) [0, 1] rfl ?_
        exact LX10_tryThing_77 C (x1 := x1) (mflags := mflags) (mtubs := mtubs) (mpegs := mpegs) (mcl := mcl) (mws := mws) (mho := mho) (mnow := mnow) (mrd := mrd) (mrh := mrh) (mrf := mrf) (mtx := mtx) (mlen := mlen) (mat := mat) (mfa := mfa) (mac := mac) (mnx := mnx) (mrow := mrow) (msn := msn) (mso := mso) (msc := msc) (msw := msw) (mseed := mseed) (mik := mik) (mkp := mkp)  h
      · replace h := ob_t h c4
        refine r_aload_n C dX10_tryThing_58 0 rfl rfl ?_
        refine r_get (ci := 7) (CC := RX10) (T := TX10) (N := 24) (v := .ref (md 4)) C hinX10_tryThing_X10 0 rfl rfl 6 (by decide) mX10_tryThing_1 rfl rfl dX10_tryThing_59 ?_
        refine r_bipush (v := 22) C dX10_tryThing_62 bp_22 ?_
        refine r_iload_n C dX10_tryThing_64 1 rfl rfl ?_
        refine r_iadd C dX10_tryThing_65 ?_
        refine r_bipush (v := 6) C dX10_tryThing_66 bp_6 ?_
        refine r_isub C dX10_tryThing_68 ?_
        obtain ⟨hu5, h⟩ := ob_if h
        refine r_iald C 4 0 rfl rfl (inb_vp hu5) dX10_tryThing_69 ?_
        refine r_if_eq (tgt := 77) C dX10_tryThing_70 (by decide) (fun c6 => ?_) (fun c6 => ?_)
        · replace h := ob_t h c6
          refine r_lv (lv' := [(0, .ref (md 0)), (1, .int x1)]) [0, 1] rfl ?_
          exact LX10_tryThing_77 C (x1 := x1) (mflags := mflags) (mtubs := mtubs) (mpegs := mpegs) (mcl := mcl) (mws := mws) (mho := mho) (mnow := mnow) (mrd := mrd) (mrh := mrh) (mrf := mrf) (mtx := mtx) (mlen := mlen) (mat := mat) (mfa := mfa) (mac := mac) (mnx := mnx) (mrow := mrow) (msn := msn) (mso := mso) (msc := msc) (msw := msw) (mseed := mseed) (mik := mik) (mkp := mkp)  h
        · replace h := ob_f h c6
          refine r_iconst (v := 1) C dX10_tryThing_73 ic_1 ?_
          refine r_goto (tgt := 78) C dX10_tryThing_74 (by decide) ?_
          refine r_lv (lv' := [(0, .ref (md 0)), (1, .int x1)]) [0, 1] rfl ?_
          exact LX10_tryThing_78 C (x1 := x1) (y0 := true) (mflags := mflags) (mtubs := mtubs) (mpegs := mpegs) (mcl := mcl) (mws := mws) (mho := mho) (mnow := mnow) (mrd := mrd) (mrh := mrh) (mrf := mrf) (mtx := mtx) (mlen := mlen) (mat := mat) (mfa := mfa) (mac := mac) (mnx := mnx) (mrow := mrow) (msn := msn) (mso := mso) (msc := msc) (msw := msw) (mseed := mseed) (mik := mik) (mkp := mkp)  h
    · replace h := ob_f h c2
      refine r_aload_n C dX10_tryThing_24 0 rfl rfl ?_
      refine r_iconst (v := 1) C dX10_tryThing_25 ic_1 ?_
      refine r_iload_n C dX10_tryThing_26 1 rfl rfl ?_
      refine r_iconst (v := 1) C dX10_tryThing_27 ic_1 ?_
      refine r_isub C dX10_tryThing_28 ?_
      obtain ⟨u7, hu7, h⟩ := ob_bind h
      refine r_readVI (q0 := 0) (As := [.int (1 : Int32), .int (x1 - (1 : Int32))]) (rest := []) C (kX10_canSend (md := md) (mflags := mflags) (mtubs := mtubs) (mpegs := mpegs) (mcl := mcl) (mws := mws) (mho := mho) (mnow := mnow) (mrd := mrd) (mrh := mrh) (mrf := mrf) (mtx := mtx) (mlen := mlen) (mat := mat) (mfa := mfa) (mac := mac) (mnx := mnx) (mrow := mrow) (msn := msn) (mso := mso) (msc := msc) (msw := msw) (mseed := mseed) (mik := mik) (mkp := mkp) (x1 := (1 : Int32)) (x2 := (x1 - (1 : Int32))) hu7) gX10_tryThing_X10_canSend rfl rfl rfl ⟨rfl, hd_X10_canSend⟩ ⟨by decide, by decide⟩ rfl rfl rfl rfl [0, 1, 2, 3, 4, 5, 6, 7, 8, 9, 10, 11, 12, 13] (by decide) in_76 rfl (Nat.le_of_ble_eq_true rfl) dX10_tryThing_29 ⟨Nat.zero_le _, Nat.zero_le _⟩ ?_
      refine r_istore_n (lv' := [(2, .int (b2i u7)), (0, .ref (md 0)), (1, .int x1)]) C dX10_tryThing_32 rfl (by decide) rfl ?_
      refine r_iload_n C dX10_tryThing_33 0 rfl rfl ?_
      refine r_ifb_eq (tgt := 45) C dX10_tryThing_34 (by decide) (fun c8 => ?_) (fun c8 => ?_)
      · replace h := ob_bf h c8
        refine r_iload_n C dX10_tryThing_45 0 rfl rfl ?_
        have h9 := Option.some.inj h
        subst h9
        exact r_zret (b := u7) C rfl dX10_tryThing_46
      · replace h := ob_t h c8
        refine r_aload_n C dX10_tryThing_37 1 rfl rfl ?_
        refine r_iconst (v := 1) C dX10_tryThing_38 ic_1 ?_
        refine r_iload_n C dX10_tryThing_39 2 rfl rfl ?_
        refine r_iconst (v := 1) C dX10_tryThing_40 ic_1 ?_
        refine r_isub C dX10_tryThing_41 ?_
        obtain ⟨u9, hu9, h⟩ := ob_bind h
        refine r_callVV (q0 := 0) (As := [.int (1 : Int32), .int (x1 - (1 : Int32))]) (rest := []) (ws1 := (wMO cyI cyZ cyW md mflags mtubs mpegs mcl mws mho u9 mrd mrh mrf mtx mlen mat mfa mac mnx mrow msn mso msc msw mseed mik mkp)) C (kX10_sendOn (md := md) (mflags := mflags) (mtubs := mtubs) (mpegs := mpegs) (mcl := mcl) (mws := mws) (mho := mho) (mnow := mnow) (mrd := mrd) (mrh := mrh) (mrf := mrf) (mtx := mtx) (mlen := mlen) (mat := mat) (mfa := mfa) (mac := mac) (mnx := mnx) (mrow := mrow) (msn := msn) (mso := mso) (msc := msc) (msw := msw) (mseed := mseed) (mik := mik) (mkp := mkp) (x1 := (1 : Int32)) (x2 := (x1 - (1 : Int32))) hu9) gX10_tryThing_X10_sendOn rfl rfl rfl ⟨rfl, hd_X10_sendOn⟩ ⟨by decide, by decide⟩ rfl rfl rfl rfl [0, 1, 2, 3, 4, 5, 6, 7, 8, 9, 10, 11, 12, 13] (by decide) in_79 se_79 (adrMO.trans adrMO.symm) rfl (Nat.le_of_ble_eq_true rfl) dX10_tryThing_42 ⟨Nat.zero_le _, Nat.zero_le _⟩ ?_
        refine r_iload_n C dX10_tryThing_45 0 rfl rfl ?_
        have h9 := Option.some.inj h
        subst h9
        exact r_zret (b := u7) C rfl dX10_tryThing_46
  · replace h := ob_t h c1
    refine r_aload_n C dX10_tryThing_4 0 rfl rfl ?_
    refine r_iconst (v := 1) C dX10_tryThing_5 ic_1 ?_
    obtain ⟨u10, hu10, h⟩ := ob_bind h
    refine r_callVI (q0 := 0) (As := [.int (1 : Int32)]) (rest := []) (ws1 := (wMO cyI cyZ cyW md mflags mtubs mpegs mcl mws mho u10.2 mrd mrh mrf mtx mlen mat mfa mac mnx mrow msn mso msc msw mseed mik mkp)) C (kX10_passOn (md := md) (mflags := mflags) (mtubs := mtubs) (mpegs := mpegs) (mcl := mcl) (mws := mws) (mho := mho) (mnow := mnow) (mrd := mrd) (mrh := mrh) (mrf := mrf) (mtx := mtx) (mlen := mlen) (mat := mat) (mfa := mfa) (mac := mac) (mnx := mnx) (mrow := mrow) (msn := msn) (mso := mso) (msc := msc) (msw := msw) (mseed := mseed) (mik := mik) (mkp := mkp) (x1 := (1 : Int32)) hu10) gX10_tryThing_X10_passOn rfl rfl rfl ⟨rfl, hd_X10_passOn⟩ ⟨by decide, by decide⟩ rfl rfl rfl rfl [0, 1, 2, 3, 4, 5, 6, 7, 8, 9, 10, 11, 12, 13] (by decide) in_79 se_79 (adrMO.trans adrMO.symm) rfl (Nat.le_of_ble_eq_true rfl) dX10_tryThing_6 ⟨Nat.zero_le _, Nat.zero_le _⟩ ?_
    refine r_if_lt (tgt := 16) C dX10_tryThing_9 (by decide) (fun c11 => ?_) (fun c11 => ?_)
    · replace h := ob_t h c11
      refine r_iconst (v := 0) C dX10_tryThing_16 ic_0 ?_
      have h9 := Option.some.inj h
      subst h9
      exact r_zret (b := false) C rfl dX10_tryThing_17
    · replace h := ob_f h c11
      refine r_iconst (v := 1) C dX10_tryThing_12 ic_1 ?_
      refine r_goto (tgt := 17) C dX10_tryThing_13 (by decide) ?_
      have h9 := Option.some.inj h
      subst h9
      exact r_zret (b := true) C rfl dX10_tryThing_17

/-! ===== FlagWashModel.judge ===== -/
def gX10_judge_37 (rec37 : Int32 → (Nat → Int32) → Option (Int32 × (Nat → Int32))) (x1 : Int32) (x2 : Int32) (x3 : Int32) (mflags : Int32) (mtubs : Int32) (mpegs : Int32) (mcl : (Nat → Int32)) (mws : (Nat → Int32)) (mnow : (Nat → Int32)) : Option (Int32 × (Nat → Int32)) :=
 (if x1 ≤ x3 then (some ((-9 : Int32), mnow))
 else ((fX10_tenTo ((x1 - (1 : Int32)) - x3)).bind fun u8 => (if u8 = 0 then none else ((fX10_tryThing (jrem (x2 / u8) (10 : Int32)) mflags mtubs mpegs mcl mws mnow).bind fun u10 => (if u10.1 = true then (rec37 (x3 + (1 : Int32)) u10.2)
 else (some (x3, u10.2)))))))
def fX10_judge_37  (x1 : Int32) (x2 : Int32) (mflags : Int32) (mtubs : Int32) (mpegs : Int32) (mcl : (Nat → Int32)) (mws : (Nat → Int32)) : Nat → Int32 → (Nat → Int32) → Option (Int32 × (Nat → Int32))
  | 0 => fun _ _ => none
  | n + 1 => fun x3 mnow => gX10_judge_37 (fX10_judge_37  x1 x2 mflags mtubs mpegs mcl mws n) x1 x2 x3 mflags mtubs mpegs mcl mws mnow
def fX10_judge  (x1 : Int32) (x2 : Int32) (mflags : Int32) (mtubs : Int32) (mpegs : Int32) (mcl : (Nat → Int32)) (mws : (Nat → Int32)) (mnow : (Nat → Int32)) : Option (Int32 × (Nat → Int32)) :=
 ((fX10_in x1.toInt64 (1 : Int64) (6 : Int64)).bind fun u1 => (if u1 = true then ((fX10_tenTo x1).bind fun u3 => ((fX10_in x2.toInt64 (0 : Int64) (u3 - (1 : Int32)).toInt64).bind fun u4 => (if u4 = true then ((fX10_layTrial mnow).bind fun u6 => (fX10_judge_37  x1 x2 mflags mtubs mpegs mcl mws FU (0 : Int32) u6))
 else (some ((-2 : Int32), mnow)))))
 else (some ((-2 : Int32), mnow))))
theorem mX10_judge_1 : Cond.constantLong RX10 162 (6) ∈ wsX10_judge := List.mem_of_getElem? (i := 1) rfl
theorem hd_X10_judge : yX10_judge.cls ≠ "java/lang/invoke/MethodHandle" ∧ yX10_judge.cls ≠ "java/lang/invoke/VarHandle" ∧ (parseMethodDescriptor yX10_judge.desc).map (fun d => d.parameters.length) = some 2 := by decide +kernel
set_option maxHeartbeats 4000000 in
set_option maxRecDepth 100000 in
theorem LGX10_judge_37 {p : Program} {l : Launch} {e : Env} {s : State} {m : MethodId} {args : Array Value} {below : List Frame} {meth : Method} {c : Code} {D : va_G} {cyI cyZ cyW : ClassId} {zW zO : Nat} {A : Nat → Prop} (C : Cx p s m args meth c cX10_judge RX10 "judge" wsX10_judge (some .int) 4 D (tyA cyI cyZ cyW) zW zO A) {md : Nat → Nat} {mflags : Int32} {mtubs : Int32} {mpegs : Int32} {mcl : (Nat → Int32)} {mws : (Nat → Int32)} {mho : (Nat → Int32)} {mnow : (Nat → Int32)} {mrd : (Nat → Int32)} {mrh : (Nat → Int32)} {mrf : Int32} {mtx : (Nat → Int32)} {mlen : Int32} {mat : Int32} {mfa : Int32} {mac : Int32} {mnx : Int32} {mrow : (Nat → Int32)} {msn : Int32} {mso : (Nat → Int32)} {msc : (Nat → Int32)} {msw : (Nat → Int32)} {mseed : Int64} {mik : (Nat → Int32)} {mkp : (Nat → Int32)} {x1 : Int32} {x2 : Int32} {x3 : Int32} {rec37 : Int32 → (Nat → Int32) → Option (Int32 × (Nat → Int32))} {res : Int32 × (Nat → Int32)} (hrec37 : ∀ (x3 : Int32) (mnow : (Nat → Int32)), rec37 x3 mnow = some res → Mx p l e ({ frames := 5, cells := 0, slots := 0, locals := 117 } : Room) s m args below meth c (MQ below (QI D (tyA cyI cyZ cyW) A (wMO cyI cyZ cyW md mflags mtubs mpegs mcl mws mho res.2 mrd mrh mrf mtx mlen mat mfa mac mnx mrow msn mso msc msw mseed mik mkp) res.1) args s 0 0 A) 4 D A 0 0 (wMO cyI cyZ cyW md mflags mtubs mpegs mcl mws mho mnow mrd mrh mrf mtx mlen mat mfa mac mnx mrow msn mso msc msw mseed mik mkp) 37 [(0, .ref (md 0)), (1, .int x1), (2, .int x2), (3, .int x3)] []) (h : gX10_judge_37 rec37 x1 x2 x3 mflags mtubs mpegs mcl mws mnow = some res) : Mx p l e ({ frames := 5, cells := 0, slots := 0, locals := 117 } : Room) s m args below meth c (MQ below (QI D (tyA cyI cyZ cyW) A (wMO cyI cyZ cyW md mflags mtubs mpegs mcl mws mho res.2 mrd mrh mrf mtx mlen mat mfa mac mnx mrow msn mso msc msw mseed mik mkp) res.1) args s 0 0 A) 4 D A 0 0 (wMO cyI cyZ cyW md mflags mtubs mpegs mcl mws mho mnow mrd mrh mrf mtx mlen mat mfa mac mnx mrow msn mso msc msw mseed mik mkp) 37 [(0, .ref (md 0)), (1, .int x1), (2, .int x2), (3, .int x3)] [] := by
  unfold gX10_judge_37 at h
  refine r_iload_n C dX10_judge_37 3 rfl rfl ?_
  refine r_iload_n C dX10_judge_38 1 rfl rfl ?_
  refine r_icmp_ge (tgt := 70) C dX10_judge_39 (by decide) (fun c7 => ?_) (fun c7 => ?_)
  · replace h := ob_t h c7
    refine r_bipush (v := -9) C dX10_judge_70 bp_m9 ?_
    have h9 := Option.some.inj h
    subst h9
    exact r_iret C rfl dX10_judge_72
  · replace h := ob_f h c7
    refine r_aload_n C dX10_judge_42 0 rfl rfl ?_
    refine r_iload_n C dX10_judge_43 2 rfl rfl ?_
    refine r_iload_n C dX10_judge_44 1 rfl rfl ?_
    refine r_iconst (v := 1) C dX10_judge_45 ic_1 ?_
    refine r_isub C dX10_judge_46 ?_
    refine r_iload_n C dX10_judge_47 3 rfl rfl ?_
    refine r_isub C dX10_judge_48 ?_
    obtain ⟨u8, hu8, h⟩ := ob_bind h
    refine r_readSI (As := [.int ((x1 - (1 : Int32)) - x3)]) (rest := [.int x2, .ref (md 0)]) C (kX10_tenTo   (x0 := ((x1 - (1 : Int32)) - x3)) hu8) gX10_judge_X10_tenTo rfl rfl rfl hd_X10_tenTo ⟨by decide, by decide⟩ rfl [] (by decide) rfl rfl (Nat.le_of_ble_eq_true rfl) dX10_judge_49 ⟨Nat.zero_le _, Nat.zero_le _⟩ ?_
    obtain ⟨hu9, h⟩ := ob_ne h
    refine r_idiv C dX10_judge_52 hu9 ?_
    refine r_bipush (v := 10) C dX10_judge_53 bp_10 ?_
    refine r_irem C dX10_judge_55 (by decide) ?_
    obtain ⟨u10, hu10, h⟩ := ob_bind h
    refine r_callVI (q0 := 0) (As := [.int (jrem (x2 / u8) (10 : Int32))]) (rest := []) (ws1 := (wMO cyI cyZ cyW md mflags mtubs mpegs mcl mws mho u10.2 mrd mrh mrf mtx mlen mat mfa mac mnx mrow msn mso msc msw mseed mik mkp)) C (kX10_tryThing (md := md) (mflags := mflags) (mtubs := mtubs) (mpegs := mpegs) (mcl := mcl) (mws := mws) (mho := mho) (mnow := mnow) (mrd := mrd) (mrh := mrh) (mrf := mrf) (mtx := mtx) (mlen := mlen) (mat := mat) (mfa := mfa) (mac := mac) (mnx := mnx) (mrow := mrow) (msn := msn) (mso := mso) (msc := msc) (msw := msw) (mseed := mseed) (mik := mik) (mkp := mkp) (x1 := (jrem (x2 / u8) (10 : Int32))) hu10) gX10_judge_X10_tryThing rfl rfl rfl ⟨rfl, hd_X10_tryThing⟩ ⟨by decide, by decide⟩ rfl rfl rfl rfl [0, 1, 2, 3, 4, 5, 6, 7, 8, 9, 10, 11, 12, 13] (by decide) in_79 se_79 (adrMO.trans adrMO.symm) rfl (Nat.le_of_ble_eq_true rfl) dX10_judge_56 ⟨Nat.zero_le _, Nat.zero_le _⟩ ?_
    refine r_ifb_ne (tgt := 64) C dX10_judge_59 (by decide) (fun c11 => ?_) (fun c11 => ?_)
    · replace h := ob_t h c11
      refine r_iinc (v := 1) (lv' := [(3, .int (x3 + (1 : Int32))), (0, .ref (md 0)), (1, .int x1), (2, .int x2)]) C dX10_judge_64 3 rfl ic_1 (by decide) rfl ?_
      refine r_goto (tgt := 37) C dX10_judge_67 (by decide) ?_
      refine r_lv (lv' := [(0, .ref (md 0)), (1, .int x1), (2, .int x2), (3, .int (x3 + (1 : Int32)))]) [1, 2, 3, 0] rfl ?_
      exact hrec37 (x3 + (1 : Int32)) u10.2 h
    · replace h := ob_bf h c11
      refine r_iload_n C dX10_judge_62 3 rfl rfl ?_
      have h9 := Option.some.inj h
      subst h9
      exact r_iret C rfl dX10_judge_63
set_option maxHeartbeats 4000000 in
set_option maxRecDepth 100000 in
theorem LX10_judge_37 {p : Program} {l : Launch} {e : Env} {s : State} {m : MethodId} {args : Array Value} {below : List Frame} {meth : Method} {c : Code} {D : va_G} {cyI cyZ cyW : ClassId} {zW zO : Nat} {A : Nat → Prop} (C : Cx p s m args meth c cX10_judge RX10 "judge" wsX10_judge (some .int) 4 D (tyA cyI cyZ cyW) zW zO A) {md : Nat → Nat} {x1 : Int32} {x2 : Int32} {mflags : Int32} {mtubs : Int32} {mpegs : Int32} {mcl : (Nat → Int32)} {mws : (Nat → Int32)} {mho : (Nat → Int32)} {mrd : (Nat → Int32)} {mrh : (Nat → Int32)} {mrf : Int32} {mtx : (Nat → Int32)} {mlen : Int32} {mat : Int32} {mfa : Int32} {mac : Int32} {mnx : Int32} {mrow : (Nat → Int32)} {msn : Int32} {mso : (Nat → Int32)} {msc : (Nat → Int32)} {msw : (Nat → Int32)} {mseed : Int64} {mik : (Nat → Int32)} {mkp : (Nat → Int32)}  {res : Int32 × (Nat → Int32)}  : ∀ (n : Nat) (x3 : Int32) (mnow : (Nat → Int32)), fX10_judge_37  x1 x2 mflags mtubs mpegs mcl mws n x3 mnow = some res → Mx p l e ({ frames := 5, cells := 0, slots := 0, locals := 117 } : Room) s m args below meth c (MQ below (QI D (tyA cyI cyZ cyW) A (wMO cyI cyZ cyW md mflags mtubs mpegs mcl mws mho res.2 mrd mrh mrf mtx mlen mat mfa mac mnx mrow msn mso msc msw mseed mik mkp) res.1) args s 0 0 A) 4 D A 0 0 (wMO cyI cyZ cyW md mflags mtubs mpegs mcl mws mho mnow mrd mrh mrf mtx mlen mat mfa mac mnx mrow msn mso msc msw mseed mik mkp) 37 [(0, .ref (md 0)), (1, .int x1), (2, .int x2), (3, .int x3)] [] := by
  intro n
  induction n with
  | zero => intro x3 mnow h; cases h
  | succ n ih => intro x3 mnow h; exact LGX10_judge_37 C ih h
set_option maxHeartbeats 4000000 in
set_option maxRecDepth 100000 in
theorem kX10_judge {l : Launch} {D : va_G} {cyI cyZ cyW : ClassId} {zW zO : Nat} {md : Nat → Nat} {mflags : Int32} {mtubs : Int32} {mpegs : Int32} {mcl : (Nat → Int32)} {mws : (Nat → Int32)} {mho : (Nat → Int32)} {mnow : (Nat → Int32)} {mrd : (Nat → Int32)} {mrh : (Nat → Int32)} {mrf : Int32} {mtx : (Nat → Int32)} {mlen : Int32} {mat : Int32} {mfa : Int32} {mac : Int32} {mnx : Int32} {mrow : (Nat → Int32)} {msn : Int32} {mso : (Nat → Int32)} {msc : (Nat → Int32)} {msw : (Nat → Int32)} {mseed : Int64} {mik : (Nat → Int32)} {mkp : (Nat → Int32)} {x1 : Int32} {x2 : Int32} {res : Int32 × (Nat → Int32)} (h : fX10_judge x1 x2 mflags mtubs mpegs mcl mws mnow = some res) : KI l yX10_judge wsX10_judge ({ frames := 5, cells := 0, slots := 0, locals := 117 } : Room) D (tyA cyI cyZ cyW) zW zO [.ref (md 0), .int x1, .int x2] (wMO cyI cyZ cyW md mflags mtubs mpegs mcl mws mho mnow mrd mrh mrf mtx mlen mat mfa mac mnx mrow msn mso msc msw mseed mik mkp) (wMO cyI cyZ cyW md mflags mtubs mpegs mcl mws mho res.2 mrd mrh mrf mtx mlen mat mfa mac mnx mrow msn mso msc msw mseed mik mkp) res.1 := by
  refine enterI (cc := cX10_judge) (nL := 4) (ret := (some .int)) (by decide) rfl (Nat.le_of_ble_eq_true rfl) (fun p e s m below meth c A C => ?_)
  refine r_lv (lv' := [(0, .ref (md 0)), (1, .int x1), (2, .int x2)]) [0, 1, 2] rfl ?_
  unfold fX10_judge at h
  refine r_iload_n C dX10_judge_0 1 rfl rfl ?_
  refine r_i2l C dX10_judge_1 ?_
  refine r_lconst (v := 1) C dX10_judge_2 lc_1 ?_
  refine r_ldc2 (v := 6) C mX10_judge_1 dX10_judge_3 ?_
  obtain ⟨u1, hu1, h⟩ := ob_bind h
  refine r_readSI (As := [.long x1.toInt64, .long (1 : Int64), .long (6 : Int64)]) (rest := []) C (kX10_in   (x0 := x1.toInt64) (x2 := (1 : Int64)) (x4 := (6 : Int64)) hu1) gX10_judge_X10_in rfl rfl rfl hd_X10_in ⟨by decide, by decide⟩ rfl [] (by decide) rfl rfl (Nat.le_of_ble_eq_true rfl) dX10_judge_6 ⟨Nat.zero_le _, Nat.zero_le _⟩ ?_
  refine r_ifb_eq (tgt := 28) C dX10_judge_9 (by decide) (fun c2 => ?_) (fun c2 => ?_)
  · replace h := ob_bf h c2
    refine r_bipush (v := -2) C dX10_judge_28 bp_m2 ?_
    have h9 := Option.some.inj h
    subst h9
    exact r_iret C rfl dX10_judge_30
  · replace h := ob_t h c2
    refine r_iload_n C dX10_judge_12 2 rfl rfl ?_
    refine r_i2l C dX10_judge_13 ?_
    refine r_lconst (v := 0) C dX10_judge_14 lc_0 ?_
    refine r_iload_n C dX10_judge_15 1 rfl rfl ?_
    obtain ⟨u3, hu3, h⟩ := ob_bind h
    refine r_readSI (As := [.int x1]) (rest := [.long (0 : Int64), .long x2.toInt64]) C (kX10_tenTo   (x0 := x1) hu3) gX10_judge_X10_tenTo rfl rfl rfl hd_X10_tenTo ⟨by decide, by decide⟩ rfl [] (by decide) rfl rfl (Nat.le_of_ble_eq_true rfl) dX10_judge_16 ⟨Nat.zero_le _, Nat.zero_le _⟩ ?_
    refine r_iconst (v := 1) C dX10_judge_19 ic_1 ?_
    refine r_isub C dX10_judge_20 ?_
    refine r_i2l C dX10_judge_21 ?_
    obtain ⟨u4, hu4, h⟩ := ob_bind h
    refine r_readSI (As := [.long x2.toInt64, .long (0 : Int64), .long (u3 - (1 : Int32)).toInt64]) (rest := []) C (kX10_in   (x0 := x2.toInt64) (x2 := (0 : Int64)) (x4 := (u3 - (1 : Int32)).toInt64) hu4) gX10_judge_X10_in rfl rfl rfl hd_X10_in ⟨by decide, by decide⟩ rfl [] (by decide) rfl rfl (Nat.le_of_ble_eq_true rfl) dX10_judge_22 ⟨Nat.zero_le _, Nat.zero_le _⟩ ?_
    refine r_ifb_ne (tgt := 31) C dX10_judge_25 (by decide) (fun c5 => ?_) (fun c5 => ?_)
    · replace h := ob_t h c5
      refine r_aload_n C dX10_judge_31 0 rfl rfl ?_
      obtain ⟨u6, hu6, h⟩ := ob_bind h
      refine r_callVV (q0 := 0) (As := []) (rest := []) (ws1 := (wMO cyI cyZ cyW md mflags mtubs mpegs mcl mws mho u6 mrd mrh mrf mtx mlen mat mfa mac mnx mrow msn mso msc msw mseed mik mkp)) C (kX10_layTrial (md := md) (mflags := mflags) (mtubs := mtubs) (mpegs := mpegs) (mcl := mcl) (mws := mws) (mho := mho) (mnow := mnow) (mrd := mrd) (mrh := mrh) (mrf := mrf) (mtx := mtx) (mlen := mlen) (mat := mat) (mfa := mfa) (mac := mac) (mnx := mnx) (mrow := mrow) (msn := msn) (mso := mso) (msc := msc) (msw := msw) (mseed := mseed) (mik := mik) (mkp := mkp)  hu6) gX10_judge_X10_layTrial rfl rfl rfl ⟨rfl, hd_X10_layTrial⟩ ⟨by decide, by decide⟩ rfl rfl rfl rfl [0, 1, 2, 3, 4, 5, 6, 7, 8, 9, 10, 11, 12, 13] (by decide) in_79 se_79 (adrMO.trans adrMO.symm) rfl (Nat.le_of_ble_eq_true rfl) dX10_judge_32 ⟨Nat.zero_le _, Nat.zero_le _⟩ ?_
      refine r_iconst (v := 0) C dX10_judge_35 ic_0 ?_
      refine r_istore_n (lv' := [(3, .int (0 : Int32)), (0, .ref (md 0)), (1, .int x1), (2, .int x2)]) C dX10_judge_36 rfl (by decide) rfl ?_
      refine r_lv (lv' := [(0, .ref (md 0)), (1, .int x1), (2, .int x2), (3, .int (0 : Int32))]) [1, 2, 3, 0] rfl ?_
      exact LX10_judge_37 C (x1 := x1) (x2 := x2) (mflags := mflags) (mtubs := mtubs) (mpegs := mpegs) (mcl := mcl) (mws := mws) (mho := mho) (mrd := mrd) (mrh := mrh) (mrf := mrf) (mtx := mtx) (mlen := mlen) (mat := mat) (mfa := mfa) (mac := mac) (mnx := mnx) (mrow := mrow) (msn := msn) (mso := mso) (msc := msc) (msw := msw) (mseed := mseed) (mik := mik) (mkp := mkp)  FU (0 : Int32) u6 h
    · replace h := ob_bf h c5
      refine r_bipush (v := -2) C dX10_judge_28 bp_m2 ?_
      have h9 := Option.some.inj h
      subst h9
      exact r_iret C rfl dX10_judge_30

/-! ===== FlagWashModel.see ===== -/
def fX10_see  (x1 : Int32) (x2 : Int32) (x3 : Int32) (mflags : Int32) (msn : Int32) (mso : (Nat → Int32)) (msc : (Nat → Int32)) (msw : (Nat → Int32)) : Option (Int32 × Int32 × (Nat → Int32) × (Nat → Int32) × (Nat → Int32)) :=
 ((fX10_isFlag x1 mflags).bind fun u1 => (if u1 = true then ((fX10_in x2.toInt64 (0 : Int64) (15 : Int64)).bind fun u3 => (if u3 = true then ((fX10_in x3.toInt64 (0 : Int64) (31 : Int64)).bind fun u5 => (if u5 = true then ((fX10_has x3 x1).bind fun u7 => (if u7 = true then (some ((-2 : Int32), msn, mso, msc, msw))
 else (if msn = (6 : Int32) then (some ((-4 : Int32), msn, mso, msc, msw))
 else (if inb msn 6 = true then (if inb msn 6 = true then (if inb msn 6 = true then (some ((msn + (1 : Int32)), (msn + (1 : Int32)), (upd mso msn.toNatClampNeg x1), (upd msc msn.toNatClampNeg x2), (upd msw msn.toNatClampNeg x3))) else none) else none) else none))))
 else (some ((-2 : Int32), msn, mso, msc, msw))))
 else (some ((-2 : Int32), msn, mso, msc, msw))))
 else (some ((-1 : Int32), msn, mso, msc, msw))))
theorem mX10_see_1 : Cond.constantLong RX10 72 (15) ∈ wsX10_see := List.mem_of_getElem? (i := 1) rfl
theorem mX10_see_2 : Cond.constantLong RX10 170 (31) ∈ wsX10_see := List.mem_of_getElem? (i := 2) rfl
theorem hinX10_see_X10 : ∀ w ∈ u_ws RX10 TX10 24, w ∈ wsX10_see := fun w h => List.mem_cons_of_mem _ (List.mem_append_right _ h)
theorem mX10_see_3 : Cond.fieldLink RX10 172 "FlagWashModel" "seen" "I" ∈ wsX10_see := List.mem_of_getElem? (i := 3) rfl
theorem mX10_see_4 : Cond.fieldLink RX10 34 "FlagWashModel" "seenOf" "[I" ∈ wsX10_see := List.mem_of_getElem? (i := 4) rfl
theorem mX10_see_5 : Cond.fieldLink RX10 37 "FlagWashModel" "seenColours" "[I" ∈ wsX10_see := List.mem_of_getElem? (i := 5) rfl
theorem mX10_see_6 : Cond.fieldLink RX10 40 "FlagWashModel" "seenWith" "[I" ∈ wsX10_see := List.mem_of_getElem? (i := 6) rfl
theorem hd_X10_see : yX10_see.cls ≠ "java/lang/invoke/MethodHandle" ∧ yX10_see.cls ≠ "java/lang/invoke/VarHandle" ∧ (parseMethodDescriptor yX10_see.desc).map (fun d => d.parameters.length) = some 3 := by decide +kernel
set_option maxHeartbeats 4000000 in
set_option maxRecDepth 100000 in
theorem kX10_see {l : Launch} {D : va_G} {cyI cyZ cyW : ClassId} {zW zO : Nat} {md : Nat → Nat} {mflags : Int32} {mtubs : Int32} {mpegs : Int32} {mcl : (Nat → Int32)} {mws : (Nat → Int32)} {mho : (Nat → Int32)} {mnow : (Nat → Int32)} {mrd : (Nat → Int32)} {mrh : (Nat → Int32)} {mrf : Int32} {mtx : (Nat → Int32)} {mlen : Int32} {mat : Int32} {mfa : Int32} {mac : Int32} {mnx : Int32} {mrow : (Nat → Int32)} {msn : Int32} {mso : (Nat → Int32)} {msc : (Nat → Int32)} {msw : (Nat → Int32)} {mseed : Int64} {mik : (Nat → Int32)} {mkp : (Nat → Int32)} {x1 : Int32} {x2 : Int32} {x3 : Int32} {res : Int32 × Int32 × (Nat → Int32) × (Nat → Int32) × (Nat → Int32)} (h : fX10_see x1 x2 x3 mflags msn mso msc msw = some res) : KI l yX10_see wsX10_see ({ frames := 2, cells := 0, slots := 0, locals := 46 } : Room) D (tyA cyI cyZ cyW) zW zO [.ref (md 0), .int x1, .int x2, .int x3] (wMO cyI cyZ cyW md mflags mtubs mpegs mcl mws mho mnow mrd mrh mrf mtx mlen mat mfa mac mnx mrow msn mso msc msw mseed mik mkp) (wMO cyI cyZ cyW md mflags mtubs mpegs mcl mws mho mnow mrd mrh mrf mtx mlen mat mfa mac mnx mrow res.2.1 res.2.2.1 res.2.2.2.1 res.2.2.2.2 mseed mik mkp) res.1 := by
  refine enterI (cc := cX10_see) (nL := 4) (ret := (some .int)) (by decide) rfl (Nat.le_of_ble_eq_true rfl) (fun p e s m below meth c A C => ?_)
  refine r_lv (lv' := [(0, .ref (md 0)), (1, .int x1), (2, .int x2), (3, .int x3)]) [0, 1, 2, 3] rfl ?_
  unfold fX10_see at h
  refine r_aload_n C dX10_see_0 0 rfl rfl ?_
  refine r_iload_n C dX10_see_1 1 rfl rfl ?_
  obtain ⟨u1, hu1, h⟩ := ob_bind h
  refine r_readVI (q0 := 0) (As := [.int x1]) (rest := []) C (kX10_isFlag (md := md) (mflags := mflags) (mtubs := mtubs) (mpegs := mpegs) (mcl := mcl) (mws := mws) (mho := mho) (mnow := mnow) (mrd := mrd) (mrh := mrh) (mrf := mrf) (mtx := mtx) (mlen := mlen) (mat := mat) (mfa := mfa) (mac := mac) (mnx := mnx) (mrow := mrow) (msn := msn) (mso := mso) (msc := msc) (msw := msw) (mseed := mseed) (mik := mik) (mkp := mkp) (x1 := x1) hu1) gX10_see_X10_isFlag rfl rfl rfl ⟨rfl, hd_X10_isFlag⟩ ⟨by decide, by decide⟩ rfl rfl rfl rfl [0, 1, 2, 3, 4, 5, 6, 7, 8, 9, 10, 11, 12, 13] (by decide) in_76 rfl (Nat.le_of_ble_eq_true rfl) dX10_see_2 ⟨Nat.zero_le _, Nat.zero_le _⟩ ?_
  refine r_ifb_ne (tgt := 10) C dX10_see_5 (by decide) (fun c2 => ?_) (fun c2 => ?_)
  · replace h := ob_t h c2
    refine r_iload_n C dX10_see_10 2 rfl rfl ?_
    refine r_i2l C dX10_see_11 ?_
    refine r_lconst (v := 0) C dX10_see_12 lc_0 ?_
    refine r_ldc2 (v := 15) C mX10_see_1 dX10_see_13 ?_
    obtain ⟨u3, hu3, h⟩ := ob_bind h
    refine r_readSI (As := [.long x2.toInt64, .long (0 : Int64), .long (15 : Int64)]) (rest := []) C (kX10_in   (x0 := x2.toInt64) (x2 := (0 : Int64)) (x4 := (15 : Int64)) hu3) gX10_see_X10_in rfl rfl rfl hd_X10_in ⟨by decide, by decide⟩ rfl [] (by decide) rfl rfl (Nat.le_of_ble_eq_true rfl) dX10_see_16 ⟨Nat.zero_le _, Nat.zero_le _⟩ ?_
    refine r_ifb_eq (tgt := 42) C dX10_see_19 (by decide) (fun c4 => ?_) (fun c4 => ?_)
    · replace h := ob_bf h c4
      refine r_bipush (v := -2) C dX10_see_42 bp_m2 ?_
      have h9 := Option.some.inj h
      subst h9
      exact r_iret C rfl dX10_see_44
    · replace h := ob_t h c4
      refine r_iload_n C dX10_see_22 3 rfl rfl ?_
      refine r_i2l C dX10_see_23 ?_
      refine r_lconst (v := 0) C dX10_see_24 lc_0 ?_
      refine r_ldc2 (v := 31) C mX10_see_2 dX10_see_25 ?_
      obtain ⟨u5, hu5, h⟩ := ob_bind h
      refine r_readSI (As := [.long x3.toInt64, .long (0 : Int64), .long (31 : Int64)]) (rest := []) C (kX10_in   (x0 := x3.toInt64) (x2 := (0 : Int64)) (x4 := (31 : Int64)) hu5) gX10_see_X10_in rfl rfl rfl hd_X10_in ⟨by decide, by decide⟩ rfl [] (by decide) rfl rfl (Nat.le_of_ble_eq_true rfl) dX10_see_28 ⟨Nat.zero_le _, Nat.zero_le _⟩ ?_
      refine r_ifb_eq (tgt := 42) C dX10_see_31 (by decide) (fun c6 => ?_) (fun c6 => ?_)
      · replace h := ob_bf h c6
        refine r_bipush (v := -2) C dX10_see_42 bp_m2 ?_
        have h9 := Option.some.inj h
        subst h9
        exact r_iret C rfl dX10_see_44
      · replace h := ob_t h c6
        refine r_iload_n C dX10_see_34 3 rfl rfl ?_
        refine r_iload_n C dX10_see_35 1 rfl rfl ?_
        obtain ⟨u7, hu7, h⟩ := ob_bind h
        refine r_readSI (As := [.int x3, .int x1]) (rest := []) C (kX10_has   (x0 := x3) (x1 := x1) hu7) gX10_see_X10_has rfl rfl rfl hd_X10_has ⟨by decide, by decide⟩ rfl [] (by decide) rfl rfl (Nat.le_of_ble_eq_true rfl) dX10_see_36 ⟨Nat.zero_le _, Nat.zero_le _⟩ ?_
        refine r_ifb_eq (tgt := 45) C dX10_see_39 (by decide) (fun c8 => ?_) (fun c8 => ?_)
        · replace h := ob_bf h c8
          refine r_aload_n C dX10_see_45 0 rfl rfl ?_
          refine r_get (ci := 7) (CC := RX10) (T := TX10) (N := 24) (v := .int msn) C hinX10_see_X10 0 rfl rfl 17 (by decide) mX10_see_3 rfl rfl dX10_see_46 ?_
          refine r_bipush (v := 6) C dX10_see_49 bp_6 ?_
          refine r_icmp_ne (tgt := 57) C dX10_see_51 (by decide) (fun c9 => ?_) (fun c9 => ?_)
          · replace h := ob_f h c9
            refine r_aload_n C dX10_see_57 0 rfl rfl ?_
            refine r_get (ci := 7) (CC := RX10) (T := TX10) (N := 24) (v := .ref (md 9)) C hinX10_see_X10 0 rfl rfl 18 (by decide) mX10_see_4 rfl rfl dX10_see_58 ?_
            refine r_aload_n C dX10_see_61 0 rfl rfl ?_
            refine r_get (ci := 7) (CC := RX10) (T := TX10) (N := 24) (v := .int msn) C hinX10_see_X10 0 rfl rfl 17 (by decide) mX10_see_3 rfl rfl dX10_see_62 ?_
            refine r_iload_n C dX10_see_65 1 rfl rfl ?_
            obtain ⟨hu10, h⟩ := ob_if h
            refine r_iast (ws1 := (wMO cyI cyZ cyW md mflags mtubs mpegs mcl mws mho mnow mrd mrh mrf mtx mlen mat mfa mac mnx mrow msn (upd mso msn.toNatClampNeg x1) msc msw mseed mik mkp)) C 9 0 rfl rfl (inb_vp hu10) rfl dX10_see_66 ?_
            refine r_aload_n C dX10_see_67 0 rfl rfl ?_
            refine r_get (ci := 7) (CC := RX10) (T := TX10) (N := 24) (v := .ref (md 10)) C hinX10_see_X10 0 rfl rfl 19 (by decide) mX10_see_5 rfl rfl dX10_see_68 ?_
            refine r_aload_n C dX10_see_71 0 rfl rfl ?_
            refine r_get (ci := 7) (CC := RX10) (T := TX10) (N := 24) (v := .int msn) C hinX10_see_X10 0 rfl rfl 17 (by decide) mX10_see_3 rfl rfl dX10_see_72 ?_
            refine r_iload_n C dX10_see_75 2 rfl rfl ?_
            obtain ⟨hu11, h⟩ := ob_if h
            refine r_iast (ws1 := (wMO cyI cyZ cyW md mflags mtubs mpegs mcl mws mho mnow mrd mrh mrf mtx mlen mat mfa mac mnx mrow msn (upd mso msn.toNatClampNeg x1) (upd msc msn.toNatClampNeg x2) msw mseed mik mkp)) C 10 0 rfl rfl (inb_vp hu11) rfl dX10_see_76 ?_
            refine r_aload_n C dX10_see_77 0 rfl rfl ?_
            refine r_get (ci := 7) (CC := RX10) (T := TX10) (N := 24) (v := .ref (md 11)) C hinX10_see_X10 0 rfl rfl 20 (by decide) mX10_see_6 rfl rfl dX10_see_78 ?_
            refine r_aload_n C dX10_see_81 0 rfl rfl ?_
            refine r_get (ci := 7) (CC := RX10) (T := TX10) (N := 24) (v := .int msn) C hinX10_see_X10 0 rfl rfl 17 (by decide) mX10_see_3 rfl rfl dX10_see_82 ?_
            refine r_iload_n C dX10_see_85 3 rfl rfl ?_
            obtain ⟨hu12, h⟩ := ob_if h
            refine r_iast (ws1 := (wMO cyI cyZ cyW md mflags mtubs mpegs mcl mws mho mnow mrd mrh mrf mtx mlen mat mfa mac mnx mrow msn (upd mso msn.toNatClampNeg x1) (upd msc msn.toNatClampNeg x2) (upd msw msn.toNatClampNeg x3) mseed mik mkp)) C 11 0 rfl rfl (inb_vp hu12) rfl dX10_see_86 ?_
            refine r_aload_n C dX10_see_87 0 rfl rfl ?_
            refine r_dup C dX10_see_88 rfl ?_
            refine r_get (ci := 7) (CC := RX10) (T := TX10) (N := 24) (v := .int msn) C hinX10_see_X10 0 rfl rfl 17 (by decide) mX10_see_3 rfl rfl dX10_see_89 ?_
            refine r_iconst (v := 1) C dX10_see_92 ic_1 ?_
            refine r_iadd C dX10_see_93 ?_
            refine r_put (ci := 7) (CC := RX10) (T := TX10) (N := 24) (v := .int (msn + (1 : Int32))) (ws1 := (wMO cyI cyZ cyW md mflags mtubs mpegs mcl mws mho mnow mrd mrh mrf mtx mlen mat mfa mac mnx mrow (msn + (1 : Int32)) (upd mso msn.toNatClampNeg x1) (upd msc msn.toNatClampNeg x2) (upd msw msn.toNatClampNeg x3) mseed mik mkp)) (ty := .int) C hinX10_see_X10 tyX10 tyX10_ok nmX10 0 rfl rfl 17 (by decide) mX10_see_3 rfl rfl rfl rfl rfl (Nat.le_of_ble_eq_true rfl) rfl dX10_see_94 ?_
            refine r_aload_n C dX10_see_97 0 rfl rfl ?_
            refine r_get (ci := 7) (CC := RX10) (T := TX10) (N := 24) (v := .int (msn + (1 : Int32))) C hinX10_see_X10 0 rfl rfl 17 (by decide) mX10_see_3 rfl rfl dX10_see_98 ?_
            have h9 := Option.some.inj h
            subst h9
            exact r_iret C rfl dX10_see_101
          · replace h := ob_t h c9
            refine r_bipush (v := -4) C dX10_see_54 bp_m4 ?_
            have h9 := Option.some.inj h
            subst h9
            exact r_iret C rfl dX10_see_56
        · replace h := ob_t h c8
          refine r_bipush (v := -2) C dX10_see_42 bp_m2 ?_
          have h9 := Option.some.inj h
          subst h9
          exact r_iret C rfl dX10_see_44
  · replace h := ob_bf h c2
    refine r_iconst (v := -1) C dX10_see_8 ic_m1 ?_
    have h9 := Option.some.inj h
    subst h9
    exact r_iret C rfl dX10_see_9

/-! ===== FlagWashModel.unsee ===== -/
def fX10_unsee  (msn : Int32) : Option (Int32 × Int32) :=
 (some (msn, (0 : Int32)))
theorem hinX10_unsee_X10 : ∀ w ∈ u_ws RX10 TX10 24, w ∈ wsX10_unsee := fun w h => List.mem_cons_of_mem _ (List.mem_append_right _ h)
theorem mX10_unsee_1 : Cond.fieldLink RX10 172 "FlagWashModel" "seen" "I" ∈ wsX10_unsee := List.mem_of_getElem? (i := 1) rfl
theorem hd_X10_unsee : yX10_unsee.cls ≠ "java/lang/invoke/MethodHandle" ∧ yX10_unsee.cls ≠ "java/lang/invoke/VarHandle" ∧ (parseMethodDescriptor yX10_unsee.desc).map (fun d => d.parameters.length) = some 0 := by decide +kernel
set_option maxHeartbeats 4000000 in
set_option maxRecDepth 100000 in
theorem kX10_unsee {l : Launch} {D : va_G} {cyI cyZ cyW : ClassId} {zW zO : Nat} {md : Nat → Nat} {mflags : Int32} {mtubs : Int32} {mpegs : Int32} {mcl : (Nat → Int32)} {mws : (Nat → Int32)} {mho : (Nat → Int32)} {mnow : (Nat → Int32)} {mrd : (Nat → Int32)} {mrh : (Nat → Int32)} {mrf : Int32} {mtx : (Nat → Int32)} {mlen : Int32} {mat : Int32} {mfa : Int32} {mac : Int32} {mnx : Int32} {mrow : (Nat → Int32)} {msn : Int32} {mso : (Nat → Int32)} {msc : (Nat → Int32)} {msw : (Nat → Int32)} {mseed : Int64} {mik : (Nat → Int32)} {mkp : (Nat → Int32)}  {res : Int32 × Int32} (h : fX10_unsee msn = some res) : KI l yX10_unsee wsX10_unsee ({ frames := 0, cells := 0, slots := 0, locals := 0 } : Room) D (tyA cyI cyZ cyW) zW zO [.ref (md 0)] (wMO cyI cyZ cyW md mflags mtubs mpegs mcl mws mho mnow mrd mrh mrf mtx mlen mat mfa mac mnx mrow msn mso msc msw mseed mik mkp) (wMO cyI cyZ cyW md mflags mtubs mpegs mcl mws mho mnow mrd mrh mrf mtx mlen mat mfa mac mnx mrow res.2 mso msc msw mseed mik mkp) res.1 := by
  refine enterI (cc := cX10_unsee) (nL := 2) (ret := (some .int)) (by decide) rfl (Nat.le_of_ble_eq_true rfl) (fun p e s m below meth c A C => ?_)
  refine r_lv (lv' := [(0, .ref (md 0))]) [0] rfl ?_
  unfold fX10_unsee at h
  refine r_aload_n C dX10_unsee_0 0 rfl rfl ?_
  refine r_get (ci := 7) (CC := RX10) (T := TX10) (N := 24) (v := .int msn) C hinX10_unsee_X10 0 rfl rfl 17 (by decide) mX10_unsee_1 rfl rfl dX10_unsee_1 ?_
  refine r_istore_n (lv' := [(1, .int msn), (0, .ref (md 0))]) C dX10_unsee_4 rfl (by decide) rfl ?_
  refine r_aload_n C dX10_unsee_5 1 rfl rfl ?_
  refine r_iconst (v := 0) C dX10_unsee_6 ic_0 ?_
  refine r_put (ci := 7) (CC := RX10) (T := TX10) (N := 24) (v := .int (0 : Int32)) (ws1 := (wMO cyI cyZ cyW md mflags mtubs mpegs mcl mws mho mnow mrd mrh mrf mtx mlen mat mfa mac mnx mrow (0 : Int32) mso msc msw mseed mik mkp)) (ty := .int) C hinX10_unsee_X10 tyX10 tyX10_ok nmX10 0 rfl rfl 17 (by decide) mX10_unsee_1 rfl rfl rfl rfl rfl (Nat.le_of_ble_eq_true rfl) rfl dX10_unsee_7 ?_
  refine r_iload_n C dX10_unsee_10 0 rfl rfl ?_
  have h9 := Option.some.inj h
  subst h9
  exact r_iret C rfl dX10_unsee_11
