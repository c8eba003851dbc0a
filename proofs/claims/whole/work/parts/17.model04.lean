/-! ===== FlagWashModel.fights ===== -/
def fX10_fights_42 (rec4 : Int32 → Int32 → Option (Int32)) (x1 : Int32) (x3 : Int32) (y0 : Int32) (y1 : Int32) (mflags : Int32) (mho : (Nat → Int32)) : Option (Int32) :=
 (rec4 (y1 + y0) (x3 + (1 : Int32)))
def gX10_fights_4 (rec4 : Int32 → Int32 → Option (Int32)) (x1 : Int32) (x2 : Int32) (x3 : Int32) (mflags : Int32) (mho : (Nat → Int32)) : Option (Int32) :=
 (if mflags ≤ x3 then (some x2)
 else ((fX10_has x1 x3).bind fun u2 => (if u2 = true then (if inb x3 5 = true then ((fX10_ones (((mho x3.toNatClampNeg) &&& x1) &&& (((1 : Int32) <<< (x3 &&& 31)) - (1 : Int32)))).bind fun u5 => (fX10_fights_42 rec4 x1 x3 u5 x2 mflags mho)) else none)
 else (fX10_fights_42 rec4 x1 x3 (0 : Int32) x2 mflags mho))))
def fX10_fights_4  (x1 : Int32) (mflags : Int32) (mho : (Nat → Int32)) : Nat → Int32 → Int32 → Option (Int32)
  | 0 => fun _ _ => none
  | n + 1 => fun x2 x3 => gX10_fights_4 (fX10_fights_4  x1 mflags mho n) x1 x2 x3 mflags mho
def fX10_fights  (x1 : Int32) (mflags : Int32) (mho : (Nat → Int32)) : Option (Int32) :=
 (fX10_fights_4  x1 mflags mho FU (0 : Int32) (0 : Int32))
theorem hinX10_fights_X10 : ∀ w ∈ u_ws RX10 TX10 24, w ∈ wsX10_fights := fun w h => List.mem_cons_of_mem _ (List.mem_append_right _ h)
theorem mX10_fights_1 : Cond.fieldLink RX10 101 "FlagWashModel" "flags" "I" ∈ wsX10_fights := List.mem_of_getElem? (i := 1) rfl
theorem mX10_fights_2 : Cond.fieldLink RX10 16 "FlagWashModel" "hostile" "[I" ∈ wsX10_fights := List.mem_of_getElem? (i := 2) rfl
theorem hd_X10_fights : yX10_fights.cls ≠ "java/lang/invoke/MethodHandle" ∧ yX10_fights.cls ≠ "java/lang/invoke/VarHandle" ∧ (parseMethodDescriptor yX10_fights.desc).map (fun d => d.parameters.length) = some 1 := by decide +kernel
set_option maxHeartbeats 4000000 in
set_option maxRecDepth 100000 in
theorem LX10_fights_42 {p : Program} {l : Launch} {e : Env} {s : State} {m : MethodId} {args : Array Value} {below : List Frame} {meth : Method} {c : Code} {D : va_G} {cyI cyZ cyW : ClassId} {zW zO : Nat} {A : Nat → Prop} (C : Cx p s m args meth c cX10_fights RX10 "fights" wsX10_fights (some .int) 4 D (tyA cyI cyZ cyW) zW zO A) {md : Nat → Nat} {mflags : Int32} {mtubs : Int32} {mpegs : Int32} {mcl : (Nat → Int32)} {mws : (Nat → Int32)} {mho : (Nat → Int32)} {mnow : (Nat → Int32)} {mrd : (Nat → Int32)} {mrh : (Nat → Int32)} {mrf : Int32} {mtx : (Nat → Int32)} {mlen : Int32} {mat : Int32} {mfa : Int32} {mac : Int32} {mnx : Int32} {mrow : (Nat → Int32)} {msn : Int32} {mso : (Nat → Int32)} {msc : (Nat → Int32)} {msw : (Nat → Int32)} {mseed : Int64} {mik : (Nat → Int32)} {mkp : (Nat → Int32)} {x1 : Int32} {x3 : Int32} {y0 : Int32} {y1 : Int32} {rec4 : Int32 → Int32 → Option (Int32)} {res : Int32} (hrec4 : ∀ (x2 : Int32) (x3 : Int32), rec4 x2 x3 = some res → Mx p l e ({ frames := 1, cells := 0, slots := 0, locals := 22 } : Room) s m args below meth c (MQ below (QI D (tyA cyI cyZ cyW) A (wMO cyI cyZ cyW md mflags mtubs mpegs mcl mws mho mnow mrd mrh mrf mtx mlen mat mfa mac mnx mrow msn mso msc msw mseed mik mkp) res) args s 0 0 A) 4 D A 0 0 (wMO cyI cyZ cyW md mflags mtubs mpegs mcl mws mho mnow mrd mrh mrf mtx mlen mat mfa mac mnx mrow msn mso msc msw mseed mik mkp) 4 [(0, .ref (md 0)), (1, .int x1), (2, .int x2), (3, .int x3)] []) (h : fX10_fights_42 rec4 x1 x3 y0 y1 mflags mho = some res) : Mx p l e ({ frames := 1, cells := 0, slots := 0, locals := 22 } : Room) s m args below meth c (MQ below (QI D (tyA cyI cyZ cyW) A (wMO cyI cyZ cyW md mflags mtubs mpegs mcl mws mho mnow mrd mrh mrf mtx mlen mat mfa mac mnx mrow msn mso msc msw mseed mik mkp) res) args s 0 0 A) 4 D A 0 0 (wMO cyI cyZ cyW md mflags mtubs mpegs mcl mws mho mnow mrd mrh mrf mtx mlen mat mfa mac mnx mrow msn mso msc msw mseed mik mkp) 42 [(0, .ref (md 0)), (1, .int x1), (3, .int x3)] [.int y0, .int y1] := by
  unfold fX10_fights_42 at h
  refine r_iadd C dX10_fights_42 ?_
  refine r_istore_n (lv' := [(2, .int (y1 + y0)), (0, .ref (md 0)), (1, .int x1), (3, .int x3)]) C dX10_fights_43 rfl (by decide) rfl ?_
  refine r_iinc (v := 1) (lv' := [(3, .int (x3 + (1 : Int32))), (2, .int (y1 + y0)), (0, .ref (md 0)), (1, .int x1)]) C dX10_fights_44 3 rfl ic_1 (by decide) rfl ?_
  refine r_goto (tgt := 4) C dX10_fights_47 (by decide) ?_
  refine r_lv (lv' := [(0, .ref (md 0)), (1, .int x1), (2, .int (y1 + y0)), (3, .int (x3 + (1 : Int32)))]) [2, 3, 1, 0] rfl ?_
  exact hrec4 (y1 + y0) (x3 + (1 : Int32)) h
set_option maxHeartbeats 4000000 in
set_option maxRecDepth 100000 in
theorem LGX10_fights_4 {p : Program} {l : Launch} {e : Env} {s : State} {m : MethodId} {args : Array Value} {below : List Frame} {meth : Method} {c : Code} {D : va_G} {cyI cyZ cyW : ClassId} {zW zO : Nat} {A : Nat → Prop} (C : Cx p s m args meth c cX10_fights RX10 "fights" wsX10_fights (some .int) 4 D (tyA cyI cyZ cyW) zW zO A) {md : Nat → Nat} {mflags : Int32} {mtubs : Int32} {mpegs : Int32} {mcl : (Nat → Int32)} {mws : (Nat → Int32)} {mho : (Nat → Int32)} {mnow : (Nat → Int32)} {mrd : (Nat → Int32)} {mrh : (Nat → Int32)} {mrf : Int32} {mtx : (Nat → Int32)} {mlen : Int32} {mat : Int32} {mfa : Int32} {mac : Int32} {mnx : Int32} {mrow : (Nat → Int32)} {msn : Int32} {mso : (Nat → Int32)} {msc : (Nat → Int32)} {msw : (Nat → Int32)} {mseed : Int64} {mik : (Nat → Int32)} {mkp : (Nat → Int32)} {x1 : Int32} {x2 : Int32} {x3 : Int32} {rec4 : Int32 → Int32 → Option (Int32)} {res : Int32} (hrec4 : ∀ (x2 : Int32) (x3 : Int32), rec4 x2 x3 = some res → Mx p l e ({ frames := 1, cells := 0, slots := 0, locals := 22 } : Room) s m args below meth c (MQ below (QI D (tyA cyI cyZ cyW) A (wMO cyI cyZ cyW md mflags mtubs mpegs mcl mws mho mnow mrd mrh mrf mtx mlen mat mfa mac mnx mrow msn mso msc msw mseed mik mkp) res) args s 0 0 A) 4 D A 0 0 (wMO cyI cyZ cyW md mflags mtubs mpegs mcl mws mho mnow mrd mrh mrf mtx mlen mat mfa mac mnx mrow msn mso msc msw mseed mik mkp) 4 [(0, .ref (md 0)), (1, .int x1), (2, .int x2), (3, .int x3)] []) (h : gX10_fights_4 rec4 x1 x2 x3 mflags mho = some res) : Mx p l e ({ frames := 1, cells := 0, slots := 0, locals := 22 } : Room) s m args below meth c (MQ below (QI D (tyA cyI cyZ cyW) A (wMO cyI cyZ cyW md mflags mtubs mpegs mcl mws mho mnow mrd mrh mrf mtx mlen mat mfa mac mnx mrow msn mso msc msw mseed mik mkp) res) args s 0 0 A) 4 D A 0 0 (wMO cyI cyZ cyW md mflags mtubs mpegs mcl mws mho mnow mrd mrh mrf mtx mlen mat mfa mac mnx mrow msn mso msc msw mseed mik mkp) 4 [(0, .ref (md 0)), (1, .int x1), (2, .int x2), (3, .int x3)] [] := by
  unfold gX10_fights_4 at h
  refine r_iload_n C dX10_fights_4 3 rfl rfl ?_
  refine r_aload_n C dX10_fights_5 0 rfl rfl ?_
  refine r_get (ci := 7) (CC := RX10) (T := TX10) (N := 24) (v := .int mflags) C hinX10_fights_X10 0 rfl rfl 0 (by decide) mX10_fights_1 rfl rfl dX10_fights_6 ?_
  refine r_icmp_ge (tgt := 50) C dX10_fights_9 (by decide) (fun c1 => ?_) (fun c1 => ?_)
  · replace h := ob_t h c1
    refine r_iload_n C dX10_fights_50 2 rfl rfl ?_
    have h9 := Option.some.inj h
    subst h9
    exact r_iret C rfl dX10_fights_51
  · replace h := ob_f h c1
    refine r_iload_n C dX10_fights_12 2 rfl rfl ?_
    refine r_iload_n C dX10_fights_13 1 rfl rfl ?_
    refine r_iload_n C dX10_fights_14 3 rfl rfl ?_
    obtain ⟨u2, hu2, h⟩ := ob_bind h
    refine r_readSI (As := [.int x1, .int x3]) (rest := [.int x2]) C (kX10_has   (x0 := x1) (x1 := x3) hu2) gX10_fights_X10_has rfl rfl rfl hd_X10_has ⟨by decide, by decide⟩ rfl [] (by decide) rfl rfl (Nat.le_of_ble_eq_true rfl) dX10_fights_15 ⟨Nat.zero_le _, Nat.zero_le _⟩ ?_
    refine r_ifb_eq (tgt := 41) C dX10_fights_18 (by decide) (fun c3 => ?_) (fun c3 => ?_)
    · replace h := ob_bf h c3
      refine r_iconst (v := 0) C dX10_fights_41 ic_0 ?_
      refine r_lv (lv' := [(0, .ref (md 0)), (1, .int x1), (3, .int x3)]) [0, 1, 3] rfl ?_
      exact LX10_fights_42 C (x1 := x1) (x3 := x3) (y0 := (0 : Int32)) (y1 := x2) (mflags := mflags) (mtubs := mtubs) (mpegs := mpegs) (mcl := mcl) (mws := mws) (mho := mho) (mnow := mnow) (mrd := mrd) (mrh := mrh) (mrf := mrf) (mtx := mtx) (mlen := mlen) (mat := mat) (mfa := mfa) (mac := mac) (mnx := mnx) (mrow := mrow) (msn := msn) (mso := mso) (msc := msc) (msw := msw) (mseed := mseed) (mik := mik) (mkp := mkp) hrec4 h
    · replace h := ob_t h c3
      refine r_aload_n C dX10_fights_21 0 rfl rfl ?_
      refine r_get (ci := 7) (CC := RX10) (T := TX10) (N := 24) (v := .ref (md 3)) C hinX10_fights_X10 0 rfl rfl 5 (by decide) mX10_fights_2 rfl rfl dX10_fights_22 ?_
      refine r_iload_n C dX10_fights_25 3 rfl rfl ?_
      obtain ⟨hu4, h⟩ := ob_if h
      refine r_iald C 3 0 rfl rfl (inb_vp hu4) dX10_fights_26 ?_
      refine r_iload_n C dX10_fights_27 1 rfl rfl ?_
      refine r_iand C dX10_fights_28 ?_
      refine r_iconst (v := 1) C dX10_fights_29 ic_1 ?_
      refine r_iload_n C dX10_fights_30 3 rfl rfl ?_
      refine r_ishl C dX10_fights_31 ?_
      refine r_iconst (v := 1) C dX10_fights_32 ic_1 ?_
      refine r_isub C dX10_fights_33 ?_
      refine r_iand C dX10_fights_34 ?_
      obtain ⟨u5, hu5, h⟩ := ob_bind h
      refine r_readSI (As := [.int (((mho x3.toNatClampNeg) &&& x1) &&& (((1 : Int32) <<< (x3 &&& 31)) - (1 : Int32)))]) (rest := [.int x2]) C (kX10_ones   (x0 := (((mho x3.toNatClampNeg) &&& x1) &&& (((1 : Int32) <<< (x3 &&& 31)) - (1 : Int32)))) hu5) gX10_fights_X10_ones rfl rfl rfl hd_X10_ones ⟨by decide, by decide⟩ rfl [] (by decide) rfl rfl (Nat.le_of_ble_eq_true rfl) dX10_fights_35 ⟨Nat.zero_le _, Nat.zero_le _⟩ ?_
      refine r_goto (tgt := 42) C dX10_fights_38 (by decide) ?_
      refine r_lv (lv' := [(0, .ref (md 0)), (1, .int x1), (3, .int x3)]) [0, 1, 3] rfl ?_
      exact LX10_fights_42 C (x1 := x1) (x3 := x3) (y0 := u5) (y1 := x2) (mflags := mflags) (mtubs := mtubs) (mpegs := mpegs) (mcl := mcl) (mws := mws) (mho := mho) (mnow := mnow) (mrd := mrd) (mrh := mrh) (mrf := mrf) (mtx := mtx) (mlen := mlen) (mat := mat) (mfa := mfa) (mac := mac) (mnx := mnx) (mrow := mrow) (msn := msn) (mso := mso) (msc := msc) (msw := msw) (mseed := mseed) (mik := mik) (mkp := mkp) hrec4 h
set_option maxHeartbeats 4000000 in
set_option maxRecDepth 100000 in
theorem LX10_fights_4 {p : Program} {l : Launch} {e : Env} {s : State} {m : MethodId} {args : Array Value} {below : List Frame} {meth : Method} {c : Code} {D : va_G} {cyI cyZ cyW : ClassId} {zW zO : Nat} {A : Nat → Prop} (C : Cx p s m args meth c cX10_fights RX10 "fights" wsX10_fights (some .int) 4 D (tyA cyI cyZ cyW) zW zO A) {md : Nat → Nat} {x1 : Int32} {mflags : Int32} {mtubs : Int32} {mpegs : Int32} {mcl : (Nat → Int32)} {mws : (Nat → Int32)} {mho : (Nat → Int32)} {mnow : (Nat → Int32)} {mrd : (Nat → Int32)} {mrh : (Nat → Int32)} {mrf : Int32} {mtx : (Nat → Int32)} {mlen : Int32} {mat : Int32} {mfa : Int32} {mac : Int32} {mnx : Int32} {mrow : (Nat → Int32)} {msn : Int32} {mso : (Nat → Int32)} {msc : (Nat → Int32)} {msw : (Nat → Int32)} {mseed : Int64} {mik : (Nat → Int32)} {mkp : (Nat → Int32)}  {res : Int32}  : ∀ (n : Nat) (x2 : Int32) (x3 : Int32), fX10_fights_4  x1 mflags mho n x2 x3 = some res → Mx p l e ({ frames := 1, cells := 0, slots := 0, locals := 22 } : Room) s m args below meth c (MQ below (QI D (tyA cyI cyZ cyW) A (wMO cyI cyZ cyW md mflags mtubs mpegs mcl mws mho mnow mrd mrh mrf mtx mlen mat mfa mac mnx mrow msn mso msc msw mseed mik mkp) res) args s 0 0 A) 4 D A 0 0 (wMO cyI cyZ cyW md mflags mtubs mpegs mcl mws mho mnow mrd mrh mrf mtx mlen mat mfa mac mnx mrow msn mso msc msw mseed mik mkp) 4 [(0, .ref (md 0)), (1, .int x1), (2, .int x2), (3, .int x3)] [] := by
  intro n
  induction n with
  | zero => intro x2 x3 h; cases h
  | succ n ih => intro x2 x3 h; exact LGX10_fights_4 C ih h
set_option maxHeartbeats 4000000 in
set_option maxRecDepth 100000 in
theorem kX10_fights {l : Launch} {D : va_G} {cyI cyZ cyW : ClassId} {zW zO : Nat} {md : Nat → Nat} {mflags : Int32} {mtubs : Int32} {mpegs : Int32} {mcl : (Nat → Int32)} {mws : (Nat → Int32)} {mho : (Nat → Int32)} {mnow : (Nat → Int32)} {mrd : (Nat → Int32)} {mrh : (Nat → Int32)} {mrf : Int32} {mtx : (Nat → Int32)} {mlen : Int32} {mat : Int32} {mfa : Int32} {mac : Int32} {mnx : Int32} {mrow : (Nat → Int32)} {msn : Int32} {mso : (Nat → Int32)} {msc : (Nat → Int32)} {msw : (Nat → Int32)} {mseed : Int64} {mik : (Nat → Int32)} {mkp : (Nat → Int32)} {x1 : Int32} {res : Int32} (h : fX10_fights x1 mflags mho = some res) : KI l yX10_fights wsX10_fights ({ frames := 1, cells := 0, slots := 0, locals := 22 } : Room) D (tyA cyI cyZ cyW) zW zO [.ref (md 0), .int x1] (wMO cyI cyZ cyW md mflags mtubs mpegs mcl mws mho mnow mrd mrh mrf mtx mlen mat mfa mac mnx mrow msn mso msc msw mseed mik mkp) (wMO cyI cyZ cyW md mflags mtubs mpegs mcl mws mho mnow mrd mrh mrf mtx mlen mat mfa mac mnx mrow msn mso msc msw mseed mik mkp) res := by
  refine enterI (cc := cX10_fights) (nL := 4) (ret := (some .int)) (by decide) rfl (Nat.le_of_ble_eq_true rfl) (fun p e s m below meth c A C => ?_)
  refine r_lv (lv' := [(0, .ref (md 0)), (1, .int x1)]) [0, 1] rfl ?_
  unfold fX10_fights at h
  refine r_iconst (v := 0) C dX10_fights_0 ic_0 ?_
  refine r_istore_n (lv' := [(2, .int (0 : Int32)), (0, .ref (md 0)), (1, .int x1)]) C dX10_fights_1 rfl (by decide) rfl ?_
  refine r_iconst (v := 0) C dX10_fights_2 ic_0 ?_
  refine r_istore_n (lv' := [(3, .int (0 : Int32)), (2, .int (0 : Int32)), (0, .ref (md 0)), (1, .int x1)]) C dX10_fights_3 rfl (by decide) rfl ?_
  refine r_lv (lv' := [(0, .ref (md 0)), (1, .int x1), (2, .int (0 : Int32)), (3, .int (0 : Int32))]) [2, 3, 1, 0] rfl ?_
  exact LX10_fights_4 C (x1 := x1) (mflags := mflags) (mtubs := mtubs) (mpegs := mpegs) (mcl := mcl) (mws := mws) (mho := mho) (mnow := mnow) (mrd := mrd) (mrh := mrh) (mrf := mrf) (mtx := mtx) (mlen := mlen) (mat := mat) (mfa := mfa) (mac := mac) (mnx := mnx) (mrow := mrow) (msn := msn) (mso := mso) (msc := msc) (msw := msw) (mseed := mseed) (mik := mik) (mkp := mkp)  FU (0 : Int32) (0 : Int32) h

/-! ===== FlagWashModel.wetOf ===== -/
def fX10_wetOf  (x1 : Int32) (mcl : (Nat → Int32)) : Option (Int32) :=
 (if inb x1 5 = true then (if (mcl x1.toNatClampNeg) = (1 : Int32) then (some (6 : Int32))
 else (if inb x1 5 = true then (if (mcl x1.toNatClampNeg) = (2 : Int32) then (some (2 : Int32))
 else (some (4 : Int32))) else none)) else none)
theorem hinX10_wetOf_X10 : ∀ w ∈ u_ws RX10 TX10 24, w ∈ wsX10_wetOf := fun w h => List.mem_cons_of_mem _ (List.mem_append_right _ h)
theorem mX10_wetOf_1 : Cond.fieldLink RX10 7 "FlagWashModel" "cloth" "[I" ∈ wsX10_wetOf := List.mem_of_getElem? (i := 1) rfl
theorem hd_X10_wetOf : yX10_wetOf.cls ≠ "java/lang/invoke/MethodHandle" ∧ yX10_wetOf.cls ≠ "java/lang/invoke/VarHandle" ∧ (parseMethodDescriptor yX10_wetOf.desc).map (fun d => d.parameters.length) = some 1 := by decide +kernel
set_option maxHeartbeats 4000000 in
set_option maxRecDepth 100000 in
theorem kX10_wetOf {l : Launch} {D : va_G} {cyI cyZ cyW : ClassId} {zW zO : Nat} {md : Nat → Nat} {mflags : Int32} {mtubs : Int32} {mpegs : Int32} {mcl : (Nat → Int32)} {mws : (Nat → Int32)} {mho : (Nat → Int32)} {mnow : (Nat → Int32)} {mrd : (Nat → Int32)} {mrh : (Nat → Int32)} {mrf : Int32} {mtx : (Nat → Int32)} {mlen : Int32} {mat : Int32} {mfa : Int32} {mac : Int32} {mnx : Int32} {mrow : (Nat → Int32)} {msn : Int32} {mso : (Nat → Int32)} {msc : (Nat → Int32)} {msw : (Nat → Int32)} {mseed : Int64} {mik : (Nat → Int32)} {mkp : (Nat → Int32)} {x1 : Int32} {res : Int32} (h : fX10_wetOf x1 mcl = some res) : KI l yX10_wetOf wsX10_wetOf ({ frames := 0, cells := 0, slots := 0, locals := 0 } : Room) D (tyA cyI cyZ cyW) zW zO [.ref (md 0), .int x1] (wMO cyI cyZ cyW md mflags mtubs mpegs mcl mws mho mnow mrd mrh mrf mtx mlen mat mfa mac mnx mrow msn mso msc msw mseed mik mkp) (wMO cyI cyZ cyW md mflags mtubs mpegs mcl mws mho mnow mrd mrh mrf mtx mlen mat mfa mac mnx mrow msn mso msc msw mseed mik mkp) res := by
  refine enterI (cc := cX10_wetOf) (nL := 2) (ret := (some .int)) (by decide) rfl (Nat.le_of_ble_eq_true rfl) (fun p e s m below meth c A C => ?_)
  refine r_lv (lv' := [(0, .ref (md 0)), (1, .int x1)]) [0, 1] rfl ?_
  unfold fX10_wetOf at h
  refine r_aload_n C dX10_wetOf_0 0 rfl rfl ?_
  refine r_get (ci := 7) (CC := RX10) (T := TX10) (N := 24) (v := .ref (md 1)) C hinX10_wetOf_X10 0 rfl rfl 3 (by decide) mX10_wetOf_1 rfl rfl dX10_wetOf_1 ?_
  refine r_iload_n C dX10_wetOf_4 1 rfl rfl ?_
  obtain ⟨hu1, h⟩ := ob_if h
  refine r_iald C 1 0 rfl rfl (inb_vp hu1) dX10_wetOf_5 ?_
  refine r_iconst (v := 1) C dX10_wetOf_6 ic_1 ?_
  refine r_icmp_ne (tgt := 15) C dX10_wetOf_7 (by decide) (fun c2 => ?_) (fun c2 => ?_)
  · replace h := ob_f h c2
    refine r_aload_n C dX10_wetOf_15 0 rfl rfl ?_
    refine r_get (ci := 7) (CC := RX10) (T := TX10) (N := 24) (v := .ref (md 1)) C hinX10_wetOf_X10 0 rfl rfl 3 (by decide) mX10_wetOf_1 rfl rfl dX10_wetOf_16 ?_
    refine r_iload_n C dX10_wetOf_19 1 rfl rfl ?_
    obtain ⟨hu3, h⟩ := ob_if h
    refine r_iald C 1 0 rfl rfl (inb_vp hu3) dX10_wetOf_20 ?_
    refine r_iconst (v := 2) C dX10_wetOf_21 ic_2 ?_
    refine r_icmp_ne (tgt := 29) C dX10_wetOf_22 (by decide) (fun c4 => ?_) (fun c4 => ?_)
    · replace h := ob_f h c4
      refine r_iconst (v := 4) C dX10_wetOf_29 ic_4 ?_
      have h9 := Option.some.inj h
      subst h9
      exact r_iret C rfl dX10_wetOf_30
    · replace h := ob_t h c4
      refine r_iconst (v := 2) C dX10_wetOf_25 ic_2 ?_
      refine r_goto (tgt := 30) C dX10_wetOf_26 (by decide) ?_
      have h9 := Option.some.inj h
      subst h9
      exact r_iret C rfl dX10_wetOf_30
  · replace h := ob_t h c2
    refine r_bipush (v := 6) C dX10_wetOf_10 bp_6 ?_
    refine r_goto (tgt := 30) C dX10_wetOf_12 (by decide) ?_
    have h9 := Option.some.inj h
    subst h9
    exact r_iret C rfl dX10_wetOf_30

/-! ===== FlagWashModel.coloursOf ===== -/
def fX10_coloursOf_40 (rec5 : Int32 → Int32 → Option (Int32)) (x1 : Int32) (x2 : Int32) (x4 : Int32) (y0 : Int32) (y1 : Int32) (mflags : Int32) (mnow : (Nat → Int32)) : Option (Int32) :=
 (rec5 (y1 ||| y0) (x4 + (1 : Int32)))
def gX10_coloursOf_5 (rec5 : Int32 → Int32 → Option (Int32)) (x1 : Int32) (x2 : Int32) (x3 : Int32) (x4 : Int32) (mflags : Int32) (mnow : (Nat → Int32)) : Option (Int32) :=
 (if mflags ≤ x4 then (some x3)
 else ((fX10_has x2 x4).bind fun u2 => (if u2 = true then (if inb (((17 : Int32) * x1) + x4) 34 = true then (fX10_coloursOf_40 rec5 x1 x2 x4 (mnow (((17 : Int32) * x1) + x4).toNatClampNeg) x3 mflags mnow) else none)
 else (fX10_coloursOf_40 rec5 x1 x2 x4 (0 : Int32) x3 mflags mnow))))
def fX10_coloursOf_5  (x1 : Int32) (x2 : Int32) (mflags : Int32) (mnow : (Nat → Int32)) : Nat → Int32 → Int32 → Option (Int32)
  | 0 => fun _ _ => none
  | n + 1 => fun x3 x4 => gX10_coloursOf_5 (fX10_coloursOf_5  x1 x2 mflags mnow n) x1 x2 x3 x4 mflags mnow
def fX10_coloursOf  (x1 : Int32) (x2 : Int32) (mflags : Int32) (mnow : (Nat → Int32)) : Option (Int32) :=
 (fX10_coloursOf_5  x1 x2 mflags mnow FU (0 : Int32) (0 : Int32))
theorem hinX10_coloursOf_X10 : ∀ w ∈ u_ws RX10 TX10 24, w ∈ wsX10_coloursOf := fun w h => List.mem_cons_of_mem _ (List.mem_append_right _ h)
theorem mX10_coloursOf_1 : Cond.fieldLink RX10 101 "FlagWashModel" "flags" "I" ∈ wsX10_coloursOf := List.mem_of_getElem? (i := 1) rfl
theorem mX10_coloursOf_2 : Cond.fieldLink RX10 19 "FlagWashModel" "now" "[I" ∈ wsX10_coloursOf := List.mem_of_getElem? (i := 2) rfl
theorem hd_X10_coloursOf : yX10_coloursOf.cls ≠ "java/lang/invoke/MethodHandle" ∧ yX10_coloursOf.cls ≠ "java/lang/invoke/VarHandle" ∧ (parseMethodDescriptor yX10_coloursOf.desc).map (fun d => d.parameters.length) = some 2 := by decide +kernel
set_option maxHeartbeats 4000000 in
set_option maxRecDepth 100000 in
theorem LX10_coloursOf_40 {p : Program} {l : Launch} {e : Env} {s : State} {m : MethodId} {args : Array Value} {below : List Frame} {meth : Method} {c : Code} {D : va_G} {cyI cyZ cyW : ClassId} {zW zO : Nat} {A : Nat → Prop} (C : Cx p s m args meth c cX10_coloursOf RX10 "coloursOf" wsX10_coloursOf (some .int) 5 D (tyA cyI cyZ cyW) zW zO A) {md : Nat → Nat} {mflags : Int32} {mtubs : Int32} {mpegs : Int32} {mcl : (Nat → Int32)} {mws : (Nat → Int32)} {mho : (Nat → Int32)} {mnow : (Nat → Int32)} {mrd : (Nat → Int32)} {mrh : (Nat → Int32)} {mrf : Int32} {mtx : (Nat → Int32)} {mlen : Int32} {mat : Int32} {mfa : Int32} {mac : Int32} {mnx : Int32} {mrow : (Nat → Int32)} {msn : Int32} {mso : (Nat → Int32)} {msc : (Nat → Int32)} {msw : (Nat → Int32)} {mseed : Int64} {mik : (Nat → Int32)} {mkp : (Nat → Int32)} {x1 : Int32} {x2 : Int32} {x4 : Int32} {y0 : Int32} {y1 : Int32} {rec5 : Int32 → Int32 → Option (Int32)} {res : Int32} (hrec5 : ∀ (x3 : Int32) (x4 : Int32), rec5 x3 x4 = some res → Mx p l e ({ frames := 1, cells := 0, slots := 0, locals := 21 } : Room) s m args below meth c (MQ below (QI D (tyA cyI cyZ cyW) A (wMO cyI cyZ cyW md mflags mtubs mpegs mcl mws mho mnow mrd mrh mrf mtx mlen mat mfa mac mnx mrow msn mso msc msw mseed mik mkp) res) args s 0 0 A) 5 D A 0 0 (wMO cyI cyZ cyW md mflags mtubs mpegs mcl mws mho mnow mrd mrh mrf mtx mlen mat mfa mac mnx mrow msn mso msc msw mseed mik mkp) 5 [(0, .ref (md 0)), (1, .int x1), (2, .int x2), (3, .int x3), (4, .int x4)] []) (h : fX10_coloursOf_40 rec5 x1 x2 x4 y0 y1 mflags mnow = some res) : Mx p l e ({ frames := 1, cells := 0, slots := 0, locals := 21 } : Room) s m args below meth c (MQ below (QI D (tyA cyI cyZ cyW) A (wMO cyI cyZ cyW md mflags mtubs mpegs mcl mws mho mnow mrd mrh mrf mtx mlen mat mfa mac mnx mrow msn mso msc msw mseed mik mkp) res) args s 0 0 A) 5 D A 0 0 (wMO cyI cyZ cyW md mflags mtubs mpegs mcl mws mho mnow mrd mrh mrf mtx mlen mat mfa mac mnx mrow msn mso msc msw mseed mik mkp) 40 [(0, .ref (md 0)), (1, .int x1), (2, .int x2), (4, .int x4)] [.int y0, .int y1] := by
  unfold fX10_coloursOf_40 at h
  refine r_ior C dX10_coloursOf_40 ?_
  refine r_istore_n (lv' := [(3, .int (y1 ||| y0)), (0, .ref (md 0)), (1, .int x1), (2, .int x2), (4, .int x4)]) C dX10_coloursOf_41 rfl (by decide) rfl ?_
  refine r_iinc (v := 1) (lv' := [(4, .int (x4 + (1 : Int32))), (3, .int (y1 ||| y0)), (0, .ref (md 0)), (1, .int x1), (2, .int x2)]) C dX10_coloursOf_42 4 rfl ic_1 (by decide) rfl ?_
  refine r_goto (tgt := 5) C dX10_coloursOf_45 (by decide) ?_
  refine r_lv (lv' := [(0, .ref (md 0)), (1, .int x1), (2, .int x2), (3, .int (y1 ||| y0)), (4, .int (x4 + (1 : Int32)))]) [2, 3, 4, 1, 0] rfl ?_
  exact hrec5 (y1 ||| y0) (x4 + (1 : Int32)) h
set_option maxHeartbeats 4000000 in
set_option maxRecDepth 100000 in
theorem LGX10_coloursOf_5 {p : Program} {l : Launch} {e : Env} {s : State} {m : MethodId} {args : Array Value} {below : List Frame} {meth : Method} {c : Code} {D : va_G} {cyI cyZ cyW : ClassId} {zW zO : Nat} {A : Nat → Prop} (C : Cx p s m args meth c cX10_coloursOf RX10 "coloursOf" wsX10_coloursOf (some .int) 5 D (tyA cyI cyZ cyW) zW zO A) {md : Nat → Nat} {mflags : Int32} {mtubs : Int32} {mpegs : Int32} {mcl : (Nat → Int32)} {mws : (Nat → Int32)} {mho : (Nat → Int32)} {mnow : (Nat → Int32)} {mrd : (Nat → Int32)} {mrh : (Nat → Int32)} {mrf : Int32} {mtx : (Nat → Int32)} {mlen : Int32} {mat : Int32} {mfa : Int32} {mac : Int32} {mnx : Int32} {mrow : (Nat → Int32)} {msn : Int32} {mso : (Nat → Int32)} {msc : (Nat → Int32)} {msw : (Nat → Int32)} {mseed : Int64} {mik : (Nat → Int32)} {mkp : (Nat → Int32)} {x1 : Int32} {x2 : Int32} {x3 : Int32} {x4 : Int32} {rec5 : Int32 → Int32 → Option (Int32)} {res : Int32} (hrec5 : ∀ (x3 : Int32) (x4 : Int32), rec5 x3 x4 = some res → Mx p l e ({ frames := 1, cells := 0, slots := 0, locals := 21 } : Room) s m args below meth c (MQ below (QI D (tyA cyI cyZ cyW) A (wMO cyI cyZ cyW md mflags mtubs mpegs mcl mws mho mnow mrd mrh mrf mtx mlen mat mfa mac mnx mrow msn mso msc msw mseed mik mkp) res) args s 0 0 A) 5 D A 0 0 (wMO cyI cyZ cyW md mflags mtubs mpegs mcl mws mho mnow mrd mrh mrf mtx mlen mat mfa mac mnx mrow msn mso msc msw mseed mik mkp) 5 [(0, .ref (md 0)), (1, .int x1), (2, .int x2), (3, .int x3), (4, .int x4)] []) (h : gX10_coloursOf_5 rec5 x1 x2 x3 x4 mflags mnow = some res) : Mx p l e ({ frames := 1, cells := 0, slots := 0, locals := 21 } : Room) s m args below meth c (MQ below (QI D (tyA cyI cyZ cyW) A (wMO cyI cyZ cyW md mflags mtubs mpegs mcl mws mho mnow mrd mrh mrf mtx mlen mat mfa mac mnx mrow msn mso msc msw mseed mik mkp) res) args s 0 0 A) 5 D A 0 0 (wMO cyI cyZ cyW md mflags mtubs mpegs mcl mws mho mnow mrd mrh mrf mtx mlen mat mfa mac mnx mrow msn mso msc msw mseed mik mkp) 5 [(0, .ref (md 0)), (1, .int x1), (2, .int x2), (3, .int x3), (4, .int x4)] [] := by
  unfold gX10_coloursOf_5 at h
  refine r_iload C dX10_coloursOf_5 4 rfl ?_
  refine r_aload_n C dX10_coloursOf_7 0 rfl rfl ?_
  refine r_get (ci := 7) (CC := RX10) (T := TX10) (N := 24) (v := .int mflags) C hinX10_coloursOf_X10 0 rfl rfl 0 (by decide) mX10_coloursOf_1 rfl rfl dX10_coloursOf_8 ?_
  refine r_icmp_ge (tgt := 48) C dX10_coloursOf_11 (by decide) (fun c1 => ?_) (fun c1 => ?_)
  · replace h := ob_t h c1
    refine r_iload_n C dX10_coloursOf_48 3 rfl rfl ?_
    have h9 := Option.some.inj h
    subst h9
    exact r_iret C rfl dX10_coloursOf_49
  · replace h := ob_f h c1
    refine r_iload_n C dX10_coloursOf_14 3 rfl rfl ?_
    refine r_iload_n C dX10_coloursOf_15 2 rfl rfl ?_
    refine r_iload C dX10_coloursOf_16 4 rfl ?_
    obtain ⟨u2, hu2, h⟩ := ob_bind h
    refine r_readSI (As := [.int x2, .int x4]) (rest := [.int x3]) C (kX10_has   (x0 := x2) (x1 := x4) hu2) gX10_coloursOf_X10_has rfl rfl rfl hd_X10_has ⟨by decide, by decide⟩ rfl [] (by decide) rfl rfl (Nat.le_of_ble_eq_true rfl) dX10_coloursOf_18 ⟨Nat.zero_le _, Nat.zero_le _⟩ ?_
    refine r_ifb_eq (tgt := 39) C dX10_coloursOf_21 (by decide) (fun c3 => ?_) (fun c3 => ?_)
    · replace h := ob_bf h c3
      refine r_iconst (v := 0) C dX10_coloursOf_39 ic_0 ?_
      refine r_lv (lv' := [(0, .ref (md 0)), (1, .int x1), (2, .int x2), (4, .int x4)]) [0, 1, 2, 4] rfl ?_
      exact LX10_coloursOf_40 C (x1 := x1) (x2 := x2) (x4 := x4) (y0 := (0 : Int32)) (y1 := x3) (mflags := mflags) (mtubs := mtubs) (mpegs := mpegs) (mcl := mcl) (mws := mws) (mho := mho) (mnow := mnow) (mrd := mrd) (mrh := mrh) (mrf := mrf) (mtx := mtx) (mlen := mlen) (mat := mat) (mfa := mfa) (mac := mac) (mnx := mnx) (mrow := mrow) (msn := msn) (mso := mso) (msc := msc) (msw := msw) (mseed := mseed) (mik := mik) (mkp := mkp) hrec5 h
    · replace h := ob_t h c3
      refine r_aload_n C dX10_coloursOf_24 0 rfl rfl ?_
      refine r_get (ci := 7) (CC := RX10) (T := TX10) (N := 24) (v := .ref (md 4)) C hinX10_coloursOf_X10 0 rfl rfl 6 (by decide) mX10_coloursOf_2 rfl rfl dX10_coloursOf_25 ?_
      refine r_bipush (v := 17) C dX10_coloursOf_28 bp_17 ?_
      refine r_iload_n C dX10_coloursOf_30 1 rfl rfl ?_
      refine r_imul C dX10_coloursOf_31 ?_
      refine r_iload C dX10_coloursOf_32 4 rfl ?_
      refine r_iadd C dX10_coloursOf_34 ?_
      obtain ⟨hu4, h⟩ := ob_if h
      refine r_iald C 4 0 rfl rfl (inb_vp hu4) dX10_coloursOf_35 ?_
      refine r_goto (tgt := 40) C dX10_coloursOf_36 (by decide) ?_
      refine r_lv (lv' := [(0, .ref (md 0)), (1, .int x1), (2, .int x2), (4, .int x4)]) [0, 1, 2, 4] rfl ?_
      exact LX10_coloursOf_40 C (x1 := x1) (x2 := x2) (x4 := x4) (y0 := (mnow (((17 : Int32) * x1) + x4).toNatClampNeg)) (y1 := x3) (mflags := mflags) (mtubs := mtubs) (mpegs := mpegs) (mcl := mcl) (mws := mws) (mho := mho) (mnow := mnow) (mrd := mrd) (mrh := mrh) (mrf := mrf) (mtx := mtx) (mlen := mlen) (mat := mat) (mfa := mfa) (mac := mac) (mnx := mnx) (mrow := mrow) (msn := msn) (mso := mso) (msc := msc) (msw := msw) (mseed := mseed) (mik := mik) (mkp := mkp) hrec5 h
set_option maxHeartbeats 4000000 in
set_option maxRecDepth 100000 in
theorem LX10_coloursOf_5 {p : Program} {l : Launch} {e : Env} {s : State} {m : MethodId} {args : Array Value} {below : List Frame} {meth : Method} {c : Code} {D : va_G} {cyI cyZ cyW : ClassId} {zW zO : Nat} {A : Nat → Prop} (C : Cx p s m args meth c cX10_coloursOf RX10 "coloursOf" wsX10_coloursOf (some .int) 5 D (tyA cyI cyZ cyW) zW zO A) {md : Nat → Nat} {x1 : Int32} {x2 : Int32} {mflags : Int32} {mtubs : Int32} {mpegs : Int32} {mcl : (Nat → Int32)} {mws : (Nat → Int32)} {mho : (Nat → Int32)} {mnow : (Nat → Int32)} {mrd : (Nat → Int32)} {mrh : (Nat → Int32)} {mrf : Int32} {mtx : (Nat → Int32)} {mlen : Int32} {mat : Int32} {mfa : Int32} {mac : Int32} {mnx : Int32} {mrow : (Nat → Int32)} {msn : Int32} {mso : (Nat → Int32)} {msc : (Nat → Int32)} {msw : (Nat → Int32)} {mseed : Int64} {mik : (Nat → Int32)} {mkp : (Nat → Int32)}  {res : Int32}  : ∀ (n : Nat) (x3 : Int32) (x4 : Int32), fX10_coloursOf_5  x1 x2 mflags mnow n x3 x4 = some res → Mx p l e ({ frames := 1, cells := 0, slots := 0, locals := 21 } : Room) s m args below meth c (MQ below (QI D (tyA cyI cyZ cyW) A (wMO cyI cyZ cyW md mflags mtubs mpegs mcl mws mho mnow mrd mrh mrf mtx mlen mat mfa mac mnx mrow msn mso msc msw mseed mik mkp) res) args s 0 0 A) 5 D A 0 0 (wMO cyI cyZ cyW md mflags mtubs mpegs mcl mws mho mnow mrd mrh mrf mtx mlen mat mfa mac mnx mrow msn mso msc msw mseed mik mkp) 5 [(0, .ref (md 0)), (1, .int x1), (2, .int x2), (3, .int x3), (4, .int x4)] [] := by
  intro n
  induction n with
  | zero => intro x3 x4 h; cases h
  | succ n ih => intro x3 x4 h; exact LGX10_coloursOf_5 C ih h
set_option maxHeartbeats 4000000 in
set_option maxRecDepth 100000 in
theorem kX10_coloursOf {l : Launch} {D : va_G} {cyI cyZ cyW : ClassId} {zW zO : Nat} {md : Nat → Nat} {mflags : Int32} {mtubs : Int32} {mpegs : Int32} {mcl : (Nat → Int32)} {mws : (Nat → Int32)} {mho : (Nat → Int32)} {mnow : (Nat → Int32)} {mrd : (Nat → Int32)} {mrh : (Nat → Int32)} {mrf : Int32} {mtx : (Nat → Int32)} {mlen : Int32} {mat : Int32} {mfa : Int32} {mac : Int32} {mnx : Int32} {mrow : (Nat → Int32)} {msn : Int32} {mso : (Nat → Int32)} {msc : (Nat → Int32)} {msw : (Nat → Int32)} {mseed : Int64} {mik : (Nat → Int32)} {mkp : (Nat → Int32)} {x1 : Int32} {x2 : Int32} {res : Int32} (h : fX10_coloursOf x1 x2 mflags mnow = some res) : KI l yX10_coloursOf wsX10_coloursOf ({ frames := 1, cells := 0, slots := 0, locals := 21 } : Room) D (tyA cyI cyZ cyW) zW zO [.ref (md 0), .int x1, .int x2] (wMO cyI cyZ cyW md mflags mtubs mpegs mcl mws mho mnow mrd mrh mrf mtx mlen mat mfa mac mnx mrow msn mso msc msw mseed mik mkp) (wMO cyI cyZ cyW md mflags mtubs mpegs mcl mws mho mnow mrd mrh mrf mtx mlen mat mfa mac mnx mrow msn mso msc msw mseed mik mkp) res := by
  refine enterI (cc := cX10_coloursOf) (nL := 5) (ret := (some .int)) (by decide) rfl (Nat.le_of_ble_eq_true rfl) (fun p e s m below meth c A C => ?_)
  refine r_lv (lv' := [(0, .ref (md 0)), (1, .int x1), (2, .int x2)]) [0, 1, 2] rfl ?_
  unfold fX10_coloursOf at h
  refine r_iconst (v := 0) C dX10_coloursOf_0 ic_0 ?_
  refine r_istore_n (lv' := [(3, .int (0 : Int32)), (0, .ref (md 0)), (1, .int x1), (2, .int x2)]) C dX10_coloursOf_1 rfl (by decide) rfl ?_
  refine r_iconst (v := 0) C dX10_coloursOf_2 ic_0 ?_
  refine r_istore (lv' := [(4, .int (0 : Int32)), (3, .int (0 : Int32)), (0, .ref (md 0)), (1, .int x1), (2, .int x2)]) C dX10_coloursOf_3 (by decide) rfl ?_
  refine r_lv (lv' := [(0, .ref (md 0)), (1, .int x1), (2, .int x2), (3, .int (0 : Int32)), (4, .int (0 : Int32))]) [2, 3, 4, 1, 0] rfl ?_
  exact LX10_coloursOf_5 C (x1 := x1) (x2 := x2) (mflags := mflags) (mtubs := mtubs) (mpegs := mpegs) (mcl := mcl) (mws := mws) (mho := mho) (mnow := mnow) (mrd := mrd) (mrh := mrh) (mrf := mrf) (mtx := mtx) (mlen := mlen) (mat := mat) (mfa := mfa) (mac := mac) (mnx := mnx) (mrow := mrow) (msn := msn) (mso := mso) (msc := msc) (msw := msw) (mseed := mseed) (mik := mik) (mkp := mkp)  FU (0 : Int32) (0 : Int32) h

/-! ===== FlagWashModel.hangOn ===== -/
def fX10_hangOn  (x1 : Int32) (x2 : Int32) (mflags : Int32) (mtubs : Int32) (mpegs : Int32) (mcl : (Nat → Int32)) (mnow : (Nat → Int32)) : Option ((Nat → Int32)) :=
 (if inb ((((17 : Int32) * x1) + (10 : Int32)) + x2) 34 = true then (if (mnow ((((17 : Int32) * x1) + (10 : Int32)) + x2).toNatClampNeg) = 0 then ((fX10_free x1 (2 : Int32) mflags mtubs mpegs mnow).bind fun u3 => (if u3 ≤ 0 then (some mnow)
 else (if inb ((((17 : Int32) * x1) + (5 : Int32)) + x2) 34 = true then ((fX10_wetOf x2 mcl).bind fun u6 => (if inb ((((17 : Int32) * x1) + (10 : Int32)) + x2) 34 = true then (some (upd (upd mnow ((((17 : Int32) * x1) + (5 : Int32)) + x2).toNatClampNeg (2 : Int32)) ((((17 : Int32) * x1) + (10 : Int32)) + x2).toNatClampNeg u6)) else none)) else none)))
 else (some mnow)) else none)
theorem hinX10_hangOn_X10 : ∀ w ∈ u_ws RX10 TX10 24, w ∈ wsX10_hangOn := fun w h => List.mem_cons_of_mem _ (List.mem_append_right _ h)
theorem mX10_hangOn_1 : Cond.fieldLink RX10 19 "FlagWashModel" "now" "[I" ∈ wsX10_hangOn := List.mem_of_getElem? (i := 1) rfl
theorem hd_X10_hangOn : yX10_hangOn.cls ≠ "java/lang/invoke/MethodHandle" ∧ yX10_hangOn.cls ≠ "java/lang/invoke/VarHandle" ∧ (parseMethodDescriptor yX10_hangOn.desc).map (fun d => d.parameters.length) = some 2 := by decide +kernel
set_option maxHeartbeats 4000000 in
set_option maxRecDepth 100000 in
theorem kX10_hangOn {l : Launch} {D : va_G} {cyI cyZ cyW : ClassId} {zW zO : Nat} {md : Nat → Nat} {mflags : Int32} {mtubs : Int32} {mpegs : Int32} {mcl : (Nat → Int32)} {mws : (Nat → Int32)} {mho : (Nat → Int32)} {mnow : (Nat → Int32)} {mrd : (Nat → Int32)} {mrh : (Nat → Int32)} {mrf : Int32} {mtx : (Nat → Int32)} {mlen : Int32} {mat : Int32} {mfa : Int32} {mac : Int32} {mnx : Int32} {mrow : (Nat → Int32)} {msn : Int32} {mso : (Nat → Int32)} {msc : (Nat → Int32)} {msw : (Nat → Int32)} {mseed : Int64} {mik : (Nat → Int32)} {mkp : (Nat → Int32)} {x1 : Int32} {x2 : Int32} {res : (Nat → Int32)} (h : fX10_hangOn x1 x2 mflags mtubs mpegs mcl mnow = some res) : KV l yX10_hangOn wsX10_hangOn ({ frames := 2, cells := 0, slots := 0, locals := 46 } : Room) D (tyA cyI cyZ cyW) zW zO [.ref (md 0), .int x1, .int x2] (wMO cyI cyZ cyW md mflags mtubs mpegs mcl mws mho mnow mrd mrh mrf mtx mlen mat mfa mac mnx mrow msn mso msc msw mseed mik mkp) (wMO cyI cyZ cyW md mflags mtubs mpegs mcl mws mho res mrd mrh mrf mtx mlen mat mfa mac mnx mrow msn mso msc msw mseed mik mkp) := by
  refine enterV (cc := cX10_hangOn) (nL := 3) (ret := none) (by decide) rfl (Nat.le_of_ble_eq_true rfl) (fun p e s m below meth c A C => ?_)
  refine r_lv (lv' := [(0, .ref (md 0)), (1, .int x1), (2, .int x2)]) [0, 1, 2] rfl ?_
  unfold fX10_hangOn at h
  refine r_aload_n C dX10_hangOn_0 0 rfl rfl ?_
  refine r_get (ci := 7) (CC := RX10) (T := TX10) (N := 24) (v := .ref (md 4)) C hinX10_hangOn_X10 0 rfl rfl 6 (by decide) mX10_hangOn_1 rfl rfl dX10_hangOn_1 ?_
  refine r_bipush (v := 17) C dX10_hangOn_4 bp_17 ?_
  refine r_iload_n C dX10_hangOn_6 1 rfl rfl ?_
  refine r_imul C dX10_hangOn_7 ?_
  refine r_bipush (v := 10) C dX10_hangOn_8 bp_10 ?_
  refine r_iadd C dX10_hangOn_10 ?_
  refine r_iload_n C dX10_hangOn_11 2 rfl rfl ?_
  refine r_iadd C dX10_hangOn_12 ?_
  obtain ⟨hu1, h⟩ := ob_if h
  refine r_iald C 4 0 rfl rfl (inb_vp hu1) dX10_hangOn_13 ?_
  refine r_if_ne (tgt := 59) C dX10_hangOn_14 (by decide) (fun c2 => ?_) (fun c2 => ?_)
  · replace h := ob_f h c2
    have h9 := Option.some.inj h
    subst h9
    exact r_vret C rfl dX10_hangOn_59
  · replace h := ob_t h c2
    refine r_aload_n C dX10_hangOn_17 0 rfl rfl ?_
    refine r_iload_n C dX10_hangOn_18 1 rfl rfl ?_
    refine r_iconst (v := 2) C dX10_hangOn_19 ic_2 ?_
    obtain ⟨u3, hu3, h⟩ := ob_bind h
    refine r_readVI (q0 := 0) (As := [.int x1, .int (2 : Int32)]) (rest := []) C (kX10_free (md := md) (mflags := mflags) (mtubs := mtubs) (mpegs := mpegs) (mcl := mcl) (mws := mws) (mho := mho) (mnow := mnow) (mrd := mrd) (mrh := mrh) (mrf := mrf) (mtx := mtx) (mlen := mlen) (mat := mat) (mfa := mfa) (mac := mac) (mnx := mnx) (mrow := mrow) (msn := msn) (mso := mso) (msc := msc) (msw := msw) (mseed := mseed) (mik := mik) (mkp := mkp) (x1 := x1) (x2 := (2 : Int32)) hu3) gX10_hangOn_X10_free rfl rfl rfl ⟨rfl, hd_X10_free⟩ ⟨by decide, by decide⟩ rfl rfl rfl rfl [0, 1, 2, 3, 4, 5, 6, 7, 8, 9, 10, 11, 12, 13] (by decide) in_76 rfl (Nat.le_of_ble_eq_true rfl) dX10_hangOn_20 ⟨Nat.zero_le _, Nat.zero_le _⟩ ?_
    refine r_if_le (tgt := 59) C dX10_hangOn_23 (by decide) (fun c4 => ?_) (fun c4 => ?_)
    · replace h := ob_t h c4
      have h9 := Option.some.inj h
      subst h9
      exact r_vret C rfl dX10_hangOn_59
    · replace h := ob_f h c4
      refine r_aload_n C dX10_hangOn_26 0 rfl rfl ?_
      refine r_get (ci := 7) (CC := RX10) (T := TX10) (N := 24) (v := .ref (md 4)) C hinX10_hangOn_X10 0 rfl rfl 6 (by decide) mX10_hangOn_1 rfl rfl dX10_hangOn_27 ?_
      refine r_bipush (v := 17) C dX10_hangOn_30 bp_17 ?_
      refine r_iload_n C dX10_hangOn_32 1 rfl rfl ?_
      refine r_imul C dX10_hangOn_33 ?_
      refine r_iconst (v := 5) C dX10_hangOn_34 ic_5 ?_
      refine r_iadd C dX10_hangOn_35 ?_
      refine r_iload_n C dX10_hangOn_36 2 rfl rfl ?_
      refine r_iadd C dX10_hangOn_37 ?_
      refine r_iconst (v := 2) C dX10_hangOn_38 ic_2 ?_
      obtain ⟨hu5, h⟩ := ob_if h
      refine r_iast (ws1 := (wMO cyI cyZ cyW md mflags mtubs mpegs mcl mws mho (upd mnow ((((17 : Int32) * x1) + (5 : Int32)) + x2).toNatClampNeg (2 : Int32)) mrd mrh mrf mtx mlen mat mfa mac mnx mrow msn mso msc msw mseed mik mkp)) C 4 0 rfl rfl (inb_vp hu5) rfl dX10_hangOn_39 ?_
      refine r_aload_n C dX10_hangOn_40 0 rfl rfl ?_
      refine r_get (ci := 7) (CC := RX10) (T := TX10) (N := 24) (v := .ref (md 4)) C hinX10_hangOn_X10 0 rfl rfl 6 (by decide) mX10_hangOn_1 rfl rfl dX10_hangOn_41 ?_
      refine r_bipush (v := 17) C dX10_hangOn_44 bp_17 ?_
      refine r_iload_n C dX10_hangOn_46 1 rfl rfl ?_
      refine r_imul C dX10_hangOn_47 ?_
      refine r_bipush (v := 10) C dX10_hangOn_48 bp_10 ?_
      refine r_iadd C dX10_hangOn_50 ?_
      refine r_iload_n C dX10_hangOn_51 2 rfl rfl ?_
      refine r_iadd C dX10_hangOn_52 ?_
      refine r_aload_n C dX10_hangOn_53 0 rfl rfl ?_
      refine r_iload_n C dX10_hangOn_54 2 rfl rfl ?_
      obtain ⟨u6, hu6, h⟩ := ob_bind h
      refine r_readVI (q0 := 0) (As := [.int x2]) (rest := [.int ((((17 : Int32) * x1) + (10 : Int32)) + x2), .ref (md 4)]) C (kX10_wetOf (md := md) (mflags := mflags) (mtubs := mtubs) (mpegs := mpegs) (mcl := mcl) (mws := mws) (mho := mho) (mnow := (upd mnow ((((17 : Int32) * x1) + (5 : Int32)) + x2).toNatClampNeg (2 : Int32))) (mrd := mrd) (mrh := mrh) (mrf := mrf) (mtx := mtx) (mlen := mlen) (mat := mat) (mfa := mfa) (mac := mac) (mnx := mnx) (mrow := mrow) (msn := msn) (mso := mso) (msc := msc) (msw := msw) (mseed := mseed) (mik := mik) (mkp := mkp) (x1 := x2) hu6) gX10_hangOn_X10_wetOf rfl rfl rfl ⟨rfl, hd_X10_wetOf⟩ ⟨by decide, by decide⟩ rfl rfl rfl rfl [0, 1, 2, 3, 4, 5, 6, 7, 8, 9, 10, 11, 12, 13] (by decide) in_76 rfl (Nat.le_of_ble_eq_true rfl) dX10_hangOn_55 ⟨Nat.zero_le _, Nat.zero_le _⟩ ?_
      obtain ⟨hu7, h⟩ := ob_if h
      refine r_iast (ws1 := (wMO cyI cyZ cyW md mflags mtubs mpegs mcl mws mho (upd (upd mnow ((((17 : Int32) * x1) + (5 : Int32)) + x2).toNatClampNeg (2 : Int32)) ((((17 : Int32) * x1) + (10 : Int32)) + x2).toNatClampNeg u6) mrd mrh mrf mtx mlen mat mfa mac mnx mrow msn mso msc msw mseed mik mkp)) C 4 0 rfl rfl (inb_vp hu7) rfl dX10_hangOn_58 ?_
      have h9 := Option.some.inj h
      subst h9
      exact r_vret C rfl dX10_hangOn_59
