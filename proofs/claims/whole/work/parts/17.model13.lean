/-! ===== FlagWashModel.common ===== -/
def gX10_common_13 (rec13 : Int32 → Int32 → Option (Int32)) (x2 : Int32) (x3 : Int32) : Option (Int32) :=
 (if x3 = 0 then (some x2)
 else (if x3 = 0 then none else (rec13 x3 (jrem x2 x3))))
def fX10_common_13   : Nat → Int32 → Int32 → Option (Int32)
  | 0 => fun _ _ => none
  | n + 1 => fun x2 x3 => gX10_common_13 (fX10_common_13   n) x2 x3
def fX10_common_10  (x1 : Int32) (y0 : Int32) : Option (Int32) :=
 (fX10_common_13   FU y0 x1)
def fX10_common  (x0 : Int32) (x1 : Int32) : Option (Int32) :=
 (if 0 ≤ x0 then (fX10_common_10  x1 x0)
 else (fX10_common_10  x1 (-x0)))
theorem hd_X10_common : yX10_common.cls ≠ "java/lang/invoke/MethodHandle" ∧ yX10_common.cls ≠ "java/lang/invoke/VarHandle" ∧ (parseMethodDescriptor yX10_common.desc).map (fun d => d.parameters.length) = some 2 := by decide +kernel
set_option maxHeartbeats 4000000 in
set_option maxRecDepth 100000 in
theorem LGX10_common_13 {p : Program} {l : Launch} {e : Env} {s : State} {m : MethodId} {args : Array Value} {below : List Frame} {meth : Method} {c : Code} {D : va_G} {cyI cyZ cyW : ClassId} {zW zO : Nat} {A : Nat → Prop} (C : Cx p s m args meth c cX10_common RX10 "common" wsX10_common (some .int) 5 D (tyA cyI cyZ cyW) zW zO A)   {x2 : Int32} {x3 : Int32} {rec13 : Int32 → Int32 → Option (Int32)} {res : Int32} (hrec13 : ∀ (x2 : Int32) (x3 : Int32), rec13 x2 x3 = some res → Mx p l e ({ frames := 0, cells := 0, slots := 0, locals := 0 } : Room) s m args below meth c (MQ below (QI D (tyA cyI cyZ cyW) A ([] : va_W) res) args s 0 0 A) 5 D A 0 0 ([] : va_W) 13 [(2, .int x2), (3, .int x3)] []) (h : gX10_common_13 rec13 x2 x3 = some res) : Mx p l e ({ frames := 0, cells := 0, slots := 0, locals := 0 } : Room) s m args below meth c (MQ below (QI D (tyA cyI cyZ cyW) A ([] : va_W) res) args s 0 0 A) 5 D A 0 0 ([] : va_W) 13 [(2, .int x2), (3, .int x3)] [] := by
  unfold gX10_common_13 at h
  refine r_iload_n C dX10_common_13 1 rfl rfl ?_
  refine r_if_eq (tgt := 30) C dX10_common_14 (by decide) (fun c2 => ?_) (fun c2 => ?_)
  · replace h := ob_t h c2
    refine r_iload_n C dX10_common_30 0 rfl rfl ?_
    have h9 := Option.some.inj h
    subst h9
    exact r_iret C rfl dX10_common_31
  · replace h := ob_f h c2
    refine r_iload_n C dX10_common_17 0 rfl rfl ?_
    refine r_iload_n C dX10_common_18 1 rfl rfl ?_
    obtain ⟨hu3, h⟩ := ob_ne h
    refine r_irem C dX10_common_19 hu3 ?_
    refine r_istore (lv' := [(4, .int (jrem x2 x3)), (2, .int x2), (3, .int x3)]) C dX10_common_20 (by decide) rfl ?_
    refine r_iload_n C dX10_common_22 2 rfl rfl ?_
    refine r_istore_n (lv' := [(2, .int x3), (4, .int (jrem x2 x3)), (3, .int x3)]) C dX10_common_23 rfl (by decide) rfl ?_
    refine r_iload C dX10_common_24 1 rfl ?_
    refine r_istore_n (lv' := [(3, .int (jrem x2 x3)), (2, .int x3), (4, .int (jrem x2 x3))]) C dX10_common_26 rfl (by decide) rfl ?_
    refine r_goto (tgt := 13) C dX10_common_27 (by decide) ?_
    refine r_lv (lv' := [(2, .int x3), (3, .int (jrem x2 x3))]) [1, 0] rfl ?_
    exact hrec13 x3 (jrem x2 x3) h
set_option maxHeartbeats 4000000 in
set_option maxRecDepth 100000 in
theorem LX10_common_13 {p : Program} {l : Launch} {e : Env} {s : State} {m : MethodId} {args : Array Value} {below : List Frame} {meth : Method} {c : Code} {D : va_G} {cyI cyZ cyW : ClassId} {zW zO : Nat} {A : Nat → Prop} (C : Cx p s m args meth c cX10_common RX10 "common" wsX10_common (some .int) 5 D (tyA cyI cyZ cyW) zW zO A)    {res : Int32}  : ∀ (n : Nat) (x2 : Int32) (x3 : Int32), fX10_common_13   n x2 x3 = some res → Mx p l e ({ frames := 0, cells := 0, slots := 0, locals := 0 } : Room) s m args below meth c (MQ below (QI D (tyA cyI cyZ cyW) A ([] : va_W) res) args s 0 0 A) 5 D A 0 0 ([] : va_W) 13 [(2, .int x2), (3, .int x3)] [] := by
  intro n
  induction n with
  | zero => intro x2 x3 h; cases h
  | succ n ih => intro x2 x3 h; exact LGX10_common_13 C ih h
set_option maxHeartbeats 4000000 in
set_option maxRecDepth 100000 in
theorem LX10_common_10 {p : Program} {l : Launch} {e : Env} {s : State} {m : MethodId} {args : Array Value} {below : List Frame} {meth : Method} {c : Code} {D : va_G} {cyI cyZ cyW : ClassId} {zW zO : Nat} {A : Nat → Prop} (C : Cx p s m args meth c cX10_common RX10 "common" wsX10_common (some .int) 5 D (tyA cyI cyZ cyW) zW zO A)   {x1 : Int32} {y0 : Int32}  {res : Int32}  (h : fX10_common_10  x1 y0 = some res) : Mx p l e ({ frames := 0, cells := 0, slots := 0, locals := 0 } : Room) s m args below meth c (MQ below (QI D (tyA cyI cyZ cyW) A ([] : va_W) res) args s 0 0 A) 5 D A 0 0 ([] : va_W) 10 [(1, .int x1)] [.int y0] := by
  unfold fX10_common_10 at h
  refine r_istore_n (lv' := [(2, .int y0), (1, .int x1)]) C dX10_common_10 rfl (by decide) rfl ?_
  refine r_iload_n C dX10_common_11 1 rfl rfl ?_
  refine r_istore_n (lv' := [(3, .int x1), (2, .int y0), (1, .int x1)]) C dX10_common_12 rfl (by decide) rfl ?_
  refine r_lv (lv' := [(2, .int y0), (3, .int x1)]) [1, 0] rfl ?_
  exact LX10_common_13 C   FU y0 x1 h
set_option maxHeartbeats 4000000 in
set_option maxRecDepth 100000 in
theorem kX10_common {l : Launch} {D : va_G} {cyI cyZ cyW : ClassId} {zW zO : Nat}   {x0 : Int32} {x1 : Int32} {res : Int32} (h : fX10_common x0 x1 = some res) : KI l yX10_common wsX10_common ({ frames := 0, cells := 0, slots := 0, locals := 0 } : Room) D (tyA cyI cyZ cyW) zW zO [.int x0, .int x1] ([] : va_W) ([] : va_W) res := by
  refine enterI (cc := cX10_common) (nL := 5) (ret := (some .int)) (by decide) rfl (Nat.le_of_ble_eq_true rfl) (fun p e s m below meth c A C => ?_)
  refine r_lv (lv' := [(0, .int x0), (1, .int x1)]) [0, 1] rfl ?_
  unfold fX10_common at h
  refine r_iload_n C dX10_common_0 0 rfl rfl ?_
  refine r_if_ge (tgt := 9) C dX10_common_1 (by decide) (fun c1 => ?_) (fun c1 => ?_)
  · replace h := ob_t h c1
    refine r_iload_n C dX10_common_9 0 rfl rfl ?_
    refine r_lv (lv' := [(1, .int x1)]) [1] rfl ?_
    exact LX10_common_10 C (x1 := x1) (y0 := x0)  h
  · replace h := ob_f h c1
    refine r_iload_n C dX10_common_4 0 rfl rfl ?_
    refine r_ineg C dX10_common_5 ?_
    refine r_goto (tgt := 10) C dX10_common_6 (by decide) ?_
    refine r_lv (lv' := [(1, .int x1)]) [1] rfl ?_
    exact LX10_common_10 C (x1 := x1) (y0 := (-x0))  h

/-! ===== FlagWashModel.calm ===== -/
def fX10_calm_39 (rec4 : Int32 → Int32 → Option (Int32)) (x1 : Int32) (x3 : Int32) (y0 : Bool) (y1 : Int32) (mflags : Int32) (mho : (Nat → Int32)) : Option (Int32) :=
 (rec4 (y1 + (b2i y0)) (x3 + (1 : Int32)))
def fX10_calm_34 (rec4 : Int32 → Int32 → Option (Int32)) (x1 : Int32) (x3 : Int32) (y0 : Int32) (mflags : Int32) (mho : (Nat → Int32)) : Option (Int32) :=
 (fX10_calm_39 rec4 x1 x3 true y0 mflags mho)
def gX10_calm_4 (rec4 : Int32 → Int32 → Option (Int32)) (x1 : Int32) (x2 : Int32) (x3 : Int32) (mflags : Int32) (mho : (Nat → Int32)) : Option (Int32) :=
 (if mflags ≤ x3 then (some x2)
 else ((fX10_has x1 x3).bind fun u2 => (if u2 = true then (fX10_calm_34 rec4 x1 x3 x2 mflags mho)
 else (if inb x3 5 = true then (if ((mho x3.toNatClampNeg) &&& (x1 ^^^ (-1 : Int32))) = 0 then (fX10_calm_34 rec4 x1 x3 x2 mflags mho)
 else (fX10_calm_39 rec4 x1 x3 false x2 mflags mho)) else none))))
def fX10_calm_4  (x1 : Int32) (mflags : Int32) (mho : (Nat → Int32)) : Nat → Int32 → Int32 → Option (Int32)
  | 0 => fun _ _ => none
  | n + 1 => fun x2 x3 => gX10_calm_4 (fX10_calm_4  x1 mflags mho n) x1 x2 x3 mflags mho
def fX10_calm  (x1 : Int32) (mflags : Int32) (mho : (Nat → Int32)) : Option (Int32) :=
 (fX10_calm_4  x1 mflags mho FU (0 : Int32) (0 : Int32))
theorem hinX10_calm_X10 : ∀ w ∈ u_ws RX10 TX10 24, w ∈ wsX10_calm := fun w h => List.mem_cons_of_mem _ (List.mem_append_right _ h)
theorem mX10_calm_1 : Cond.fieldLink RX10 101 "FlagWashModel" "flags" "I" ∈ wsX10_calm := List.mem_of_getElem? (i := 1) rfl
theorem mX10_calm_2 : Cond.fieldLink RX10 16 "FlagWashModel" "hostile" "[I" ∈ wsX10_calm := List.mem_of_getElem? (i := 2) rfl
theorem hd_X10_calm : yX10_calm.cls ≠ "java/lang/invoke/MethodHandle" ∧ yX10_calm.cls ≠ "java/lang/invoke/VarHandle" ∧ (parseMethodDescriptor yX10_calm.desc).map (fun d => d.parameters.length) = some 1 := by decide +kernel
set_option maxHeartbeats 4000000 in
set_option maxRecDepth 100000 in
theorem LX10_calm_39 {p : Program} {l : Launch} {e : Env} {s : State} {m : MethodId} {args : Array Value} {below : List Frame} {meth : Method} {c : Code} {D : va_G} {cyI cyZ cyW : ClassId} {zW zO : Nat} {A : Nat → Prop} (C : Cx p s m args meth c cX10_calm RX10 "calm" wsX10_calm (some .int) 4 D (tyA cyI cyZ cyW) zW zO A) {md : Nat → Nat} {mflags : Int32} {mtubs : Int32} {mpegs : Int32} {mcl : (Nat → Int32)} {mws : (Nat → Int32)} {mho : (Nat → Int32)} {mnow : (Nat → Int32)} {mrd : (Nat → Int32)} {mrh : (Nat → Int32)} {mrf : Int32} {mtx : (Nat → Int32)} {mlen : Int32} {mat : Int32} {mfa : Int32} {mac : Int32} {mnx : Int32} {mrow : (Nat → Int32)} {msn : Int32} {mso : (Nat → Int32)} {msc : (Nat → Int32)} {msw : (Nat → Int32)} {mseed : Int64} {mik : (Nat → Int32)} {mkp : (Nat → Int32)} {x1 : Int32} {x3 : Int32} {y0 : Bool} {y1 : Int32} {rec4 : Int32 → Int32 → Option (Int32)} {res : Int32} (hrec4 : ∀ (x2 : Int32) (x3 : Int32), rec4 x2 x3 = some res → Mx p l e ({ frames := 1, cells := 0, slots := 0, locals := 21 } : Room) s m args below meth c (MQ below (QI D (tyA cyI cyZ cyW) A (wMO cyI cyZ cyW md mflags mtubs mpegs mcl mws mho mnow mrd mrh mrf mtx mlen mat mfa mac mnx mrow msn mso msc msw mseed mik mkp) res) args s 0 0 A) 4 D A 0 0 (wMO cyI cyZ cyW md mflags mtubs mpegs mcl mws mho mnow mrd mrh mrf mtx mlen mat mfa mac mnx mrow msn mso msc msw mseed mik mkp) 4 [(0, .ref (md 0)), (1, .int x1), (2, .int x2), (3, .int x3)] []) (h : fX10_calm_39 rec4 x1 x3 y0 y1 mflags mho = some res) : Mx p l e ({ frames := 1, cells := 0, slots := 0, locals := 21 } : Room) s m args below meth c (MQ below (QI D (tyA cyI cyZ cyW) A (wMO cyI cyZ cyW md mflags mtubs mpegs mcl mws mho mnow mrd mrh mrf mtx mlen mat mfa mac mnx mrow msn mso msc msw mseed mik mkp) res) args s 0 0 A) 4 D A 0 0 (wMO cyI cyZ cyW md mflags mtubs mpegs mcl mws mho mnow mrd mrh mrf mtx mlen mat mfa mac mnx mrow msn mso msc msw mseed mik mkp) 39 [(0, .ref (md 0)), (1, .int x1), (3, .int x3)] [.int (b2i y0), .int y1] := by
  unfold fX10_calm_39 at h
  refine r_iadd C dX10_calm_39 ?_
  refine r_istore_n (lv' := [(2, .int (y1 + (b2i y0))), (0, .ref (md 0)), (1, .int x1), (3, .int x3)]) C dX10_calm_40 rfl (by decide) rfl ?_
  refine r_iinc (v := 1) (lv' := [(3, .int (x3 + (1 : Int32))), (2, .int (y1 + (b2i y0))), (0, .ref (md 0)), (1, .int x1)]) C dX10_calm_41 3 rfl ic_1 (by decide) rfl ?_
  refine r_goto (tgt := 4) C dX10_calm_44 (by decide) ?_
  refine r_lv (lv' := [(0, .ref (md 0)), (1, .int x1), (2, .int (y1 + (b2i y0))), (3, .int (x3 + (1 : Int32)))]) [2, 3, 1, 0] rfl ?_
  exact hrec4 (y1 + (b2i y0)) (x3 + (1 : Int32)) h
set_option maxHeartbeats 4000000 in
set_option maxRecDepth 100000 in
theorem LX10_calm_34 {p : Program} {l : Launch} {e : Env} {s : State} {m : MethodId} {args : Array Value} {below : List Frame} {meth : Method} {c : Code} {D : va_G} {cyI cyZ cyW : ClassId} {zW zO : Nat} {A : Nat → Prop} (C : Cx p s m args meth c cX10_calm RX10 "calm" wsX10_calm (some .int) 4 D (tyA cyI cyZ cyW) zW zO A) {md : Nat → Nat} {mflags : Int32} {mtubs : Int32} {mpegs : Int32} {mcl : (Nat → Int32)} {mws : (Nat → Int32)} {mho : (Nat → Int32)} {mnow : (Nat → Int32)} {mrd : (Nat → Int32)} {mrh : (Nat → Int32)} {mrf : Int32} {mtx : (Nat → Int32)} {mlen : Int32} {mat : Int32} {mfa : Int32} {mac : Int32} {mnx : Int32} {mrow : (Nat → Int32)} {msn : Int32} {mso : (Nat → Int32)} {msc : (Nat → Int32)} {msw : (Nat → Int32)} {mseed : Int64} {mik : (Nat → Int32)} {mkp : (Nat → Int32)} {x1 : Int32} {x3 : Int32} {y0 : Int32} {rec4 : Int32 → Int32 → Option (Int32)} {res : Int32} (hrec4 : ∀ (x2 : Int32) (x3 : Int32), rec4 x2 x3 = some res → Mx p l e ({ frames := 1, cells := 0, slots := 0, locals := 21 } : Room) s m args below meth c (MQ below (QI D (tyA cyI cyZ cyW) A (wMO cyI cyZ cyW md mflags mtubs mpegs mcl mws mho mnow mrd mrh mrf mtx mlen mat mfa mac mnx mrow msn mso msc msw mseed mik mkp) res) args s 0 0 A) 4 D A 0 0 (wMO cyI cyZ cyW md mflags mtubs mpegs mcl mws mho mnow mrd mrh mrf mtx mlen mat mfa mac mnx mrow msn mso msc msw mseed mik mkp) 4 [(0, .ref (md 0)), (1, .int x1), (2, .int x2), (3, .int x3)] []) (h : fX10_calm_34 rec4 x1 x3 y0 mflags mho = some res) : Mx p l e ({ frames := 1, cells := 0, slots := 0, locals := 21 } : Room) s m args below meth c (MQ below (QI D (tyA cyI cyZ cyW) A (wMO cyI cyZ cyW md mflags mtubs mpegs mcl mws mho mnow mrd mrh mrf mtx mlen mat mfa mac mnx mrow msn mso msc msw mseed mik mkp) res) args s 0 0 A) 4 D A 0 0 (wMO cyI cyZ cyW md mflags mtubs mpegs mcl mws mho mnow mrd mrh mrf mtx mlen mat mfa mac mnx mrow msn mso msc msw mseed mik mkp) 34 [(0, .ref (md 0)), (1, .int x1), (3, .int x3)] [.int y0] := by
  unfold fX10_calm_34 at h
  refine r_iconst (v := 1) C dX10_calm_34 ic_1 ?_
  refine r_goto (tgt := 39) C dX10_calm_35 (by decide) ?_
  refine r_lv (lv' := [(0, .ref (md 0)), (1, .int x1), (3, .int x3)]) [0, 1, 2] rfl ?_
  exact LX10_calm_39 C (x1 := x1) (x3 := x3) (y0 := true) (y1 := y0) (mflags := mflags) (mtubs := mtubs) (mpegs := mpegs) (mcl := mcl) (mws := mws) (mho := mho) (mnow := mnow) (mrd := mrd) (mrh := mrh) (mrf := mrf) (mtx := mtx) (mlen := mlen) (mat := mat) (mfa := mfa) (mac := mac) (mnx := mnx) (mrow := mrow) (msn := msn) (mso := mso) (msc := msc) (msw := msw) (mseed := mseed) (mik := mik) (mkp := mkp) hrec4 h
set_option maxHeartbeats 4000000 in
set_option maxRecDepth 100000 in
theorem LGX10_calm_4 {p : Program} {l : Launch} {e : Env} {s : State} {m : MethodId} {args : Array Value} {below : List Frame} {meth : Method} {c : Code} {D : va_G} {cyI cyZ cyW : ClassId} {zW zO : Nat} {A : Nat → Prop} (C : Cx p s m args meth c cX10_calm RX10 "calm" wsX10_calm (some .int) 4 D (tyA cyI cyZ cyW) zW zO A) {md : Nat → Nat} {mflags : Int32} {mtubs : Int32} {mpegs : Int32} {mcl : (Nat → Int32)} {mws : (Nat → Int32)} {mho : (Nat → Int32)} {mnow : (Nat → Int32)} {mrd : (Nat → Int32)} {mrh : (Nat → Int32)} {mrf : Int32} {mtx : (Nat → Int32)} {mlen : Int32} {mat : Int32} {mfa : Int32} {mac : Int32} {mnx : Int32} {mrow : (Nat → Int32)} {msn : Int32} {mso : (Nat → Int32)} {msc : (Nat → Int32)} {msw : (Nat → Int32)} {mseed : Int64} {mik : (Nat → Int32)} {mkp : (Nat → Int32)} {x1 : Int32} {x2 : Int32} {x3 : Int32} {rec4 : Int32 → Int32 → Option (Int32)} {res : Int32} (hrec4 : ∀ (x2 : Int32) (x3 : Int32), rec4 x2 x3 = some res → Mx p l e ({ frames := 1, cells := 0, slots := 0, locals := 21 } : Room) s m args below meth c (MQ below (QI D (tyA cyI cyZ cyW) A (wMO cyI cyZ cyW md mflags mtubs mpegs mcl mws mho mnow mrd mrh mrf mtx mlen mat mfa mac mnx mrow msn mso msc msw mseed mik mkp) res) args s 0 0 A) 4 D A 0 0 (wMO cyI cyZ cyW md mflags mtubs mpegs mcl mws mho mnow mrd mrh mrf mtx mlen mat mfa mac mnx mrow msn mso msc msw mseed mik mkp) 4 [(0, .ref (md 0)), (1, .int x1), (2, .int x2), (3, .int x3)] []) (h : gX10_calm_4 rec4 x1 x2 x3 mflags mho = some res) : Mx p l e ({ frames := 1, cells := 0, slots := 0, locals := 21 } : Room) s m args below meth c (MQ below (QI D (tyA cyI cyZ cyW) A (wMO cyI cyZ cyW md mflags mtubs mpegs mcl mws mho mnow mrd mrh mrf mtx mlen mat mfa mac mnx mrow msn mso msc msw mseed mik mkp) res) args s 0 0 A) 4 D A 0 0 (wMO cyI cyZ cyW md mflags mtubs mpegs mcl mws mho mnow mrd mrh mrf mtx mlen mat mfa mac mnx mrow msn mso msc msw mseed mik mkp) 4 [(0, .ref (md 0)), (1, .int x1), (2, .int x2), (3, .int x3)] [] := by
  unfold gX10_calm_4 at h
  refine r_iload_n C dX10_calm_4 3 rfl rfl ?_
  refine r_aload_n C dX10_calm_5 0 rfl rfl ?_
  refine r_get (ci := 7) (CC := RX10) (T := TX10) (N := 24) (v := .int mflags) C hinX10_calm_X10 0 rfl rfl 0 (by decide) mX10_calm_1 rfl rfl dX10_calm_6 ?_
  refine r_icmp_ge (tgt := 47) C dX10_calm_9 (by decide) (fun c1 => ?_) (fun c1 => ?_)
  · replace h := ob_t h c1
    refine r_iload_n C dX10_calm_47 2 rfl rfl ?_
    have h9 := Option.some.inj h
    subst h9
    exact r_iret C rfl dX10_calm_48
  · replace h := ob_f h c1
    refine r_iload_n C dX10_calm_12 2 rfl rfl ?_
    refine r_iload_n C dX10_calm_13 1 rfl rfl ?_
    refine r_iload_n C dX10_calm_14 3 rfl rfl ?_
    obtain ⟨u2, hu2, h⟩ := ob_bind h
    refine r_readSI (As := [.int x1, .int x3]) (rest := [.int x2]) C (kX10_has   (x0 := x1) (x1 := x3) hu2) gX10_calm_X10_has rfl rfl rfl hd_X10_has ⟨by decide, by decide⟩ rfl [] (by decide) rfl rfl (Nat.le_of_ble_eq_true rfl) dX10_calm_15 ⟨Nat.zero_le _, Nat.zero_le _⟩ ?_
    refine r_ifb_ne (tgt := 34) C dX10_calm_18 (by decide) (fun c3 => ?_) (fun c3 => ?_)
    · replace h := ob_t h c3
      refine r_lv (lv' := [(0, .ref (md 0)), (1, .int x1), (3, .int x3)]) [0, 1, 3] rfl ?_
      exact LX10_calm_34 C (x1 := x1) (x3 := x3) (y0 := x2) (mflags := mflags) (mtubs := mtubs) (mpegs := mpegs) (mcl := mcl) (mws := mws) (mho := mho) (mnow := mnow) (mrd := mrd) (mrh := mrh) (mrf := mrf) (mtx := mtx) (mlen := mlen) (mat := mat) (mfa := mfa) (mac := mac) (mnx := mnx) (mrow := mrow) (msn := msn) (mso := mso) (msc := msc) (msw := msw) (mseed := mseed) (mik := mik) (mkp := mkp) hrec4 h
    · replace h := ob_bf h c3
      refine r_aload_n C dX10_calm_21 0 rfl rfl ?_
      refine r_get (ci := 7) (CC := RX10) (T := TX10) (N := 24) (v := .ref (md 3)) C hinX10_calm_X10 0 rfl rfl 5 (by decide) mX10_calm_2 rfl rfl dX10_calm_22 ?_
      refine r_iload_n C dX10_calm_25 3 rfl rfl ?_
      obtain ⟨hu4, h⟩ := ob_if h
      refine r_iald C 3 0 rfl rfl (inb_vp hu4) dX10_calm_26 ?_
      refine r_iload_n C dX10_calm_27 1 rfl rfl ?_
      refine r_iconst (v := -1) C dX10_calm_28 ic_m1 ?_
      refine r_ixor C dX10_calm_29 ?_
      refine r_iand C dX10_calm_30 ?_
      refine r_if_ne (tgt := 38) C dX10_calm_31 (by decide) (fun c5 => ?_) (fun c5 => ?_)
      · replace h := ob_f h c5
        refine r_iconst (v := 0) C dX10_calm_38 ic_0 ?_
        refine r_lv (lv' := [(0, .ref (md 0)), (1, .int x1), (3, .int x3)]) [0, 1, 3] rfl ?_
        exact LX10_calm_39 C (x1 := x1) (x3 := x3) (y0 := false) (y1 := x2) (mflags := mflags) (mtubs := mtubs) (mpegs := mpegs) (mcl := mcl) (mws := mws) (mho := mho) (mnow := mnow) (mrd := mrd) (mrh := mrh) (mrf := mrf) (mtx := mtx) (mlen := mlen) (mat := mat) (mfa := mfa) (mac := mac) (mnx := mnx) (mrow := mrow) (msn := msn) (mso := mso) (msc := msc) (msw := msw) (mseed := mseed) (mik := mik) (mkp := mkp) hrec4 h
      · replace h := ob_t h c5
        refine r_lv (lv' := [(0, .ref (md 0)), (1, .int x1), (3, .int x3)]) [0, 1, 3] rfl ?_
        exact LX10_calm_34 C (x1 := x1) (x3 := x3) (y0 := x2) (mflags := mflags) (mtubs := mtubs) (mpegs := mpegs) (mcl := mcl) (mws := mws) (mho := mho) (mnow := mnow) (mrd := mrd) (mrh := mrh) (mrf := mrf) (mtx := mtx) (mlen := mlen) (mat := mat) (mfa := mfa) (mac := mac) (mnx := mnx) (mrow := mrow) (msn := msn) (mso := mso) (msc := msc) (msw := msw) (mseed := mseed) (mik := mik) (mkp := mkp) hrec4 h
set_option maxHeartbeats 4000000 in
set_option maxRecDepth 100000 in
theorem LX10_calm_4 {p : Program} {l : Launch} {e : Env} {s : State} {m : MethodId} {args : Array Value} {below : List Frame} {meth : Method} {c : Code} {D : va_G} {cyI cyZ cyW : ClassId} {zW zO : Nat} {A : Nat → Prop} (C : Cx p s m args meth c cX10_calm RX10 "calm" wsX10_calm (some .int) 4 D (tyA cyI cyZ cyW) zW zO A) {md : Nat → Nat} {x1 : Int32} {mflags : Int32} {mtubs : Int32} {mpegs : Int32} {mcl : (Nat → Int32)} {mws : (Nat → Int32)} {mho : (Nat → Int32)} {mnow : (Nat → Int32)} {mrd : (Nat → Int32)} {mrh : (Nat → Int32)} {mrf : Int32} {mtx : (Nat → Int32)} {mlen : Int32} {mat : Int32} {mfa : Int32} {mac : Int32} {mnx : Int32} {mrow : (Nat → Int32)} {msn : Int32} {mso : (Nat → Int32)} {msc : (Nat → Int32)} {msw : (Nat → Int32)} {mseed : Int64} {mik : (Nat → Int32)} {mkp : (Nat → Int32)}  {res : Int32}  : ∀ (n : Nat) (x2 : Int32) (x3 : Int32), fX10_calm_4  x1 mflags mho n x2 x3 = some res → Mx p l e ({ frames := 1, cells := 0, slots := 0, locals := 21 } : Room) s m args below meth c (MQ below (QI D (tyA cyI cyZ cyW) A (wMO cyI cyZ cyW md mflags mtubs mpegs mcl mws mho mnow mrd mrh mrf mtx mlen mat mfa mac mnx mrow msn mso msc msw mseed mik mkp) res) args s 0 0 A) 4 D A 0 0 (wMO cyI cyZ cyW md mflags mtubs mpegs mcl mws mho mnow mrd mrh mrf mtx mlen mat mfa mac mnx mrow msn mso msc msw mseed mik mkp) 4 [(0, .ref (md 0)), (1, .int x1), (2, .int x2), (3, .int x3)] [] := by
  intro n
  induction n with
  | zero => intro x2 x3 h; cases h
  | succ n ih => intro x2 x3 h; exact LGX10_calm_4 C ih h
set_option maxHeartbeats 4000000 in
set_option maxRecDepth 100000 in
theorem kX10_calm {l : Launch} {D : va_G} {cyI cyZ cyW : ClassId} {zW zO : Nat} {md : Nat → Nat} {mflags : Int32} {mtubs : Int32} {mpegs : Int32} {mcl : (Nat → Int32)} {mws : (Nat → Int32)} {mho : (Nat → Int32)} {mnow : (Nat → Int32)} {mrd : (Nat → Int32)} {mrh : (Nat → Int32)} {mrf : Int32} {mtx : (Nat → Int32)} {mlen : Int32} {mat : Int32} {mfa : Int32} {mac : Int32} {mnx : Int32} {mrow : (Nat → Int32)} {msn : Int32} {mso : (Nat → Int32)} {msc : (Nat → Int32)} {msw : (Nat → Int32)} {mseed : Int64} {mik : (Nat → Int32)} {mkp : (Nat → Int32)} {x1 : Int32} {res : Int32} (h : fX10_calm x1 mflags mho = some res) : KI l yX10_calm wsX10_calm ({ frames := 1, cells := 0, slots := 0, locals := 21 } : Room) D (tyA cyI cyZ cyW) zW zO [.ref (md 0), .int x1] (wMO cyI cyZ cyW md mflags mtubs mpegs mcl mws mho mnow mrd mrh mrf mtx mlen mat mfa mac mnx mrow msn mso msc msw mseed mik mkp) (wMO cyI cyZ cyW md mflags mtubs mpegs mcl mws mho mnow mrd mrh mrf mtx mlen mat mfa mac mnx mrow msn mso msc msw mseed mik mkp) res := by
  refine enterI (cc := cX10_calm) (nL := 4) (ret := (some .int)) (by decide) rfl (Nat.le_of_ble_eq_true rfl) (fun p e s m below meth c A C => ?_)
  refine r_lv (lv' := [(0, .ref (md 0)), (1, .int x1)]) [0, 1] rfl ?_
  unfold fX10_calm at h
  refine r_iconst (v := 0) C dX10_calm_0 ic_0 ?_
  refine r_istore_n (lv' := [(2, .int (0 : Int32)), (0, .ref (md 0)), (1, .int x1)]) C dX10_calm_1 rfl (by decide) rfl ?_
  refine r_iconst (v := 0) C dX10_calm_2 ic_0 ?_
  refine r_istore_n (lv' := [(3, .int (0 : Int32)), (2, .int (0 : Int32)), (0, .ref (md 0)), (1, .int x1)]) C dX10_calm_3 rfl (by decide) rfl ?_
  refine r_lv (lv' := [(0, .ref (md 0)), (1, .int x1), (2, .int (0 : Int32)), (3, .int (0 : Int32))]) [2, 3, 1, 0] rfl ?_
  exact LX10_calm_4 C (x1 := x1) (mflags := mflags) (mtubs := mtubs) (mpegs := mpegs) (mcl := mcl) (mws := mws) (mho := mho) (mnow := mnow) (mrd := mrd) (mrh := mrh) (mrf := mrf) (mtx := mtx) (mlen := mlen) (mat := mat) (mfa := mfa) (mac := mac) (mnx := mnx) (mrow := mrow) (msn := msn) (mso := mso) (msc := msc) (msw := msw) (mseed := mseed) (mik := mik) (mkp := mkp)  FU (0 : Int32) (0 : Int32) h

/-! ===== FlagWashModel.share ===== -/
def fX10_share_84 (rec15 : Int32 → Int32 → Option (Int32)) (x1 : Int32) (x2 : Bool) (x3 : Int32) (x4 : Int32) (mflags : Int32) (mho : (Nat → Int32)) : Option (Int32) :=
 (rec15 x3 (x4 + (1 : Int32)))
def gX10_share_15 (rec15 : Int32 → Int32 → Option (Int32)) (x1 : Int32) (x2 : Bool) (x3 : Int32) (x4 : Int32) (mflags : Int32) (mho : (Nat → Int32)) : Option (Int32) :=
 (if ((1 : Int32) <<< (mflags &&& 31)) ≤ x4 then ((fX10_factorial mflags).bind fun u4 => ((fX10_common x3 u4).bind fun u5 => (if x2 = true then (if u5 = 0 then none else (some (x3 / u5)))
 else ((fX10_factorial mflags).bind fun u7 => (if u5 = 0 then none else (some (u7 / u5)))))))
 else ((fX10_has x4 x1).bind fun u10 => (if u10 = true then (fX10_share_84 rec15 x1 x2 x3 x4 mflags mho)
 else ((fX10_ones x4).bind fun u12 => ((fX10_factorial u12).bind fun u13 => ((fX10_ones x4).bind fun u14 => ((fX10_factorial ((mflags - (1 : Int32)) - u14)).bind fun u15 => ((fX10_calm (x4 ||| ((1 : Int32) <<< (x1 &&& 31))) mflags mho).bind fun u16 => ((fX10_calm x4 mflags mho).bind fun u17 => (fX10_share_84 rec15 x1 x2 (x3 + ((u13 * u15) * (u16 - u17))) x4 mflags mho))))))))))
def fX10_share_15  (x1 : Int32) (x2 : Bool) (mflags : Int32) (mho : (Nat → Int32)) : Nat → Int32 → Int32 → Option (Int32)
  | 0 => fun _ _ => none
  | n + 1 => fun x3 x4 => gX10_share_15 (fX10_share_15  x1 x2 mflags mho n) x1 x2 x3 x4 mflags mho
def fX10_share  (x1 : Int32) (x2 : Bool) (mflags : Int32) (mho : (Nat → Int32)) : Option (Int32) :=
 ((fX10_isFlag x1 mflags).bind fun u1 => (if u1 = true then (fX10_share_15  x1 x2 mflags mho FU (0 : Int32) (0 : Int32))
 else (some (-1 : Int32))))
theorem hinX10_share_X10 : ∀ w ∈ u_ws RX10 TX10 24, w ∈ wsX10_share := fun w h => List.mem_cons_of_mem _ (List.mem_append_right _ h)
theorem mX10_share_1 : Cond.fieldLink RX10 101 "FlagWashModel" "flags" "I" ∈ wsX10_share := List.mem_of_getElem? (i := 1) rfl
theorem hd_X10_share : yX10_share.cls ≠ "java/lang/invoke/MethodHandle" ∧ yX10_share.cls ≠ "java/lang/invoke/VarHandle" ∧ (parseMethodDescriptor yX10_share.desc).map (fun d => d.parameters.length) = some 2 := by decide +kernel
set_option maxHeartbeats 4000000 in
set_option maxRecDepth 100000 in
theorem LX10_share_84 {p : Program} {l : Launch} {e : Env} {s : State} {m : MethodId} {args : Array Value} {below : List Frame} {meth : Method} {c : Code} {D : va_G} {cyI cyZ cyW : ClassId} {zW zO : Nat} {A : Nat → Prop} (C : Cx p s m args meth c cX10_share RX10 "share" wsX10_share (some .int) 6 D (tyA cyI cyZ cyW) zW zO A) {md : Nat → Nat} {mflags : Int32} {mtubs : Int32} {mpegs : Int32} {mcl : (Nat → Int32)} {mws : (Nat → Int32)} {mho : (Nat → Int32)} {mnow : (Nat → Int32)} {mrd : (Nat → Int32)} {mrh : (Nat → Int32)} {mrf : Int32} {mtx : (Nat → Int32)} {mlen : Int32} {mat : Int32} {mfa : Int32} {mac : Int32} {mnx : Int32} {mrow : (Nat → Int32)} {msn : Int32} {mso : (Nat → Int32)} {msc : (Nat → Int32)} {msw : (Nat → Int32)} {mseed : Int64} {mik : (Nat → Int32)} {mkp : (Nat → Int32)} {x1 : Int32} {x2 : Bool} {x3 : Int32} {x4 : Int32} {rec15 : Int32 → Int32 → Option (Int32)} {res : Int32} (hrec15 : ∀ (x3 : Int32) (x4 : Int32), rec15 x3 x4 = some res → Mx p l e ({ frames := 2, cells := 0, slots := 0, locals := 46 } : Room) s m args below meth c (MQ below (QI D (tyA cyI cyZ cyW) A (wMO cyI cyZ cyW md mflags mtubs mpegs mcl mws mho mnow mrd mrh mrf mtx mlen mat mfa mac mnx mrow msn mso msc msw mseed mik mkp) res) args s 0 0 A) 6 D A 0 0 (wMO cyI cyZ cyW md mflags mtubs mpegs mcl mws mho mnow mrd mrh mrf mtx mlen mat mfa mac mnx mrow msn mso msc msw mseed mik mkp) 15 [(0, .ref (md 0)), (1, .int x1), (2, .int (b2i x2)), (3, .int x3), (4, .int x4)] []) (h : fX10_share_84 rec15 x1 x2 x3 x4 mflags mho = some res) : Mx p l e ({ frames := 2, cells := 0, slots := 0, locals := 46 } : Room) s m args below meth c (MQ below (QI D (tyA cyI cyZ cyW) A (wMO cyI cyZ cyW md mflags mtubs mpegs mcl mws mho mnow mrd mrh mrf mtx mlen mat mfa mac mnx mrow msn mso msc msw mseed mik mkp) res) args s 0 0 A) 6 D A 0 0 (wMO cyI cyZ cyW md mflags mtubs mpegs mcl mws mho mnow mrd mrh mrf mtx mlen mat mfa mac mnx mrow msn mso msc msw mseed mik mkp) 84 [(0, .ref (md 0)), (1, .int x1), (2, .int (b2i x2)), (3, .int x3), (4, .int x4)] [] := by
  unfold fX10_share_84 at h
  refine r_iinc (v := 1) (lv' := [(4, .int (x4 + (1 : Int32))), (0, .ref (md 0)), (1, .int x1), (2, .int (b2i x2)), (3, .int x3)]) C dX10_share_84 4 rfl ic_1 (by decide) rfl ?_
  refine r_goto (tgt := 15) C dX10_share_87 (by decide) ?_
  refine r_lv (lv' := [(0, .ref (md 0)), (1, .int x1), (2, .int (b2i x2)), (3, .int x3), (4, .int (x4 + (1 : Int32)))]) [1, 2, 3, 4, 0] rfl ?_
  exact hrec15 x3 (x4 + (1 : Int32)) h
set_option maxHeartbeats 4000000 in
set_option maxRecDepth 100000 in
theorem LGX10_share_15 {p : Program} {l : Launch} {e : Env} {s : State} {m : MethodId} {args : Array Value} {below : List Frame} {meth : Method} {c : Code} {D : va_G} {cyI cyZ cyW : ClassId} {zW zO : Nat} {A : Nat → Prop} (C : Cx p s m args meth c cX10_share RX10 "share" wsX10_share (some .int) 6 D (tyA cyI cyZ cyW) zW zO A) {md : Nat → Nat} {mflags : Int32} {mtubs : Int32} {mpegs : Int32} {mcl : (Nat → Int32)} {mws : (Nat → Int32)} {mho : (Nat → Int32)} {mnow : (Nat → Int32)} {mrd : (Nat → Int32)} {mrh : (Nat → Int32)} {mrf : Int32} {mtx : (Nat → Int32)} {mlen : Int32} {mat : Int32} {mfa : Int32} {mac : Int32} {mnx : Int32} {mrow : (Nat → Int32)} {msn : Int32} {mso : (Nat → Int32)} {msc : (Nat → Int32)} {msw : (Nat → Int32)} {mseed : Int64} {mik : (Nat → Int32)} {mkp : (Nat → Int32)} {x1 : Int32} {x2 : Bool} {x3 : Int32} {x4 : Int32} {rec15 : Int32 → Int32 → Option (Int32)} {res : Int32} (hrec15 : ∀ (x3 : Int32) (x4 : Int32), rec15 x3 x4 = some res → Mx p l e ({ frames := 2, cells := 0, slots := 0, locals := 46 } : Room) s m args below meth c (MQ below (QI D (tyA cyI cyZ cyW) A (wMO cyI cyZ cyW md mflags mtubs mpegs mcl mws mho mnow mrd mrh mrf mtx mlen mat mfa mac mnx mrow msn mso msc msw mseed mik mkp) res) args s 0 0 A) 6 D A 0 0 (wMO cyI cyZ cyW md mflags mtubs mpegs mcl mws mho mnow mrd mrh mrf mtx mlen mat mfa mac mnx mrow msn mso msc msw mseed mik mkp) 15 [(0, .ref (md 0)), (1, .int x1), (2, .int (b2i x2)), (3, .int x3), (4, .int x4)] []) (h : gX10_share_15 rec15 x1 x2 x3 x4 mflags mho = some res) : Mx p l e ({ frames := 2, cells := 0, slots := 0, locals := 46 } : Room) s m args below meth c (MQ below (QI D (tyA cyI cyZ cyW) A (wMO cyI cyZ cyW md mflags mtubs mpegs mcl mws mho mnow mrd mrh mrf mtx mlen mat mfa mac mnx mrow msn mso msc msw mseed mik mkp) res) args s 0 0 A) 6 D A 0 0 (wMO cyI cyZ cyW md mflags mtubs mpegs mcl mws mho mnow mrd mrh mrf mtx mlen mat mfa mac mnx mrow msn mso msc msw mseed mik mkp) 15 [(0, .ref (md 0)), (1, .int x1), (2, .int (b2i x2)), (3, .int x3), (4, .int x4)] [] := by
  unfold gX10_share_15 at h
  refine r_iload C dX10_share_15 4 rfl ?_
  refine r_iconst (v := 1) C dX10_share_17 ic_1 ?_
  refine r_aload_n C dX10_share_18 0 rfl rfl ?_
  refine r_get (ci := 7) (CC := RX10) (T := TX10) (N := 24) (v := .int mflags) C hinX10_share_X10 0 rfl rfl 0 (by decide) mX10_share_1 rfl rfl dX10_share_19 ?_
  refine r_ishl C dX10_share_22 ?_
  refine r_icmp_ge (tgt := 90) C dX10_share_23 (by decide) (fun c3 => ?_) (fun c3 => ?_)
  · replace h := ob_t h c3
    refine r_iload_n C dX10_share_90 3 rfl rfl ?_
    refine r_aload_n C dX10_share_91 0 rfl rfl ?_
    refine r_get (ci := 7) (CC := RX10) (T := TX10) (N := 24) (v := .int mflags) C hinX10_share_X10 0 rfl rfl 0 (by decide) mX10_share_1 rfl rfl dX10_share_92 ?_
    obtain ⟨u4, hu4, h⟩ := ob_bind h
    refine r_readSI (As := [.int mflags]) (rest := [.int x3]) C (kX10_factorial   (x0 := mflags) hu4) gX10_share_X10_factorial rfl rfl rfl hd_X10_factorial ⟨by decide, by decide⟩ rfl [] (by decide) rfl rfl (Nat.le_of_ble_eq_true rfl) dX10_share_95 ⟨Nat.zero_le _, Nat.zero_le _⟩ ?_
    obtain ⟨u5, hu5, h⟩ := ob_bind h
    refine r_readSI (As := [.int x3, .int u4]) (rest := []) C (kX10_common   (x0 := x3) (x1 := u4) hu5) gX10_share_X10_common rfl rfl rfl hd_X10_common ⟨by decide, by decide⟩ rfl [] (by decide) rfl rfl (Nat.le_of_ble_eq_true rfl) dX10_share_98 ⟨Nat.zero_le _, Nat.zero_le _⟩ ?_
    refine r_istore (lv' := [(4, .int u5), (0, .ref (md 0)), (1, .int x1), (2, .int (b2i x2)), (3, .int x3)]) C dX10_share_101 (by decide) rfl ?_
    refine r_iload_n C dX10_share_103 3 rfl rfl ?_
    refine r_ifb_eq (tgt := 114) C dX10_share_104 (by decide) (fun c6 => ?_) (fun c6 => ?_)
    · replace h := ob_bf h c6
      refine r_aload_n C dX10_share_114 1 rfl rfl ?_
      refine r_get (ci := 7) (CC := RX10) (T := TX10) (N := 24) (v := .int mflags) C hinX10_share_X10 0 rfl rfl 0 (by decide) mX10_share_1 rfl rfl dX10_share_115 ?_
      obtain ⟨u7, hu7, h⟩ := ob_bind h
      refine r_readSI (As := [.int mflags]) (rest := []) C (kX10_factorial   (x0 := mflags) hu7) gX10_share_X10_factorial rfl rfl rfl hd_X10_factorial ⟨by decide, by decide⟩ rfl [] (by decide) rfl rfl (Nat.le_of_ble_eq_true rfl) dX10_share_118 ⟨Nat.zero_le _, Nat.zero_le _⟩ ?_
      refine r_iload C dX10_share_121 0 rfl ?_
      obtain ⟨hu8, h⟩ := ob_ne h
      refine r_idiv C dX10_share_123 hu8 ?_
      have h9 := Option.some.inj h
      subst h9
      exact r_iret C rfl dX10_share_124
    · replace h := ob_t h c6
      refine r_iload_n C dX10_share_107 4 rfl rfl ?_
      refine r_iload C dX10_share_108 0 rfl ?_
      obtain ⟨hu9, h⟩ := ob_ne h
      refine r_idiv C dX10_share_110 hu9 ?_
      refine r_goto (tgt := 124) C dX10_share_111 (by decide) ?_
      have h9 := Option.some.inj h
      subst h9
      exact r_iret C rfl dX10_share_124
  · replace h := ob_f h c3
    refine r_iload C dX10_share_26 4 rfl ?_
    refine r_iload_n C dX10_share_28 1 rfl rfl ?_
    obtain ⟨u10, hu10, h⟩ := ob_bind h
    refine r_readSI (As := [.int x4, .int x1]) (rest := []) C (kX10_has   (x0 := x4) (x1 := x1) hu10) gX10_share_X10_has rfl rfl rfl hd_X10_has ⟨by decide, by decide⟩ rfl [] (by decide) rfl rfl (Nat.le_of_ble_eq_true rfl) dX10_share_29 ⟨Nat.zero_le _, Nat.zero_le _⟩ ?_
    refine r_ifb_ne (tgt := 84) C dX10_share_32 (by decide) (fun c11 => ?_) (fun c11 => ?_)
    · replace h := ob_t h c11
      refine r_lv (lv' := [(0, .ref (md 0)), (1, .int x1), (2, .int (b2i x2)), (3, .int x3), (4, .int x4)]) [0, 1, 2, 3, 4] rfl ?_
      exact LX10_share_84 C (x1 := x1) (x2 := x2) (x3 := x3) (x4 := x4) (mflags := mflags) (mtubs := mtubs) (mpegs := mpegs) (mcl := mcl) (mws := mws) (mho := mho) (mnow := mnow) (mrd := mrd) (mrh := mrh) (mrf := mrf) (mtx := mtx) (mlen := mlen) (mat := mat) (mfa := mfa) (mac := mac) (mnx := mnx) (mrow := mrow) (msn := msn) (mso := mso) (msc := msc) (msw := msw) (mseed := mseed) (mik := mik) (mkp := mkp) hrec15 h
    · replace h := ob_bf h c11
      refine r_iload C dX10_share_35 4 rfl ?_
      obtain ⟨u12, hu12, h⟩ := ob_bind h
      refine r_readSI (As := [.int x4]) (rest := []) C (kX10_ones   (x0 := x4) hu12) gX10_share_X10_ones rfl rfl rfl hd_X10_ones ⟨by decide, by decide⟩ rfl [] (by decide) rfl rfl (Nat.le_of_ble_eq_true rfl) dX10_share_37 ⟨Nat.zero_le _, Nat.zero_le _⟩ ?_
      obtain ⟨u13, hu13, h⟩ := ob_bind h
      refine r_readSI (As := [.int u12]) (rest := []) C (kX10_factorial   (x0 := u12) hu13) gX10_share_X10_factorial rfl rfl rfl hd_X10_factorial ⟨by decide, by decide⟩ rfl [] (by decide) rfl rfl (Nat.le_of_ble_eq_true rfl) dX10_share_40 ⟨Nat.zero_le _, Nat.zero_le _⟩ ?_
      refine r_aload_n C dX10_share_43 0 rfl rfl ?_
      refine r_get (ci := 7) (CC := RX10) (T := TX10) (N := 24) (v := .int mflags) C hinX10_share_X10 0 rfl rfl 0 (by decide) mX10_share_1 rfl rfl dX10_share_44 ?_
      refine r_iconst (v := 1) C dX10_share_47 ic_1 ?_
      refine r_isub C dX10_share_48 ?_
      refine r_iload C dX10_share_49 4 rfl ?_
      obtain ⟨u14, hu14, h⟩ := ob_bind h
      refine r_readSI (As := [.int x4]) (rest := [.int (mflags - (1 : Int32)), .int u13]) C (kX10_ones   (x0 := x4) hu14) gX10_share_X10_ones rfl rfl rfl hd_X10_ones ⟨by decide, by decide⟩ rfl [] (by decide) rfl rfl (Nat.le_of_ble_eq_true rfl) dX10_share_51 ⟨Nat.zero_le _, Nat.zero_le _⟩ ?_
      refine r_isub C dX10_share_54 ?_
      obtain ⟨u15, hu15, h⟩ := ob_bind h
      refine r_readSI (As := [.int ((mflags - (1 : Int32)) - u14)]) (rest := [.int u13]) C (kX10_factorial   (x0 := ((mflags - (1 : Int32)) - u14)) hu15) gX10_share_X10_factorial rfl rfl rfl hd_X10_factorial ⟨by decide, by decide⟩ rfl [] (by decide) rfl rfl (Nat.le_of_ble_eq_true rfl) dX10_share_55 ⟨Nat.zero_le _, Nat.zero_le _⟩ ?_
      refine r_imul C dX10_share_58 ?_
      refine r_istore (lv' := [(5, .int (u13 * u15)), (0, .ref (md 0)), (1, .int x1), (2, .int (b2i x2)), (3, .int x3), (4, .int x4)]) C dX10_share_59 (by decide) rfl ?_
      refine r_iload_n C dX10_share_61 4 rfl rfl ?_
      refine r_iload C dX10_share_62 0 rfl ?_
      refine r_aload_n C dX10_share_64 1 rfl rfl ?_
      refine r_iload C dX10_share_65 5 rfl ?_
      refine r_iconst (v := 1) C dX10_share_67 ic_1 ?_
      refine r_iload_n C dX10_share_68 2 rfl rfl ?_
      refine r_ishl C dX10_share_69 ?_
      refine r_ior C dX10_share_70 ?_
      obtain ⟨u16, hu16, h⟩ := ob_bind h
      refine r_readVI (q0 := 0) (As := [.int (x4 ||| ((1 : Int32) <<< (x1 &&& 31)))]) (rest := [.int (u13 * u15), .int x3]) C (kX10_calm (md := md) (mflags := mflags) (mtubs := mtubs) (mpegs := mpegs) (mcl := mcl) (mws := mws) (mho := mho) (mnow := mnow) (mrd := mrd) (mrh := mrh) (mrf := mrf) (mtx := mtx) (mlen := mlen) (mat := mat) (mfa := mfa) (mac := mac) (mnx := mnx) (mrow := mrow) (msn := msn) (mso := mso) (msc := msc) (msw := msw) (mseed := mseed) (mik := mik) (mkp := mkp) (x1 := (x4 ||| ((1 : Int32) <<< (x1 &&& 31)))) hu16) gX10_share_X10_calm rfl rfl rfl ⟨rfl, hd_X10_calm⟩ ⟨by decide, by decide⟩ rfl rfl rfl rfl [0, 1, 2, 3, 4, 5, 6, 7, 8, 9, 10, 11, 12, 13] (by decide) in_76 rfl (Nat.le_of_ble_eq_true rfl) dX10_share_71 ⟨Nat.zero_le _, Nat.zero_le _⟩ ?_
      refine r_aload_n C dX10_share_74 1 rfl rfl ?_
      refine r_iload C dX10_share_75 5 rfl ?_
      obtain ⟨u17, hu17, h⟩ := ob_bind h
      refine r_readVI (q0 := 0) (As := [.int x4]) (rest := [.int u16, .int (u13 * u15), .int x3]) C (kX10_calm (md := md) (mflags := mflags) (mtubs := mtubs) (mpegs := mpegs) (mcl := mcl) (mws := mws) (mho := mho) (mnow := mnow) (mrd := mrd) (mrh := mrh) (mrf := mrf) (mtx := mtx) (mlen := mlen) (mat := mat) (mfa := mfa) (mac := mac) (mnx := mnx) (mrow := mrow) (msn := msn) (mso := mso) (msc := msc) (msw := msw) (mseed := mseed) (mik := mik) (mkp := mkp) (x1 := x4) hu17) gX10_share_X10_calm rfl rfl rfl ⟨rfl, hd_X10_calm⟩ ⟨by decide, by decide⟩ rfl rfl rfl rfl [0, 1, 2, 3, 4, 5, 6, 7, 8, 9, 10, 11, 12, 13] (by decide) in_76 rfl (Nat.le_of_ble_eq_true rfl) dX10_share_77 ⟨Nat.zero_le _, Nat.zero_le _⟩ ?_
      refine r_isub C dX10_share_80 ?_
      refine r_imul C dX10_share_81 ?_
      refine r_iadd C dX10_share_82 ?_
      refine r_istore_n (lv' := [(3, .int (x3 + ((u13 * u15) * (u16 - u17)))), (5, .int (u13 * u15)), (0, .ref (md 0)), (1, .int x1), (2, .int (b2i x2)), (4, .int x4)]) C dX10_share_83 rfl (by decide) rfl ?_
      refine r_lv (lv' := [(0, .ref (md 0)), (1, .int x1), (2, .int (b2i x2)), (3, .int (x3 + ((u13 * u15) * (u16 - u17)))), (4, .int x4)]) [2, 3, 4, 0, 5] rfl ?_
      exact LX10_share_84 C (x1 := x1) (x2 := x2) (x3 := (x3 + ((u13 * u15) * (u16 - u17)))) (x4 := x4) (mflags := mflags) (mtubs := mtubs) (mpegs := mpegs) (mcl := mcl) (mws := mws) (mho := mho) (mnow := mnow) (mrd := mrd) (mrh := mrh) (mrf := mrf) (mtx := mtx) (mlen := mlen) (mat := mat) (mfa := mfa) (mac := mac) (mnx := mnx) (mrow := mrow) (msn := msn) (mso := mso) (msc := msc) (msw := msw) (mseed := mseed) (mik := mik) (mkp := mkp) hrec15 h
set_option maxHeartbeats 4000000 in
set_option maxRecDepth 100000 in
theorem LX10_share_15 {p : Program} {l : Launch} {e : Env} {s : State} {m : MethodId} {args : Array Value} {below : List Frame} {meth : Method} {c : Code} {D : va_G} {cyI cyZ cyW : ClassId} {zW zO : Nat} {A : Nat → Prop} (C : Cx p s m args meth c cX10_share RX10 "share" wsX10_share (some .int) 6 D (tyA cyI cyZ cyW) zW zO A) {md : Nat → Nat} {x1 : Int32} {x2 : Bool} {mflags : Int32} {mtubs : Int32} {mpegs : Int32} {mcl : (Nat → Int32)} {mws : (Nat → Int32)} {mho : (Nat → Int32)} {mnow : (Nat → Int32)} {mrd : (Nat → Int32)} {mrh : (Nat → Int32)} {mrf : Int32} {mtx : (Nat → Int32)} {mlen : Int32} {mat : Int32} {mfa : Int32} {mac : Int32} {mnx : Int32} {mrow : (Nat → Int32)} {msn : Int32} {mso : (Nat → Int32)} {msc : (Nat → Int32)} {msw : (Nat → Int32)} {mseed : Int64} {mik : (Nat → Int32)} {mkp : (Nat → Int32)}  {res : Int32}  : ∀ (n : Nat) (x3 : Int32) (x4 : Int32), fX10_share_15  x1 x2 mflags mho n x3 x4 = some res → Mx p l e ({ frames := 2, cells := 0, slots := 0, locals := 46 } : Room) s m args below meth c (MQ below (QI D (tyA cyI cyZ cyW) A (wMO cyI cyZ cyW md mflags mtubs mpegs mcl mws mho mnow mrd mrh mrf mtx mlen mat mfa mac mnx mrow msn mso msc msw mseed mik mkp) res) args s 0 0 A) 6 D A 0 0 (wMO cyI cyZ cyW md mflags mtubs mpegs mcl mws mho mnow mrd mrh mrf mtx mlen mat mfa mac mnx mrow msn mso msc msw mseed mik mkp) 15 [(0, .ref (md 0)), (1, .int x1), (2, .int (b2i x2)), (3, .int x3), (4, .int x4)] [] := by
  intro n
  induction n with
  | zero => intro x3 x4 h; cases h
  | succ n ih => intro x3 x4 h; exact LGX10_share_15 C ih h
set_option maxHeartbeats 4000000 in
set_option maxRecDepth 100000 in
theorem kX10_share {l : Launch} {D : va_G} {cyI cyZ cyW : ClassId} {zW zO : Nat} {md : Nat → Nat} {mflags : Int32} {mtubs : Int32} {mpegs : Int32} {mcl : (Nat → Int32)} {mws : (Nat → Int32)} {mho : (Nat → Int32)} {mnow : (Nat → Int32)} {mrd : (Nat → Int32)} {mrh : (Nat → Int32)} {mrf : Int32} {mtx : (Nat → Int32)} {mlen : Int32} {mat : Int32} {mfa : Int32} {mac : Int32} {mnx : Int32} {mrow : (Nat → Int32)} {msn : Int32} {mso : (Nat → Int32)} {msc : (Nat → Int32)} {msw : (Nat → Int32)} {mseed : Int64} {mik : (Nat → Int32)} {mkp : (Nat → Int32)} {x1 : Int32} {x2 : Bool} {res : Int32} (h : fX10_share x1 x2 mflags mho = some res) : KI l yX10_share wsX10_share ({ frames := 2, cells := 0, slots := 0, locals := 46 } : Room) D (tyA cyI cyZ cyW) zW zO [.ref (md 0), .int x1, .int (b2i x2)] (wMO cyI cyZ cyW md mflags mtubs mpegs mcl mws mho mnow mrd mrh mrf mtx mlen mat mfa mac mnx mrow msn mso msc msw mseed mik mkp) (wMO cyI cyZ cyW md mflags mtubs mpegs mcl mws mho mnow mrd mrh mrf mtx mlen mat mfa mac mnx mrow msn mso msc msw mseed mik mkp) res := by
  refine enterI (cc := cX10_share) (nL := 6) (ret := (some .int)) (by decide) rfl (Nat.le_of_ble_eq_true rfl) (fun p e s m below meth c A C => ?_)
  refine r_lv (lv' := [(0, .ref (md 0)), (1, .int x1), (2, .int (b2i x2))]) [0, 1, 2] rfl ?_
  unfold fX10_share at h
  refine r_aload_n C dX10_share_0 0 rfl rfl ?_
  refine r_iload_n C dX10_share_1 1 rfl rfl ?_
  obtain ⟨u1, hu1, h⟩ := ob_bind h
  refine r_readVI (q0 := 0) (As := [.int x1]) (rest := []) C (kX10_isFlag (md := md) (mflags := mflags) (mtubs := mtubs) (mpegs := mpegs) (mcl := mcl) (mws := mws) (mho := mho) (mnow := mnow) (mrd := mrd) (mrh := mrh) (mrf := mrf) (mtx := mtx) (mlen := mlen) (mat := mat) (mfa := mfa) (mac := mac) (mnx := mnx) (mrow := mrow) (msn := msn) (mso := mso) (msc := msc) (msw := msw) (mseed := mseed) (mik := mik) (mkp := mkp) (x1 := x1) hu1) gX10_share_X10_isFlag rfl rfl rfl ⟨rfl, hd_X10_isFlag⟩ ⟨by decide, by decide⟩ rfl rfl rfl rfl [0, 1, 2, 3, 4, 5, 6, 7, 8, 9, 10, 11, 12, 13] (by decide) in_76 rfl (Nat.le_of_ble_eq_true rfl) dX10_share_2 ⟨Nat.zero_le _, Nat.zero_le _⟩ ?_
  refine r_ifb_ne (tgt := 10) C dX10_share_5 (by decide) (fun c2 => ?_) (fun c2 => ?_)
  · replace h := ob_t h c2
    refine r_iconst (v := 0) C dX10_share_10 ic_0 ?_
    refine r_istore_n (lv' := [(3, .int (0 : Int32)), (0, .ref (md 0)), (1, .int x1), (2, .int (b2i x2))]) C dX10_share_11 rfl (by decide) rfl ?_
    refine r_iconst (v := 0) C dX10_share_12 ic_0 ?_
    refine r_istore (lv' := [(4, .int (0 : Int32)), (3, .int (0 : Int32)), (0, .ref (md 0)), (1, .int x1), (2, .int (b2i x2))]) C dX10_share_13 (by decide) rfl ?_
    refine r_lv (lv' := [(0, .ref (md 0)), (1, .int x1), (2, .int (b2i x2)), (3, .int (0 : Int32)), (4, .int (0 : Int32))]) [2, 3, 4, 1, 0] rfl ?_
    exact LX10_share_15 C (x1 := x1) (x2 := x2) (mflags := mflags) (mtubs := mtubs) (mpegs := mpegs) (mcl := mcl) (mws := mws) (mho := mho) (mnow := mnow) (mrd := mrd) (mrh := mrh) (mrf := mrf) (mtx := mtx) (mlen := mlen) (mat := mat) (mfa := mfa) (mac := mac) (mnx := mnx) (mrow := mrow) (msn := msn) (mso := mso) (msc := msc) (msw := msw) (mseed := mseed) (mik := mik) (mkp := mkp)  FU (0 : Int32) (0 : Int32) h
  · replace h := ob_bf h c2
    refine r_iconst (v := -1) C dX10_share_8 ic_m1 ?_
    have h9 := Option.some.inj h
    subst h9
    exact r_iret C rfl dX10_share_9

/-! ===== FlagWashModel.gain ===== -/
def fX10_gain  (x1 : Int32) (x2 : Int32) (x3 : Int32) (x4 : Int32) (mws : (Nat → Int32)) (mho : (Nat → Int32)) : Option (Int32) :=
 (if x3 = 0 then (if inb x1 5 = true then (some (-(mws x1.toNatClampNeg))) else none)
 else (if x4 = 0 then (some (2 : Int32))
 else (if inb x1 5 = true then ((fX10_has (mho x1.toNatClampNeg) x2).bind fun u4 => (if u4 = true then (some (-5 : Int32))
 else (some (0 : Int32)))) else none)))
theorem hinX10_gain_X10 : ∀ w ∈ u_ws RX10 TX10 24, w ∈ wsX10_gain := fun w h => List.mem_cons_of_mem _ (List.mem_append_right _ h)
theorem mX10_gain_2 : Cond.fieldLink RX10 16 "FlagWashModel" "hostile" "[I" ∈ wsX10_gain := List.mem_of_getElem? (i := 2) rfl
theorem mX10_gain_1 : Cond.fieldLink RX10 13 "FlagWashModel" "washed" "[I" ∈ wsX10_gain := List.mem_of_getElem? (i := 1) rfl
theorem hd_X10_gain : yX10_gain.cls ≠ "java/lang/invoke/MethodHandle" ∧ yX10_gain.cls ≠ "java/lang/invoke/VarHandle" ∧ (parseMethodDescriptor yX10_gain.desc).map (fun d => d.parameters.length) = some 4 := by decide +kernel
set_option maxHeartbeats 4000000 in
set_option maxRecDepth 100000 in
theorem kX10_gain {l : Launch} {D : va_G} {cyI cyZ cyW : ClassId} {zW zO : Nat} {md : Nat → Nat} {mflags : Int32} {mtubs : Int32} {mpegs : Int32} {mcl : (Nat → Int32)} {mws : (Nat → Int32)} {mho : (Nat → Int32)} {mnow : (Nat → Int32)} {mrd : (Nat → Int32)} {mrh : (Nat → Int32)} {mrf : Int32} {mtx : (Nat → Int32)} {mlen : Int32} {mat : Int32} {mfa : Int32} {mac : Int32} {mnx : Int32} {mrow : (Nat → Int32)} {msn : Int32} {mso : (Nat → Int32)} {msc : (Nat → Int32)} {msw : (Nat → Int32)} {mseed : Int64} {mik : (Nat → Int32)} {mkp : (Nat → Int32)} {x1 : Int32} {x2 : Int32} {x3 : Int32} {x4 : Int32} {res : Int32} (h : fX10_gain x1 x2 x3 x4 mws mho = some res) : KI l yX10_gain wsX10_gain ({ frames := 1, cells := 0, slots := 0, locals := 21 } : Room) D (tyA cyI cyZ cyW) zW zO [.ref (md 0), .int x1, .int x2, .int x3, .int x4] (wMO cyI cyZ cyW md mflags mtubs mpegs mcl mws mho mnow mrd mrh mrf mtx mlen mat mfa mac mnx mrow msn mso msc msw mseed mik mkp) (wMO cyI cyZ cyW md mflags mtubs mpegs mcl mws mho mnow mrd mrh mrf mtx mlen mat mfa mac mnx mrow msn mso msc msw mseed mik mkp) res := by
  refine enterI (cc := cX10_gain) (nL := 5) (ret := (some .int)) (by decide) rfl (Nat.le_of_ble_eq_true rfl) (fun p e s m below meth c A C => ?_)
  refine r_lv (lv' := [(0, .ref (md 0)), (1, .int x1), (2, .int x2), (3, .int x3), (4, .int x4)]) [0, 1, 2, 3, 4] rfl ?_
  unfold fX10_gain at h
  refine r_iload_n C dX10_gain_0 3 rfl rfl ?_
  refine r_if_ne (tgt := 12) C dX10_gain_1 (by decide) (fun c1 => ?_) (fun c1 => ?_)
  · replace h := ob_f h c1
    refine r_iload C dX10_gain_12 4 rfl ?_
    refine r_if_ne (tgt := 21) C dX10_gain_14 (by decide) (fun c2 => ?_) (fun c2 => ?_)
    · replace h := ob_f h c2
      refine r_aload_n C dX10_gain_21 0 rfl rfl ?_
      refine r_get (ci := 7) (CC := RX10) (T := TX10) (N := 24) (v := .ref (md 3)) C hinX10_gain_X10 0 rfl rfl 5 (by decide) mX10_gain_2 rfl rfl dX10_gain_22 ?_
      refine r_iload_n C dX10_gain_25 1 rfl rfl ?_
      obtain ⟨hu3, h⟩ := ob_if h
      refine r_iald C 3 0 rfl rfl (inb_vp hu3) dX10_gain_26 ?_
      refine r_iload_n C dX10_gain_27 2 rfl rfl ?_
      obtain ⟨u4, hu4, h⟩ := ob_bind h
      refine r_readSI (As := [.int (mho x1.toNatClampNeg), .int x2]) (rest := []) C (kX10_has   (x0 := (mho x1.toNatClampNeg)) (x1 := x2) hu4) gX10_gain_X10_has rfl rfl rfl hd_X10_has ⟨by decide, by decide⟩ rfl [] (by decide) rfl rfl (Nat.le_of_ble_eq_true rfl) dX10_gain_28 ⟨Nat.zero_le _, Nat.zero_le _⟩ ?_
      refine r_ifb_eq (tgt := 39) C dX10_gain_31 (by decide) (fun c5 => ?_) (fun c5 => ?_)
      · replace h := ob_bf h c5
        refine r_iconst (v := 0) C dX10_gain_39 ic_0 ?_
        have h9 := Option.some.inj h
        subst h9
        exact r_iret C rfl dX10_gain_40
      · replace h := ob_t h c5
        refine r_bipush (v := -5) C dX10_gain_34 bp_m5 ?_
        refine r_goto (tgt := 40) C dX10_gain_36 (by decide) ?_
        have h9 := Option.some.inj h
        subst h9
        exact r_iret C rfl dX10_gain_40
    · replace h := ob_t h c2
      refine r_iconst (v := 2) C dX10_gain_17 ic_2 ?_
      refine r_goto (tgt := 40) C dX10_gain_18 (by decide) ?_
      have h9 := Option.some.inj h
      subst h9
      exact r_iret C rfl dX10_gain_40
  · replace h := ob_t h c1
    refine r_aload_n C dX10_gain_4 0 rfl rfl ?_
    refine r_get (ci := 7) (CC := RX10) (T := TX10) (N := 24) (v := .ref (md 2)) C hinX10_gain_X10 0 rfl rfl 4 (by decide) mX10_gain_1 rfl rfl dX10_gain_5 ?_
    refine r_iload_n C dX10_gain_8 1 rfl rfl ?_
    obtain ⟨hu6, h⟩ := ob_if h
    refine r_iald C 2 0 rfl rfl (inb_vp hu6) dX10_gain_9 ?_
    refine r_ineg C dX10_gain_10 ?_
    have h9 := Option.some.inj h
    subst h9
    exact r_iret C rfl dX10_gain_11

/-! ===== FlagWashModel.isRest ===== -/
def fX10_isRest  (x1 : Int32) (x2 : Int32) (x3 : Int32) (x4 : Int32) (mws : (Nat → Int32)) (mho : (Nat → Int32)) : Option (Bool) :=
 ((fX10_gain x1 x2 ((1 : Int32) - x3) x4 mws mho).bind fun u1 => ((fX10_gain x1 x2 x3 x4 mws mho).bind fun u2 => (if u2 < u1 then (some false)
 else ((fX10_gain x2 x1 ((1 : Int32) - x4) x3 mws mho).bind fun u4 => ((fX10_gain x2 x1 x4 x3 mws mho).bind fun u5 => (if u5 < u4 then (some false)
 else (some true)))))))
theorem hd_X10_isRest : yX10_isRest.cls ≠ "java/lang/invoke/MethodHandle" ∧ yX10_isRest.cls ≠ "java/lang/invoke/VarHandle" ∧ (parseMethodDescriptor yX10_isRest.desc).map (fun d => d.parameters.length) = some 4 := by decide +kernel
set_option maxHeartbeats 4000000 in
set_option maxRecDepth 100000 in
theorem kX10_isRest {l : Launch} {D : va_G} {cyI cyZ cyW : ClassId} {zW zO : Nat} {md : Nat → Nat} {mflags : Int32} {mtubs : Int32} {mpegs : Int32} {mcl : (Nat → Int32)} {mws : (Nat → Int32)} {mho : (Nat → Int32)} {mnow : (Nat → Int32)} {mrd : (Nat → Int32)} {mrh : (Nat → Int32)} {mrf : Int32} {mtx : (Nat → Int32)} {mlen : Int32} {mat : Int32} {mfa : Int32} {mac : Int32} {mnx : Int32} {mrow : (Nat → Int32)} {msn : Int32} {mso : (Nat → Int32)} {msc : (Nat → Int32)} {msw : (Nat → Int32)} {mseed : Int64} {mik : (Nat → Int32)} {mkp : (Nat → Int32)} {x1 : Int32} {x2 : Int32} {x3 : Int32} {x4 : Int32} {res : Bool} (h : fX10_isRest x1 x2 x3 x4 mws mho = some res) : KI l yX10_isRest wsX10_isRest ({ frames := 2, cells := 0, slots := 0, locals := 45 } : Room) D (tyA cyI cyZ cyW) zW zO [.ref (md 0), .int x1, .int x2, .int x3, .int x4] (wMO cyI cyZ cyW md mflags mtubs mpegs mcl mws mho mnow mrd mrh mrf mtx mlen mat mfa mac mnx mrow msn mso msc msw mseed mik mkp) (wMO cyI cyZ cyW md mflags mtubs mpegs mcl mws mho mnow mrd mrh mrf mtx mlen mat mfa mac mnx mrow msn mso msc msw mseed mik mkp) (b2i res) := by
  refine enterI (cc := cX10_isRest) (nL := 5) (ret := (some .boolean)) (by decide) rfl (Nat.le_of_ble_eq_true rfl) (fun p e s m below meth c A C => ?_)
  refine r_lv (lv' := [(0, .ref (md 0)), (1, .int x1), (2, .int x2), (3, .int x3), (4, .int x4)]) [0, 1, 2, 3, 4] rfl ?_
  unfold fX10_isRest at h
  refine r_aload_n C dX10_isRest_0 0 rfl rfl ?_
  refine r_iload_n C dX10_isRest_1 1 rfl rfl ?_
  refine r_iload_n C dX10_isRest_2 2 rfl rfl ?_
  refine r_iconst (v := 1) C dX10_isRest_3 ic_1 ?_
  refine r_iload_n C dX10_isRest_4 3 rfl rfl ?_
  refine r_isub C dX10_isRest_5 ?_
  refine r_iload C dX10_isRest_6 4 rfl ?_
  obtain ⟨u1, hu1, h⟩ := ob_bind h
  refine r_readVI (q0 := 0) (As := [.int x1, .int x2, .int ((1 : Int32) - x3), .int x4]) (rest := []) C (kX10_gain (md := md) (mflags := mflags) (mtubs := mtubs) (mpegs := mpegs) (mcl := mcl) (mws := mws) (mho := mho) (mnow := mnow) (mrd := mrd) (mrh := mrh) (mrf := mrf) (mtx := mtx) (mlen := mlen) (mat := mat) (mfa := mfa) (mac := mac) (mnx := mnx) (mrow := mrow) (msn := msn) (mso := mso) (msc := msc) (msw := msw) (mseed := mseed) (mik := mik) (mkp := mkp) (x1 := x1) (x2 := x2) (x3 := ((1 : Int32) - x3)) (x4 := x4) hu1) gX10_isRest_X10_gain rfl rfl rfl ⟨rfl, hd_X10_gain⟩ ⟨by decide, by decide⟩ rfl rfl rfl rfl [0, 1, 2, 3, 4, 5, 6, 7, 8, 9, 10, 11, 12, 13] (by decide) in_76 rfl (Nat.le_of_ble_eq_true rfl) dX10_isRest_8 ⟨Nat.zero_le _, Nat.zero_le _⟩ ?_
  refine r_aload_n C dX10_isRest_11 0 rfl rfl ?_
  refine r_iload_n C dX10_isRest_12 1 rfl rfl ?_
  refine r_iload_n C dX10_isRest_13 2 rfl rfl ?_
  refine r_iload_n C dX10_isRest_14 3 rfl rfl ?_
  refine r_iload C dX10_isRest_15 4 rfl ?_
  obtain ⟨u2, hu2, h⟩ := ob_bind h
  refine r_readVI (q0 := 0) (As := [.int x1, .int x2, .int x3, .int x4]) (rest := [.int u1]) C (kX10_gain (md := md) (mflags := mflags) (mtubs := mtubs) (mpegs := mpegs) (mcl := mcl) (mws := mws) (mho := mho) (mnow := mnow) (mrd := mrd) (mrh := mrh) (mrf := mrf) (mtx := mtx) (mlen := mlen) (mat := mat) (mfa := mfa) (mac := mac) (mnx := mnx) (mrow := mrow) (msn := msn) (mso := mso) (msc := msc) (msw := msw) (mseed := mseed) (mik := mik) (mkp := mkp) (x1 := x1) (x2 := x2) (x3 := x3) (x4 := x4) hu2) gX10_isRest_X10_gain rfl rfl rfl ⟨rfl, hd_X10_gain⟩ ⟨by decide, by decide⟩ rfl rfl rfl rfl [0, 1, 2, 3, 4, 5, 6, 7, 8, 9, 10, 11, 12, 13] (by decide) in_76 rfl (Nat.le_of_ble_eq_true rfl) dX10_isRest_17 ⟨Nat.zero_le _, Nat.zero_le _⟩ ?_
  refine r_icmp_gt (tgt := 50) C dX10_isRest_20 (by decide) (fun c3 => ?_) (fun c3 => ?_)
  · replace h := ob_t h c3
    refine r_iconst (v := 0) C dX10_isRest_50 ic_0 ?_
    have h9 := Option.some.inj h
    subst h9
    exact r_zret (b := false) C rfl dX10_isRest_51
  · replace h := ob_f h c3
    refine r_aload_n C dX10_isRest_23 0 rfl rfl ?_
    refine r_iload_n C dX10_isRest_24 2 rfl rfl ?_
    refine r_iload_n C dX10_isRest_25 1 rfl rfl ?_
    refine r_iconst (v := 1) C dX10_isRest_26 ic_1 ?_
    refine r_iload C dX10_isRest_27 4 rfl ?_
    refine r_isub C dX10_isRest_29 ?_
    refine r_iload_n C dX10_isRest_30 3 rfl rfl ?_
    obtain ⟨u4, hu4, h⟩ := ob_bind h
    refine r_readVI (q0 := 0) (As := [.int x2, .int x1, .int ((1 : Int32) - x4), .int x3]) (rest := []) C (kX10_gain (md := md) (mflags := mflags) (mtubs := mtubs) (mpegs := mpegs) (mcl := mcl) (mws := mws) (mho := mho) (mnow := mnow) (mrd := mrd) (mrh := mrh) (mrf := mrf) (mtx := mtx) (mlen := mlen) (mat := mat) (mfa := mfa) (mac := mac) (mnx := mnx) (mrow := mrow) (msn := msn) (mso := mso) (msc := msc) (msw := msw) (mseed := mseed) (mik := mik) (mkp := mkp) (x1 := x2) (x2 := x1) (x3 := ((1 : Int32) - x4)) (x4 := x3) hu4) gX10_isRest_X10_gain rfl rfl rfl ⟨rfl, hd_X10_gain⟩ ⟨by decide, by decide⟩ rfl rfl rfl rfl [0, 1, 2, 3, 4, 5, 6, 7, 8, 9, 10, 11, 12, 13] (by decide) in_76 rfl (Nat.le_of_ble_eq_true rfl) dX10_isRest_31 ⟨Nat.zero_le _, Nat.zero_le _⟩ ?_
    refine r_aload_n C dX10_isRest_34 0 rfl rfl ?_
    refine r_iload_n C dX10_isRest_35 2 rfl rfl ?_
    refine r_iload_n C dX10_isRest_36 1 rfl rfl ?_
    refine r_iload C dX10_isRest_37 4 rfl ?_
    refine r_iload_n C dX10_isRest_39 3 rfl rfl ?_
    obtain ⟨u5, hu5, h⟩ := ob_bind h
    refine r_readVI (q0 := 0) (As := [.int x2, .int x1, .int x4, .int x3]) (rest := [.int u4]) C (kX10_gain (md := md) (mflags := mflags) (mtubs := mtubs) (mpegs := mpegs) (mcl := mcl) (mws := mws) (mho := mho) (mnow := mnow) (mrd := mrd) (mrh := mrh) (mrf := mrf) (mtx := mtx) (mlen := mlen) (mat := mat) (mfa := mfa) (mac := mac) (mnx := mnx) (mrow := mrow) (msn := msn) (mso := mso) (msc := msc) (msw := msw) (mseed := mseed) (mik := mik) (mkp := mkp) (x1 := x2) (x2 := x1) (x3 := x4) (x4 := x3) hu5) gX10_isRest_X10_gain rfl rfl rfl ⟨rfl, hd_X10_gain⟩ ⟨by decide, by decide⟩ rfl rfl rfl rfl [0, 1, 2, 3, 4, 5, 6, 7, 8, 9, 10, 11, 12, 13] (by decide) in_76 rfl (Nat.le_of_ble_eq_true rfl) dX10_isRest_40 ⟨Nat.zero_le _, Nat.zero_le _⟩ ?_
    refine r_icmp_gt (tgt := 50) C dX10_isRest_43 (by decide) (fun c6 => ?_) (fun c6 => ?_)
    · replace h := ob_t h c6
      refine r_iconst (v := 0) C dX10_isRest_50 ic_0 ?_
      have h9 := Option.some.inj h
      subst h9
      exact r_zret (b := false) C rfl dX10_isRest_51
    · replace h := ob_f h c6
      refine r_iconst (v := 1) C dX10_isRest_46 ic_1 ?_
      refine r_goto (tgt := 51) C dX10_isRest_47 (by decide) ?_
      have h9 := Option.some.inj h
      subst h9
      exact r_zret (b := true) C rfl dX10_isRest_51
