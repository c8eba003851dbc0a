/-! ===== FlagWashModel.mayHave ===== -/
def fX10_mayHave_86 (rec5 : Bool → Int32 → Option (Bool)) (x1 : Int32) (x2 : Int32) (x4 : Int32) (y0 : Bool) (mflags : Int32) (mnow : (Nat → Int32)) (msn : Int32) (mso : (Nat → Int32)) (msc : (Nat → Int32)) (msw : (Nat → Int32)) : Option (Bool) :=
 (rec5 y0 (x4 + (1 : Int32)))
def fX10_mayHave_85 (rec5 : Bool → Int32 → Option (Bool)) (x1 : Int32) (x2 : Int32) (x4 : Int32) (mflags : Int32) (mnow : (Nat → Int32)) (msn : Int32) (mso : (Nat → Int32)) (msc : (Nat → Int32)) (msw : (Nat → Int32)) : Option (Bool) :=
 (fX10_mayHave_86 rec5 x1 x2 x4 false mflags mnow msn mso msc msw)
def fX10_mayHave_81 (rec5 : Bool → Int32 → Option (Bool)) (x1 : Int32) (x2 : Int32) (x4 : Int32) (mflags : Int32) (mnow : (Nat → Int32)) (msn : Int32) (mso : (Nat → Int32)) (msc : (Nat → Int32)) (msw : (Nat → Int32)) : Option (Bool) :=
 (fX10_mayHave_86 rec5 x1 x2 x4 true mflags mnow msn mso msc msw)
def fX10_mayHave_46 (rec5 : Bool → Int32 → Option (Bool)) (x1 : Int32) (x2 : Int32) (x3 : Bool) (x4 : Int32) (y0 : Bool) (mflags : Int32) (mnow : (Nat → Int32)) (msn : Int32) (mso : (Nat → Int32)) (msc : (Nat → Int32)) (msw : (Nat → Int32)) : Option (Bool) :=
 (if x3 = true then (if y0 = true then (if inb x4 6 = true then ((fX10_coloursOf (0 : Int32) (msw x4.toNatClampNeg) mflags mnow).bind fun u9 => (if inb x4 6 = true then (if (u9 ||| x2) = (msc x4.toNatClampNeg) then (fX10_mayHave_81 rec5 x1 x2 x4 mflags mnow msn mso msc msw)
 else (fX10_mayHave_85 rec5 x1 x2 x4 mflags mnow msn mso msc msw)) else none)) else none)
 else (fX10_mayHave_81 rec5 x1 x2 x4 mflags mnow msn mso msc msw))
 else (fX10_mayHave_85 rec5 x1 x2 x4 mflags mnow msn mso msc msw))
def fX10_mayHave_45 (rec5 : Bool → Int32 → Option (Bool)) (x1 : Int32) (x2 : Int32) (x3 : Bool) (x4 : Int32) (mflags : Int32) (mnow : (Nat → Int32)) (msn : Int32) (mso : (Nat → Int32)) (msc : (Nat → Int32)) (msw : (Nat → Int32)) : Option (Bool) :=
 (fX10_mayHave_46 rec5 x1 x2 x3 x4 false mflags mnow msn mso msc msw)
def gX10_mayHave_5 (rec5 : Bool → Int32 → Option (Bool)) (x1 : Int32) (x2 : Int32) (x3 : Bool) (x4 : Int32) (mflags : Int32) (mnow : (Nat → Int32)) (msn : Int32) (mso : (Nat → Int32)) (msc : (Nat → Int32)) (msw : (Nat → Int32)) : Option (Bool) :=
 (if msn ≤ x4 then (some x3)
 else (if inb x4 6 = true then (if (mso x4.toNatClampNeg) = x1 then (if inb x4 6 = true then (if ((1 : Int32) <<< (mflags &&& 31)) ≤ (msw x4.toNatClampNeg) then (fX10_mayHave_45 rec5 x1 x2 x3 x4 mflags mnow msn mso msc msw)
 else (fX10_mayHave_46 rec5 x1 x2 x3 x4 true mflags mnow msn mso msc msw)) else none)
 else (fX10_mayHave_45 rec5 x1 x2 x3 x4 mflags mnow msn mso msc msw)) else none))
def fX10_mayHave_5  (x1 : Int32) (x2 : Int32) (mflags : Int32) (mnow : (Nat → Int32)) (msn : Int32) (mso : (Nat → Int32)) (msc : (Nat → Int32)) (msw : (Nat → Int32)) : Nat → Bool → Int32 → Option (Bool)
  | 0 => fun _ _ => none
  | n + 1 => fun x3 x4 => gX10_mayHave_5 (fX10_mayHave_5  x1 x2 mflags mnow msn mso msc msw n) x1 x2 x3 x4 mflags mnow msn mso msc msw
def fX10_mayHave  (x1 : Int32) (x2 : Int32) (mflags : Int32) (mnow : (Nat → Int32)) (msn : Int32) (mso : (Nat → Int32)) (msc : (Nat → Int32)) (msw : (Nat → Int32)) : Option (Bool) :=
 (fX10_mayHave_5  x1 x2 mflags mnow msn mso msc msw FU true (0 : Int32))
theorem hinX10_mayHave_X10 : ∀ w ∈ u_ws RX10 TX10 24, w ∈ wsX10_mayHave := fun w h => List.mem_cons_of_mem _ (List.mem_append_right _ h)
theorem mX10_mayHave_1 : Cond.fieldLink RX10 172 "FlagWashModel" "seen" "I" ∈ wsX10_mayHave := List.mem_of_getElem? (i := 1) rfl
theorem mX10_mayHave_2 : Cond.fieldLink RX10 34 "FlagWashModel" "seenOf" "[I" ∈ wsX10_mayHave := List.mem_of_getElem? (i := 2) rfl
theorem mX10_mayHave_3 : Cond.fieldLink RX10 40 "FlagWashModel" "seenWith" "[I" ∈ wsX10_mayHave := List.mem_of_getElem? (i := 3) rfl
theorem mX10_mayHave_4 : Cond.fieldLink RX10 101 "FlagWashModel" "flags" "I" ∈ wsX10_mayHave := List.mem_of_getElem? (i := 4) rfl
theorem mX10_mayHave_5 : Cond.fieldLink RX10 37 "FlagWashModel" "seenColours" "[I" ∈ wsX10_mayHave := List.mem_of_getElem? (i := 5) rfl
theorem hd_X10_mayHave : yX10_mayHave.cls ≠ "java/lang/invoke/MethodHandle" ∧ yX10_mayHave.cls ≠ "java/lang/invoke/VarHandle" ∧ (parseMethodDescriptor yX10_mayHave.desc).map (fun d => d.parameters.length) = some 2 := by decide +kernel
set_option maxHeartbeats 4000000 in
set_option maxRecDepth 100000 in
theorem LX10_mayHave_86 {p : Program} {l : Launch} {e : Env} {s : State} {m : MethodId} {args : Array Value} {below : List Frame} {meth : Method} {c : Code} {D : va_G} {cyI cyZ cyW : ClassId} {zW zO : Nat} {A : Nat → Prop} (C : Cx p s m args meth c cX10_mayHave RX10 "mayHave" wsX10_mayHave (some .boolean) 6 D (tyA cyI cyZ cyW) zW zO A) {md : Nat → Nat} {mflags : Int32} {mtubs : Int32} {mpegs : Int32} {mcl : (Nat → Int32)} {mws : (Nat → Int32)} {mho : (Nat → Int32)} {mnow : (Nat → Int32)} {mrd : (Nat → Int32)} {mrh : (Nat → Int32)} {mrf : Int32} {mtx : (Nat → Int32)} {mlen : Int32} {mat : Int32} {mfa : Int32} {mac : Int32} {mnx : Int32} {mrow : (Nat → Int32)} {msn : Int32} {mso : (Nat → Int32)} {msc : (Nat → Int32)} {msw : (Nat → Int32)} {mseed : Int64} {mik : (Nat → Int32)} {mkp : (Nat → Int32)} {x1 : Int32} {x2 : Int32} {x4 : Int32} {y0 : Bool} {rec5 : Bool → Int32 → Option (Bool)} {res : Bool} (hrec5 : ∀ (x3 : Bool) (x4 : Int32), rec5 x3 x4 = some res → Mx p l e ({ frames := 2, cells := 0, slots := 0, locals := 45 } : Room) s m args below meth c (MQ below (QI D (tyA cyI cyZ cyW) A (wMO cyI cyZ cyW md mflags mtubs mpegs mcl mws mho mnow mrd mrh mrf mtx mlen mat mfa mac mnx mrow msn mso msc msw mseed mik mkp) (b2i res)) args s 0 0 A) 6 D A 0 0 (wMO cyI cyZ cyW md mflags mtubs mpegs mcl mws mho mnow mrd mrh mrf mtx mlen mat mfa mac mnx mrow msn mso msc msw mseed mik mkp) 5 [(0, .ref (md 0)), (1, .int x1), (2, .int x2), (3, .int (b2i x3)), (4, .int x4)] []) (h : fX10_mayHave_86 rec5 x1 x2 x4 y0 mflags mnow msn mso msc msw = some res) : Mx p l e ({ frames := 2, cells := 0, slots := 0, locals := 45 } : Room) s m args below meth c (MQ below (QI D (tyA cyI cyZ cyW) A (wMO cyI cyZ cyW md mflags mtubs mpegs mcl mws mho mnow mrd mrh mrf mtx mlen mat mfa mac mnx mrow msn mso msc msw mseed mik mkp) (b2i res)) args s 0 0 A) 6 D A 0 0 (wMO cyI cyZ cyW md mflags mtubs mpegs mcl mws mho mnow mrd mrh mrf mtx mlen mat mfa mac mnx mrow msn mso msc msw mseed mik mkp) 86 [(0, .ref (md 0)), (1, .int x1), (2, .int x2), (4, .int x4)] [.int (b2i y0)] := by
  unfold fX10_mayHave_86 at h
  refine r_istore_n (lv' := [(3, .int (b2i y0)), (0, .ref (md 0)), (1, .int x1), (2, .int x2), (4, .int x4)]) C dX10_mayHave_86 rfl (by decide) rfl ?_
  refine r_iinc (v := 1) (lv' := [(4, .int (x4 + (1 : Int32))), (3, .int (b2i y0)), (0, .ref (md 0)), (1, .int x1), (2, .int x2)]) C dX10_mayHave_87 4 rfl ic_1 (by decide) rfl ?_
  refine r_goto (tgt := 5) C dX10_mayHave_90 (by decide) ?_
  refine r_lv (lv' := [(0, .ref (md 0)), (1, .int x1), (2, .int x2), (3, .int (b2i y0)), (4, .int (x4 + (1 : Int32)))]) [2, 3, 4, 1, 0] rfl ?_
  exact hrec5 y0 (x4 + (1 : Int32)) h
set_option maxHeartbeats 4000000 in
set_option maxRecDepth 100000 in
theorem LX10_mayHave_85 {p : Program} {l : Launch} {e : Env} {s : State} {m : MethodId} {args : Array Value} {below : List Frame} {meth : Method} {c : Code} {D : va_G} {cyI cyZ cyW : ClassId} {zW zO : Nat} {A : Nat → Prop} (C : Cx p s m args meth c cX10_mayHave RX10 "mayHave" wsX10_mayHave (some .boolean) 6 D (tyA cyI cyZ cyW) zW zO A) {md : Nat → Nat} {mflags : Int32} {mtubs : Int32} {mpegs : Int32} {mcl : (Nat → Int32)} {mws : (Nat → Int32)} {mho : (Nat → Int32)} {mnow : (Nat → Int32)} {mrd : (Nat → Int32)} {mrh : (Nat → Int32)} {mrf : Int32} {mtx : (Nat → Int32)} {mlen : Int32} {mat : Int32} {mfa : Int32} {mac : Int32} {mnx : Int32} {mrow : (Nat → Int32)} {msn : Int32} {mso : (Nat → Int32)} {msc : (Nat → Int32)} {msw : (Nat → Int32)} {mseed : Int64} {mik : (Nat → Int32)} {mkp : (Nat → Int32)} {x1 : Int32} {x2 : Int32} {x4 : Int32} {rec5 : Bool → Int32 → Option (Bool)} {res : Bool} (hrec5 : ∀ (x3 : Bool) (x4 : Int32), rec5 x3 x4 = some res → Mx p l e ({ frames := 2, cells := 0, slots := 0, locals := 45 } : Room) s m args below meth c (MQ below (QI D (tyA cyI cyZ cyW) A (wMO cyI cyZ cyW md mflags mtubs mpegs mcl mws mho mnow mrd mrh mrf mtx mlen mat mfa mac mnx mrow msn mso msc msw mseed mik mkp) (b2i res)) args s 0 0 A) 6 D A 0 0 (wMO cyI cyZ cyW md mflags mtubs mpegs mcl mws mho mnow mrd mrh mrf mtx mlen mat mfa mac mnx mrow msn mso msc msw mseed mik mkp) 5 [(0, .ref (md 0)), (1, .int x1), (2, .int x2), (3, .int (b2i x3)), (4, .int x4)] []) (h : fX10_mayHave_85 rec5 x1 x2 x4 mflags mnow msn mso msc msw = some res) : Mx p l e ({ frames := 2, cells := 0, slots := 0, locals := 45 } : Room) s m args below meth c (MQ below (QI D (tyA cyI cyZ cyW) A (wMO cyI cyZ cyW md mflags mtubs mpegs mcl mws mho mnow mrd mrh mrf mtx mlen mat mfa mac mnx mrow msn mso msc msw mseed mik mkp) (b2i res)) args s 0 0 A) 6 D A 0 0 (wMO cyI cyZ cyW md mflags mtubs mpegs mcl mws mho mnow mrd mrh mrf mtx mlen mat mfa mac mnx mrow msn mso msc msw mseed mik mkp) 85 [(0, .ref (md 0)), (1, .int x1), (2, .int x2), (4, .int x4)] [] := by
  unfold fX10_mayHave_85 at h
  refine r_iconst (v := 0) C dX10_mayHave_85 ic_0 ?_
  refine r_lv (lv' := [(0, .ref (md 0)), (1, .int x1), (2, .int x2), (4, .int x4)]) [0, 1, 2, 3] rfl ?_
  exact LX10_mayHave_86 C (x1 := x1) (x2 := x2) (x4 := x4) (y0 := false) (mflags := mflags) (mtubs := mtubs) (mpegs := mpegs) (mcl := mcl) (mws := mws) (mho := mho) (mnow := mnow) (mrd := mrd) (mrh := mrh) (mrf := mrf) (mtx := mtx) (mlen := mlen) (mat := mat) (mfa := mfa) (mac := mac) (mnx := mnx) (mrow := mrow) (msn := msn) (mso := mso) (msc := msc) (msw := msw) (mseed := mseed) (mik := mik) (mkp := mkp) hrec5 h
set_option maxHeartbeats 4000000 in
set_option maxRecDepth 100000 in
theorem LX10_mayHave_81 {p : Program} {l : Launch} {e : Env} {s : State} {m : MethodId} {args : Array Value} {below : List Frame} {meth : Method} {c : Code} {D : va_G} {cyI cyZ cyW : ClassId} {zW zO : Nat} {A : Nat → Prop} (C : Cx p s m args meth c cX10_mayHave RX10 "mayHave" wsX10_mayHave (some .boolean) 6 D (tyA cyI cyZ cyW) zW zO A) {md : Nat → Nat} {mflags : Int32} {mtubs : Int32} {mpegs : Int32} {mcl : (Nat → Int32)} {mws : (Nat → Int32)} {mho : (Nat → Int32)} {mnow : (Nat → Int32)} {mrd : (Nat → Int32)} {mrh : (Nat → Int32)} {mrf : Int32} {mtx : (Nat → Int32)} {mlen : Int32} {mat : Int32} {mfa : Int32} {mac : Int32} {mnx : Int32} {mrow : (Nat → Int32)} {msn : Int32} {mso : (Nat → Int32)} {msc : (Nat → Int32)} {msw : (Nat → Int32)} {mseed : Int64} {mik : (Nat → Int32)} {mkp : (Nat → Int32)} {x1 : Int32} {x2 : Int32} {x4 : Int32} {rec5 : Bool → Int32 → Option (Bool)} {res : Bool} (hrec5 : ∀ (x3 : Bool) (x4 : Int32), rec5 x3 x4 = some res → Mx p l e ({ frames := 2, cells := 0, slots := 0, locals := 45 } : Room) s m args below meth c (MQ below (QI D (tyA cyI cyZ cyW) A (wMO cyI cyZ cyW md mflags mtubs mpegs mcl mws mho mnow mrd mrh mrf mtx mlen mat mfa mac mnx mrow msn mso msc msw mseed mik mkp) (b2i res)) args s 0 0 A) 6 D A 0 0 (wMO cyI cyZ cyW md mflags mtubs mpegs mcl mws mho mnow mrd mrh mrf mtx mlen mat mfa mac mnx mrow msn mso msc msw mseed mik mkp) 5 [(0, .ref (md 0)), (1, .int x1), (2, .int x2), (3, .int (b2i x3)), (4, .int x4)] []) (h : fX10_mayHave_81 rec5 x1 x2 x4 mflags mnow msn mso msc msw = some res) : Mx p l e ({ frames := 2, cells := 0, slots := 0, locals := 45 } : Room) s m args below meth c (MQ below (QI D (tyA cyI cyZ cyW) A (wMO cyI cyZ cyW md mflags mtubs mpegs mcl mws mho mnow mrd mrh mrf mtx mlen mat mfa mac mnx mrow msn mso msc msw mseed mik mkp) (b2i res)) args s 0 0 A) 6 D A 0 0 (wMO cyI cyZ cyW md mflags mtubs mpegs mcl mws mho mnow mrd mrh mrf mtx mlen mat mfa mac mnx mrow msn mso msc msw mseed mik mkp) 81 [(0, .ref (md 0)), (1, .int x1), (2, .int x2), (4, .int x4)] [] := by
  unfold fX10_mayHave_81 at h
  refine r_iconst (v := 1) C dX10_mayHave_81 ic_1 ?_
  refine r_goto (tgt := 86) C dX10_mayHave_82 (by decide) ?_
  refine r_lv (lv' := [(0, .ref (md 0)), (1, .int x1), (2, .int x2), (4, .int x4)]) [0, 1, 2, 3] rfl ?_
  exact LX10_mayHave_86 C (x1 := x1) (x2 := x2) (x4 := x4) (y0 := true) (mflags := mflags) (mtubs := mtubs) (mpegs := mpegs) (mcl := mcl) (mws := mws) (mho := mho) (mnow := mnow) (mrd := mrd) (mrh := mrh) (mrf := mrf) (mtx := mtx) (mlen := mlen) (mat := mat) (mfa := mfa) (mac := mac) (mnx := mnx) (mrow := mrow) (msn := msn) (mso := mso) (msc := msc) (msw := msw) (mseed := mseed) (mik := mik) (mkp := mkp) hrec5 h
set_option maxHeartbeats 4000000 in
set_option maxRecDepth 100000 in
theorem LX10_mayHave_46 {p : Program} {l : Launch} {e : Env} {s : State} {m : MethodId} {args : Array Value} {below : List Frame} {meth : Method} {c : Code} {D : va_G} {cyI cyZ cyW : ClassId} {zW zO : Nat} {A : Nat → Prop} (C : Cx p s m args meth c cX10_mayHave RX10 "mayHave" wsX10_mayHave (some .boolean) 6 D (tyA cyI cyZ cyW) zW zO A) {md : Nat → Nat} {mflags : Int32} {mtubs : Int32} {mpegs : Int32} {mcl : (Nat → Int32)} {mws : (Nat → Int32)} {mho : (Nat → Int32)} {mnow : (Nat → Int32)} {mrd : (Nat → Int32)} {mrh : (Nat → Int32)} {mrf : Int32} {mtx : (Nat → Int32)} {mlen : Int32} {mat : Int32} {mfa : Int32} {mac : Int32} {mnx : Int32} {mrow : (Nat → Int32)} {msn : Int32} {mso : (Nat → Int32)} {msc : (Nat → Int32)} {msw : (Nat → Int32)} {mseed : Int64} {mik : (Nat → Int32)} {mkp : (Nat → Int32)} {x1 : Int32} {x2 : Int32} {x3 : Bool} {x4 : Int32} {y0 : Bool} {rec5 : Bool → Int32 → Option (Bool)} {res : Bool} (hrec5 : ∀ (x3 : Bool) (x4 : Int32), rec5 x3 x4 = some res → Mx p l e ({ frames := 2, cells := 0, slots := 0, locals := 45 } : Room) s m args below meth c (MQ below (QI D (tyA cyI cyZ cyW) A (wMO cyI cyZ cyW md mflags mtubs mpegs mcl mws mho mnow mrd mrh mrf mtx mlen mat mfa mac mnx mrow msn mso msc msw mseed mik mkp) (b2i res)) args s 0 0 A) 6 D A 0 0 (wMO cyI cyZ cyW md mflags mtubs mpegs mcl mws mho mnow mrd mrh mrf mtx mlen mat mfa mac mnx mrow msn mso msc msw mseed mik mkp) 5 [(0, .ref (md 0)), (1, .int x1), (2, .int x2), (3, .int (b2i x3)), (4, .int x4)] []) (h : fX10_mayHave_46 rec5 x1 x2 x3 x4 y0 mflags mnow msn mso msc msw = some res) : Mx p l e ({ frames := 2, cells := 0, slots := 0, locals := 45 } : Room) s m args below meth c (MQ below (QI D (tyA cyI cyZ cyW) A (wMO cyI cyZ cyW md mflags mtubs mpegs mcl mws mho mnow mrd mrh mrf mtx mlen mat mfa mac mnx mrow msn mso msc msw mseed mik mkp) (b2i res)) args s 0 0 A) 6 D A 0 0 (wMO cyI cyZ cyW md mflags mtubs mpegs mcl mws mho mnow mrd mrh mrf mtx mlen mat mfa mac mnx mrow msn mso msc msw mseed mik mkp) 46 [(0, .ref (md 0)), (1, .int x1), (2, .int x2), (3, .int (b2i x3)), (4, .int x4)] [.int (b2i y0)] := by
  unfold fX10_mayHave_46 at h
  refine r_istore (lv' := [(5, .int (b2i y0)), (0, .ref (md 0)), (1, .int x1), (2, .int x2), (3, .int (b2i x3)), (4, .int x4)]) C dX10_mayHave_46 (by decide) rfl ?_
  refine r_iload_n C dX10_mayHave_48 4 rfl rfl ?_
  refine r_ifb_eq (tgt := 85) C dX10_mayHave_49 (by decide) (fun c6 => ?_) (fun c6 => ?_)
  · replace h := ob_bf h c6
    refine r_lv (lv' := [(0, .ref (md 0)), (1, .int x1), (2, .int x2), (4, .int x4)]) [1, 2, 3, 5] rfl ?_
    exact LX10_mayHave_85 C (x1 := x1) (x2 := x2) (x4 := x4) (mflags := mflags) (mtubs := mtubs) (mpegs := mpegs) (mcl := mcl) (mws := mws) (mho := mho) (mnow := mnow) (mrd := mrd) (mrh := mrh) (mrf := mrf) (mtx := mtx) (mlen := mlen) (mat := mat) (mfa := mfa) (mac := mac) (mnx := mnx) (mrow := mrow) (msn := msn) (mso := mso) (msc := msc) (msw := msw) (mseed := mseed) (mik := mik) (mkp := mkp) hrec5 h
  · replace h := ob_t h c6
    refine r_iload C dX10_mayHave_52 0 rfl ?_
    refine r_ifb_eq (tgt := 81) C dX10_mayHave_54 (by decide) (fun c7 => ?_) (fun c7 => ?_)
    · replace h := ob_bf h c7
      refine r_lv (lv' := [(0, .ref (md 0)), (1, .int x1), (2, .int x2), (4, .int x4)]) [1, 2, 3, 5] rfl ?_
      exact LX10_mayHave_81 C (x1 := x1) (x2 := x2) (x4 := x4) (mflags := mflags) (mtubs := mtubs) (mpegs := mpegs) (mcl := mcl) (mws := mws) (mho := mho) (mnow := mnow) (mrd := mrd) (mrh := mrh) (mrf := mrf) (mtx := mtx) (mlen := mlen) (mat := mat) (mfa := mfa) (mac := mac) (mnx := mnx) (mrow := mrow) (msn := msn) (mso := mso) (msc := msc) (msw := msw) (mseed := mseed) (mik := mik) (mkp := mkp) hrec5 h
    · replace h := ob_t h c7
      refine r_aload_n C dX10_mayHave_57 1 rfl rfl ?_
      refine r_iconst (v := 0) C dX10_mayHave_58 ic_0 ?_
      refine r_aload_n C dX10_mayHave_59 1 rfl rfl ?_
      refine r_get (ci := 7) (CC := RX10) (T := TX10) (N := 24) (v := .ref (md 11)) C hinX10_mayHave_X10 0 rfl rfl 20 (by decide) mX10_mayHave_3 rfl rfl dX10_mayHave_60 ?_
      refine r_iload C dX10_mayHave_63 5 rfl ?_
      obtain ⟨hu8, h⟩ := ob_if h
      refine r_iald C 11 0 rfl rfl (inb_vp hu8) dX10_mayHave_65 ?_
      obtain ⟨u9, hu9, h⟩ := ob_bind h
      refine r_readVI (q0 := 0) (As := [.int (0 : Int32), .int (msw x4.toNatClampNeg)]) (rest := []) C (kX10_coloursOf (md := md) (mflags := mflags) (mtubs := mtubs) (mpegs := mpegs) (mcl := mcl) (mws := mws) (mho := mho) (mnow := mnow) (mrd := mrd) (mrh := mrh) (mrf := mrf) (mtx := mtx) (mlen := mlen) (mat := mat) (mfa := mfa) (mac := mac) (mnx := mnx) (mrow := mrow) (msn := msn) (mso := mso) (msc := msc) (msw := msw) (mseed := mseed) (mik := mik) (mkp := mkp) (x1 := (0 : Int32)) (x2 := (msw x4.toNatClampNeg)) hu9) gX10_mayHave_X10_coloursOf rfl rfl rfl ⟨rfl, hd_X10_coloursOf⟩ ⟨by decide, by decide⟩ rfl rfl rfl rfl [0, 1, 2, 3, 4, 5, 6, 7, 8, 9, 10, 11, 12, 13] (by decide) in_76 rfl (Nat.le_of_ble_eq_true rfl) dX10_mayHave_66 ⟨Nat.zero_le _, Nat.zero_le _⟩ ?_
      refine r_iload_n C dX10_mayHave_69 3 rfl rfl ?_
      refine r_ior C dX10_mayHave_70 ?_
      refine r_aload_n C dX10_mayHave_71 1 rfl rfl ?_
      refine r_get (ci := 7) (CC := RX10) (T := TX10) (N := 24) (v := .ref (md 10)) C hinX10_mayHave_X10 0 rfl rfl 19 (by decide) mX10_mayHave_5 rfl rfl dX10_mayHave_72 ?_
      refine r_iload C dX10_mayHave_75 5 rfl ?_
      obtain ⟨hu10, h⟩ := ob_if h
      refine r_iald C 10 0 rfl rfl (inb_vp hu10) dX10_mayHave_77 ?_
      refine r_icmp_ne (tgt := 85) C dX10_mayHave_78 (by decide) (fun c11 => ?_) (fun c11 => ?_)
      · replace h := ob_f h c11
        refine r_lv (lv' := [(0, .ref (md 0)), (1, .int x1), (2, .int x2), (4, .int x4)]) [1, 2, 3, 5] rfl ?_
        exact LX10_mayHave_85 C (x1 := x1) (x2 := x2) (x4 := x4) (mflags := mflags) (mtubs := mtubs) (mpegs := mpegs) (mcl := mcl) (mws := mws) (mho := mho) (mnow := mnow) (mrd := mrd) (mrh := mrh) (mrf := mrf) (mtx := mtx) (mlen := mlen) (mat := mat) (mfa := mfa) (mac := mac) (mnx := mnx) (mrow := mrow) (msn := msn) (mso := mso) (msc := msc) (msw := msw) (mseed := mseed) (mik := mik) (mkp := mkp) hrec5 h
      · replace h := ob_t h c11
        refine r_lv (lv' := [(0, .ref (md 0)), (1, .int x1), (2, .int x2), (4, .int x4)]) [1, 2, 3, 5] rfl ?_
        exact LX10_mayHave_81 C (x1 := x1) (x2 := x2) (x4 := x4) (mflags := mflags) (mtubs := mtubs) (mpegs := mpegs) (mcl := mcl) (mws := mws) (mho := mho) (mnow := mnow) (mrd := mrd) (mrh := mrh) (mrf := mrf) (mtx := mtx) (mlen := mlen) (mat := mat) (mfa := mfa) (mac := mac) (mnx := mnx) (mrow := mrow) (msn := msn) (mso := mso) (msc := msc) (msw := msw) (mseed := mseed) (mik := mik) (mkp := mkp) hrec5 h
set_option maxHeartbeats 4000000 in
set_option maxRecDepth 100000 in
theorem LX10_mayHave_45 {p : Program} {l : Launch} {e : Env} {s : State} {m : MethodId} {args : Array Value} {below : List Frame} {meth : Method} {c : Code} {D : va_G} {cyI cyZ cyW : ClassId} {zW zO : Nat} {A : Nat → Prop} (C : Cx p s m args meth c cX10_mayHave RX10 "mayHave" wsX10_mayHave (some .boolean) 6 D (tyA cyI cyZ cyW) zW zO A) {md : Nat → Nat} {mflags : Int32} {mtubs : Int32} {mpegs : Int32} {mcl : (Nat → Int32)} {mws : (Nat → Int32)} {mho : (Nat → Int32)} {mnow : (Nat → Int32)} {mrd : (Nat → Int32)} {mrh : (Nat → Int32)} {mrf : Int32} {mtx : (Nat → Int32)} {mlen : Int32} {mat : Int32} {mfa : Int32} {mac : Int32} {mnx : Int32} {mrow : (Nat → Int32)} {msn : Int32} {mso : (Nat → Int32)} {msc : (Nat → Int32)} {msw : (Nat → Int32)} {mseed : Int64} {mik : (Nat → Int32)} {mkp : (Nat → Int32)} {x1 : Int32} {x2 : Int32} {x3 : Bool} {x4 : Int32} {rec5 : Bool → Int32 → Option (Bool)} {res : Bool} (hrec5 : ∀ (x3 : Bool) (x4 : Int32), rec5 x3 x4 = some res → Mx p l e ({ frames := 2, cells := 0, slots := 0, locals := 45 } : Room) s m args below meth c (MQ below (QI D (tyA cyI cyZ cyW) A (wMO cyI cyZ cyW md mflags mtubs mpegs mcl mws mho mnow mrd mrh mrf mtx mlen mat mfa mac mnx mrow msn mso msc msw mseed mik mkp) (b2i res)) args s 0 0 A) 6 D A 0 0 (wMO cyI cyZ cyW md mflags mtubs mpegs mcl mws mho mnow mrd mrh mrf mtx mlen mat mfa mac mnx mrow msn mso msc msw mseed mik mkp) 5 [(0, .ref (md 0)), (1, .int x1), (2, .int x2), (3, .int (b2i x3)), (4, .int x4)] []) (h : fX10_mayHave_45 rec5 x1 x2 x3 x4 mflags mnow msn mso msc msw = some res) : Mx p l e ({ frames := 2, cells := 0, slots := 0, locals := 45 } : Room) s m args below meth c (MQ below (QI D (tyA cyI cyZ cyW) A (wMO cyI cyZ cyW md mflags mtubs mpegs mcl mws mho mnow mrd mrh mrf mtx mlen mat mfa mac mnx mrow msn mso msc msw mseed mik mkp) (b2i res)) args s 0 0 A) 6 D A 0 0 (wMO cyI cyZ cyW md mflags mtubs mpegs mcl mws mho mnow mrd mrh mrf mtx mlen mat mfa mac mnx mrow msn mso msc msw mseed mik mkp) 45 [(0, .ref (md 0)), (1, .int x1), (2, .int x2), (3, .int (b2i x3)), (4, .int x4)] [] := by
  unfold fX10_mayHave_45 at h
  refine r_iconst (v := 0) C dX10_mayHave_45 ic_0 ?_
  refine r_lv (lv' := [(0, .ref (md 0)), (1, .int x1), (2, .int x2), (3, .int (b2i x3)), (4, .int x4)]) [0, 1, 2, 3, 4] rfl ?_
  exact LX10_mayHave_46 C (x1 := x1) (x2 := x2) (x3 := x3) (x4 := x4) (y0 := false) (mflags := mflags) (mtubs := mtubs) (mpegs := mpegs) (mcl := mcl) (mws := mws) (mho := mho) (mnow := mnow) (mrd := mrd) (mrh := mrh) (mrf := mrf) (mtx := mtx) (mlen := mlen) (mat := mat) (mfa := mfa) (mac := mac) (mnx := mnx) (mrow := mrow) (msn := msn) (mso := mso) (msc := msc) (msw := msw) (mseed := mseed) (mik := mik) (mkp := mkp) hrec5 h
set_option maxHeartbeats 4000000 in
set_option maxRecDepth 100000 in
theorem LGX10_mayHave_5 {p : Program} {l : Launch} {e : Env} {s : State} {m : MethodId} {args : Array Value} {below : List Frame} {meth : Method} {c : Code} {D : va_G} {cyI cyZ cyW : ClassId} {zW zO : Nat} {A : Nat → Prop} (C : Cx p s m args meth c cX10_mayHave RX10 "mayHave" wsX10_mayHave (some .boolean) 6 D (tyA cyI cyZ cyW) zW zO A) {md : Nat → Nat} {mflags : Int32} {mtubs : Int32} {mpegs : Int32} {mcl : (Nat → Int32)} {mws : (Nat → Int32)} {mho : (Nat → Int32)} {mnow : (Nat → Int32)} {mrd : (Nat → Int32)} {mrh : (Nat → Int32)} {mrf : Int32} {mtx : (Nat → Int32)} {mlen : Int32} {mat : Int32} {mfa : Int32} {mac : Int32} {mnx : Int32} {mrow : (Nat → Int32)} {msn : Int32} {mso : (Nat → Int32)} {msc : (Nat → Int32)} {msw : (Nat → Int32)} {mseed : Int64} {mik : (Nat → Int32)} {mkp : (Nat → Int32)} {x1 : Int32} {x2 : Int32} {x3 : Bool} {x4 : Int32} {rec5 : Bool → Int32 → Option (Bool)} {res : Bool} (hrec5 : ∀ (x3 : Bool) (x4 : Int32), rec5 x3 x4 = some res → Mx p l e ({ frames := 2, cells := 0, slots := 0, locals := 45 } : Room) s m args below meth c (MQ below (QI D (tyA cyI cyZ cyW) A (wMO cyI cyZ cyW md mflags mtubs mpegs mcl mws mho mnow mrd mrh mrf mtx mlen mat mfa mac mnx mrow msn mso msc msw mseed mik mkp) (b2i res)) args s 0 0 A) 6 D A 0 0 (wMO cyI cyZ cyW md mflags mtubs mpegs mcl mws mho mnow mrd mrh mrf mtx mlen mat mfa mac mnx mrow msn mso msc msw mseed mik mkp) 5 [(0, .ref (md 0)), (1, .int x1), (2, .int x2), (3, .int (b2i x3)), (4, .int x4)] []) (h : gX10_mayHave_5 rec5 x1 x2 x3 x4 mflags mnow msn mso msc msw = some res) : Mx p l e ({ frames := 2, cells := 0, slots := 0, locals := 45 } : Room) s m args below meth c (MQ below (QI D (tyA cyI cyZ cyW) A (wMO cyI cyZ cyW md mflags mtubs mpegs mcl mws mho mnow mrd mrh mrf mtx mlen mat mfa mac mnx mrow msn mso msc msw mseed mik mkp) (b2i res)) args s 0 0 A) 6 D A 0 0 (wMO cyI cyZ cyW md mflags mtubs mpegs mcl mws mho mnow mrd mrh mrf mtx mlen mat mfa mac mnx mrow msn mso msc msw mseed mik mkp) 5 [(0, .ref (md 0)), (1, .int x1), (2, .int x2), (3, .int (b2i x3)), (4, .int x4)] [] := by
  unfold gX10_mayHave_5 at h
  refine r_iload C dX10_mayHave_5 4 rfl ?_
  refine r_aload_n C dX10_mayHave_7 0 rfl rfl ?_
  refine r_get (ci := 7) (CC := RX10) (T := TX10) (N := 24) (v := .int msn) C hinX10_mayHave_X10 0 rfl rfl 17 (by decide) mX10_mayHave_1 rfl rfl dX10_mayHave_8 ?_
  refine r_icmp_ge (tgt := 93) C dX10_mayHave_11 (by decide) (fun c1 => ?_) (fun c1 => ?_)
  · replace h := ob_t h c1
    refine r_iload_n C dX10_mayHave_93 3 rfl rfl ?_
    have h9 := Option.some.inj h
    subst h9
    exact r_zret (b := x3) C rfl dX10_mayHave_94
  · replace h := ob_f h c1
    refine r_aload_n C dX10_mayHave_14 0 rfl rfl ?_
    refine r_get (ci := 7) (CC := RX10) (T := TX10) (N := 24) (v := .ref (md 9)) C hinX10_mayHave_X10 0 rfl rfl 18 (by decide) mX10_mayHave_2 rfl rfl dX10_mayHave_15 ?_
    refine r_iload C dX10_mayHave_18 4 rfl ?_
    obtain ⟨hu2, h⟩ := ob_if h
    refine r_iald C 9 0 rfl rfl (inb_vp hu2) dX10_mayHave_20 ?_
    refine r_iload_n C dX10_mayHave_21 1 rfl rfl ?_
    refine r_icmp_ne (tgt := 45) C dX10_mayHave_22 (by decide) (fun c3 => ?_) (fun c3 => ?_)
    · replace h := ob_f h c3
      refine r_lv (lv' := [(0, .ref (md 0)), (1, .int x1), (2, .int x2), (3, .int (b2i x3)), (4, .int x4)]) [0, 1, 2, 3, 4] rfl ?_
      exact LX10_mayHave_45 C (x1 := x1) (x2 := x2) (x3 := x3) (x4 := x4) (mflags := mflags) (mtubs := mtubs) (mpegs := mpegs) (mcl := mcl) (mws := mws) (mho := mho) (mnow := mnow) (mrd := mrd) (mrh := mrh) (mrf := mrf) (mtx := mtx) (mlen := mlen) (mat := mat) (mfa := mfa) (mac := mac) (mnx := mnx) (mrow := mrow) (msn := msn) (mso := mso) (msc := msc) (msw := msw) (mseed := mseed) (mik := mik) (mkp := mkp) hrec5 h
    · replace h := ob_t h c3
      refine r_aload_n C dX10_mayHave_25 0 rfl rfl ?_
      refine r_get (ci := 7) (CC := RX10) (T := TX10) (N := 24) (v := .ref (md 11)) C hinX10_mayHave_X10 0 rfl rfl 20 (by decide) mX10_mayHave_3 rfl rfl dX10_mayHave_26 ?_
      refine r_iload C dX10_mayHave_29 4 rfl ?_
      obtain ⟨hu4, h⟩ := ob_if h
      refine r_iald C 11 0 rfl rfl (inb_vp hu4) dX10_mayHave_31 ?_
      refine r_iconst (v := 1) C dX10_mayHave_32 ic_1 ?_
      refine r_aload_n C dX10_mayHave_33 0 rfl rfl ?_
      refine r_get (ci := 7) (CC := RX10) (T := TX10) (N := 24) (v := .int mflags) C hinX10_mayHave_X10 0 rfl rfl 0 (by decide) mX10_mayHave_4 rfl rfl dX10_mayHave_34 ?_
      refine r_ishl C dX10_mayHave_37 ?_
      refine r_icmp_ge (tgt := 45) C dX10_mayHave_38 (by decide) (fun c5 => ?_) (fun c5 => ?_)
      · replace h := ob_t h c5
        refine r_lv (lv' := [(0, .ref (md 0)), (1, .int x1), (2, .int x2), (3, .int (b2i x3)), (4, .int x4)]) [0, 1, 2, 3, 4] rfl ?_
        exact LX10_mayHave_45 C (x1 := x1) (x2 := x2) (x3 := x3) (x4 := x4) (mflags := mflags) (mtubs := mtubs) (mpegs := mpegs) (mcl := mcl) (mws := mws) (mho := mho) (mnow := mnow) (mrd := mrd) (mrh := mrh) (mrf := mrf) (mtx := mtx) (mlen := mlen) (mat := mat) (mfa := mfa) (mac := mac) (mnx := mnx) (mrow := mrow) (msn := msn) (mso := mso) (msc := msc) (msw := msw) (mseed := mseed) (mik := mik) (mkp := mkp) hrec5 h
      · replace h := ob_f h c5
        refine r_iconst (v := 1) C dX10_mayHave_41 ic_1 ?_
        refine r_goto (tgt := 46) C dX10_mayHave_42 (by decide) ?_
        refine r_lv (lv' := [(0, .ref (md 0)), (1, .int x1), (2, .int x2), (3, .int (b2i x3)), (4, .int x4)]) [0, 1, 2, 3, 4] rfl ?_
        exact LX10_mayHave_46 C (x1 := x1) (x2 := x2) (x3 := x3) (x4 := x4) (y0 := true) (mflags := mflags) (mtubs := mtubs) (mpegs := mpegs) (mcl := mcl) (mws := mws) (mho := mho) (mnow := mnow) (mrd := mrd) (mrh := mrh) (mrf := mrf) (mtx := mtx) (mlen := mlen) (mat := mat) (mfa := mfa) (mac := mac) (mnx := mnx) (mrow := mrow) (msn := msn) (mso := mso) (msc := msc) (msw := msw) (mseed := mseed) (mik := mik) (mkp := mkp) hrec5 h
set_option maxHeartbeats 4000000 in
set_option maxRecDepth 100000 in
theorem LX10_mayHave_5 {p : Program} {l : Launch} {e : Env} {s : State} {m : MethodId} {args : Array Value} {below : List Frame} {meth : Method} {c : Code} {D : va_G} {cyI cyZ cyW : ClassId} {zW zO : Nat} {A : Nat → Prop} (C : Cx p s m args meth c cX10_mayHave RX10 "mayHave" wsX10_mayHave (some .boolean) 6 D (tyA cyI cyZ cyW) zW zO A) {md : Nat → Nat} {x1 : Int32} {x2 : Int32} {mflags : Int32} {mtubs : Int32} {mpegs : Int32} {mcl : (Nat → Int32)} {mws : (Nat → Int32)} {mho : (Nat → Int32)} {mnow : (Nat → Int32)} {mrd : (Nat → Int32)} {mrh : (Nat → Int32)} {mrf : Int32} {mtx : (Nat → Int32)} {mlen : Int32} {mat : Int32} {mfa : Int32} {mac : Int32} {mnx : Int32} {mrow : (Nat → Int32)} {msn : Int32} {mso : (Nat → Int32)} {msc : (Nat → Int32)} {msw : (Nat → Int32)} {mseed : Int64} {mik : (Nat → Int32)} {mkp : (Nat → Int32)}  {res : Bool}  : ∀ (n : Nat) (x3 : Bool) (x4 : Int32), fX10_mayHave_5  x1 x2 mflags mnow msn mso msc msw n x3 x4 = some res → Mx p l e ({ frames := 2, cells := 0, slots := 0, locals := 45 } : Room) s m args below meth c (MQ below (QI D (tyA cyI cyZ cyW) A (wMO cyI cyZ cyW md mflags mtubs mpegs mcl mws mho mnow mrd mrh mrf mtx mlen mat mfa mac mnx mrow msn mso msc msw mseed mik mkp) (b2i res)) args s 0 0 A) 6 D A 0 0 (wMO cyI cyZ cyW md mflags mtubs mpegs mcl mws mho mnow mrd mrh mrf mtx mlen mat mfa mac mnx mrow msn mso msc msw mseed mik mkp) 5 [(0, .ref (md 0)), (1, .int x1), (2, .int x2), (3, .int (b2i x3)), (4, .int x4)] [] := by
  intro n
  induction n with
  | zero => intro x3 x4 h; cases h
  | succ n ih => intro x3 x4 h; exact LGX10_mayHave_5 C ih h
set_option maxHeartbeats 4000000 in
set_option maxRecDepth 100000 in
theorem kX10_mayHave {l : Launch} {D : va_G} {cyI cyZ cyW : ClassId} {zW zO : Nat} {md : Nat → Nat} {mflags : Int32} {mtubs : Int32} {mpegs : Int32} {mcl : (Nat → Int32)} {mws : (Nat → Int32)} {mho : (Nat → Int32)} {mnow : (Nat → Int32)} {mrd : (Nat → Int32)} {mrh : (Nat → Int32)} {mrf : Int32} {mtx : (Nat → Int32)} {mlen : Int32} {mat : Int32} {mfa : Int32} {mac : Int32} {mnx : Int32} {mrow : (Nat → Int32)} {msn : Int32} {mso : (Nat → Int32)} {msc : (Nat → Int32)} {msw : (Nat → Int32)} {mseed : Int64} {mik : (Nat → Int32)} {mkp : (Nat → Int32)} {x1 : Int32} {x2 : Int32} {res : Bool} (h : fX10_mayHave x1 x2 mflags mnow msn mso msc msw = some res) : KI l yX10_mayHave wsX10_mayHave ({ frames := 2, cells := 0, slots := 0, locals := 45 } : Room) D (tyA cyI cyZ cyW) zW zO [.ref (md 0), .int x1, .int x2] (wMO cyI cyZ cyW md mflags mtubs mpegs mcl mws mho mnow mrd mrh mrf mtx mlen mat mfa mac mnx mrow msn mso msc msw mseed mik mkp) (wMO cyI cyZ cyW md mflags mtubs mpegs mcl mws mho mnow mrd mrh mrf mtx mlen mat mfa mac mnx mrow msn mso msc msw mseed mik mkp) (b2i res) := by
  refine enterI (cc := cX10_mayHave) (nL := 6) (ret := (some .boolean)) (by decide) rfl (Nat.le_of_ble_eq_true rfl) (fun p e s m below meth c A C => ?_)
  refine r_lv (lv' := [(0, .ref (md 0)), (1, .int x1), (2, .int x2)]) [0, 1, 2] rfl ?_
  unfold fX10_mayHave at h
  refine r_iconst (v := 1) C dX10_mayHave_0 ic_1 ?_
  refine r_istore_n (lv' := [(3, .int (1 : Int32)), (0, .ref (md 0)), (1, .int x1), (2, .int x2)]) C dX10_mayHave_1 rfl (by decide) rfl ?_
  refine r_iconst (v := 0) C dX10_mayHave_2 ic_0 ?_
  refine r_istore (lv' := [(4, .int (0 : Int32)), (3, .int (1 : Int32)), (0, .ref (md 0)), (1, .int x1), (2, .int x2)]) C dX10_mayHave_3 (by decide) rfl ?_
  refine r_lv (lv' := [(0, .ref (md 0)), (1, .int x1), (2, .int x2), (3, .int (1 : Int32)), (4, .int (0 : Int32))]) [2, 3, 4, 1, 0] rfl ?_
  exact LX10_mayHave_5 C (x1 := x1) (x2 := x2) (mflags := mflags) (mtubs := mtubs) (mpegs := mpegs) (mcl := mcl) (mws := mws) (mho := mho) (mnow := mnow) (mrd := mrd) (mrh := mrh) (mrf := mrf) (mtx := mtx) (mlen := mlen) (mat := mat) (mfa := mfa) (mac := mac) (mnx := mnx) (mrow := mrow) (msn := msn) (mso := mso) (msc := msc) (msw := msw) (mseed := mseed) (mik := mik) (mkp := mkp)  FU true (0 : Int32) h

/-! ===== FlagWashModel.had ===== -/
def fX10_had_71 (rec37 : Int32 → Int32 → Int32 → Int32 → Option (Int32)) (x1 : Int32) (x2 : Int32) (x3 : Int32) (x4 : Int32) (x5 : Int32) (x6 : Int32) (mflags : Int32) (mnow : (Nat → Int32)) (msn : Int32) (mso : (Nat → Int32)) (msc : (Nat → Int32)) (msw : (Nat → Int32)) : Option (Int32) :=
 (rec37 x3 x4 x5 (x6 + (1 : Int32)))
def gX10_had_37 (rec37 : Int32 → Int32 → Int32 → Int32 → Option (Int32)) (x1 : Int32) (x2 : Int32) (x3 : Int32) (x4 : Int32) (x5 : Int32) (x6 : Int32) (mflags : Int32) (mnow : (Nat → Int32)) (msn : Int32) (mso : (Nat → Int32)) (msc : (Nat → Int32)) (msw : (Nat → Int32)) : Option (Int32) :=
 (if (16 : Int32) ≤ x6 then (if x2 = 0 then (some x3)
 else (if x3 = 0 then (some (-9 : Int32))
 else (if x2 = (1 : Int32) then (some x4)
 else (some ((15 : Int32) &&& (x5 ^^^ (-1 : Int32)))))))
 else ((fX10_mayHave x1 x6 mflags mnow msn mso msc msw).bind fun u9 => (if u9 = true then (fX10_had_71 rec37 x1 x2 (x3 + (1 : Int32)) (x4 &&& x6) (x5 ||| x6) x6 mflags mnow msn mso msc msw)
 else (fX10_had_71 rec37 x1 x2 x3 x4 x5 x6 mflags mnow msn mso msc msw))))
def fX10_had_37  (x1 : Int32) (x2 : Int32) (mflags : Int32) (mnow : (Nat → Int32)) (msn : Int32) (mso : (Nat → Int32)) (msc : (Nat → Int32)) (msw : (Nat → Int32)) : Nat → Int32 → Int32 → Int32 → Int32 → Option (Int32)
  | 0 => fun _ _ _ _ => none
  | n + 1 => fun x3 x4 x5 x6 => gX10_had_37 (fX10_had_37  x1 x2 mflags mnow msn mso msc msw n) x1 x2 x3 x4 x5 x6 mflags mnow msn mso msc msw
def fX10_had  (x1 : Int32) (x2 : Int32) (mflags : Int32) (mnow : (Nat → Int32)) (msn : Int32) (mso : (Nat → Int32)) (msc : (Nat → Int32)) (msw : (Nat → Int32)) : Option (Int32) :=
 ((fX10_isFlag x1 mflags).bind fun u1 => (if u1 = true then ((fX10_in x2.toInt64 (0 : Int64) (2 : Int64)).bind fun u3 => (if u3 = true then (fX10_had_37  x1 x2 mflags mnow msn mso msc msw FU (0 : Int32) (15 : Int32) (0 : Int32) (0 : Int32))
 else (some (-2 : Int32))))
 else (some (-1 : Int32))))
theorem mX10_had_1 : Cond.constantLong RX10 148 (2) ∈ wsX10_had := List.mem_of_getElem? (i := 1) rfl
theorem hd_X10_had : yX10_had.cls ≠ "java/lang/invoke/MethodHandle" ∧ yX10_had.cls ≠ "java/lang/invoke/VarHandle" ∧ (parseMethodDescriptor yX10_had.desc).map (fun d => d.parameters.length) = some 2 := by decide +kernel
set_option maxHeartbeats 4000000 in
set_option maxRecDepth 100000 in
theorem LX10_had_71 {p : Program} {l : Launch} {e : Env} {s : State} {m : MethodId} {args : Array Value} {below : List Frame} {meth : Method} {c : Code} {D : va_G} {cyI cyZ cyW : ClassId} {zW zO : Nat} {A : Nat → Prop} (C : Cx p s m args meth c cX10_had RX10 "had" wsX10_had (some .int) 7 D (tyA cyI cyZ cyW) zW zO A) {md : Nat → Nat} {mflags : Int32} {mtubs : Int32} {mpegs : Int32} {mcl : (Nat → Int32)} {mws : (Nat → Int32)} {mho : (Nat → Int32)} {mnow : (Nat → Int32)} {mrd : (Nat → Int32)} {mrh : (Nat → Int32)} {mrf : Int32} {mtx : (Nat → Int32)} {mlen : Int32} {mat : Int32} {mfa : Int32} {mac : Int32} {mnx : Int32} {mrow : (Nat → Int32)} {msn : Int32} {mso : (Nat → Int32)} {msc : (Nat → Int32)} {msw : (Nat → Int32)} {mseed : Int64} {mik : (Nat → Int32)} {mkp : (Nat → Int32)} {x1 : Int32} {x2 : Int32} {x3 : Int32} {x4 : Int32} {x5 : Int32} {x6 : Int32} {rec37 : Int32 → Int32 → Int32 → Int32 → Option (Int32)} {res : Int32} (hrec37 : ∀ (x3 : Int32) (x4 : Int32) (x5 : Int32) (x6 : Int32), rec37 x3 x4 x5 x6 = some res → Mx p l e ({ frames := 3, cells := 0, slots := 0, locals := 70 } : Room) s m args below meth c (MQ below (QI D (tyA cyI cyZ cyW) A (wMO cyI cyZ cyW md mflags mtubs mpegs mcl mws mho mnow mrd mrh mrf mtx mlen mat mfa mac mnx mrow msn mso msc msw mseed mik mkp) res) args s 0 0 A) 7 D A 0 0 (wMO cyI cyZ cyW md mflags mtubs mpegs mcl mws mho mnow mrd mrh mrf mtx mlen mat mfa mac mnx mrow msn mso msc msw mseed mik mkp) 37 [(0, .ref (md 0)), (1, .int x1), (2, .int x2), (3, .int x3), (4, .int x4), (5, .int x5), (6, .int x6)] []) (h : fX10_had_71 rec37 x1 x2 x3 x4 x5 x6 mflags mnow msn mso msc msw = some res) : Mx p l e ({ frames := 3, cells := 0, slots := 0, locals := 70 } : Room) s m args below meth c (MQ below (QI D (tyA cyI cyZ cyW) A (wMO cyI cyZ cyW md mflags mtubs mpegs mcl mws mho mnow mrd mrh mrf mtx mlen mat mfa mac mnx mrow msn mso msc msw mseed mik mkp) res) args s 0 0 A) 7 D A 0 0 (wMO cyI cyZ cyW md mflags mtubs mpegs mcl mws mho mnow mrd mrh mrf mtx mlen mat mfa mac mnx mrow msn mso msc msw mseed mik mkp) 71 [(0, .ref (md 0)), (1, .int x1), (2, .int x2), (3, .int x3), (4, .int x4), (5, .int x5), (6, .int x6)] [] := by
  unfold fX10_had_71 at h
  refine r_iinc (v := 1) (lv' := [(6, .int (x6 + (1 : Int32))), (0, .ref (md 0)), (1, .int x1), (2, .int x2), (3, .int x3), (4, .int x4), (5, .int x5)]) C dX10_had_71 6 rfl ic_1 (by decide) rfl ?_
  refine r_goto (tgt := 37) C dX10_had_74 (by decide) ?_
  refine r_lv (lv' := [(0, .ref (md 0)), (1, .int x1), (2, .int x2), (3, .int x3), (4, .int x4), (5, .int x5), (6, .int (x6 + (1 : Int32)))]) [1, 2, 3, 4, 5, 6, 0] rfl ?_
  exact hrec37 x3 x4 x5 (x6 + (1 : Int32)) h
set_option maxHeartbeats 4000000 in
set_option maxRecDepth 100000 in
theorem LGX10_had_37 {p : Program} {l : Launch} {e : Env} {s : State} {m : MethodId} {args : Array Value} {below : List Frame} {meth : Method} {c : Code} {D : va_G} {cyI cyZ cyW : ClassId} {zW zO : Nat} {A : Nat → Prop} (C : Cx p s m args meth c cX10_had RX10 "had" wsX10_had (some .int) 7 D (tyA cyI cyZ cyW) zW zO A) {md : Nat → Nat} {mflags : Int32} {mtubs : Int32} {mpegs : Int32} {mcl : (Nat → Int32)} {mws : (Nat → Int32)} {mho : (Nat → Int32)} {mnow : (Nat → Int32)} {mrd : (Nat → Int32)} {mrh : (Nat → Int32)} {mrf : Int32} {mtx : (Nat → Int32)} {mlen : Int32} {mat : Int32} {mfa : Int32} {mac : Int32} {mnx : Int32} {mrow : (Nat → Int32)} {msn : Int32} {mso : (Nat → Int32)} {msc : (Nat → Int32)} {msw : (Nat → Int32)} {mseed : Int64} {mik : (Nat → Int32)} {mkp : (Nat → Int32)} {x1 : Int32} {x2 : Int32} {x3 : Int32} {x4 : Int32} {x5 : Int32} {x6 : Int32} {rec37 : Int32 → Int32 → Int32 → Int32 → Option (Int32)} {res : Int32} (hrec37 : ∀ (x3 : Int32) (x4 : Int32) (x5 : Int32) (x6 : Int32), rec37 x3 x4 x5 x6 = some res → Mx p l e ({ frames := 3, cells := 0, slots := 0, locals := 70 } : Room) s m args below meth c (MQ below (QI D (tyA cyI cyZ cyW) A (wMO cyI cyZ cyW md mflags mtubs mpegs mcl mws mho mnow mrd mrh mrf mtx mlen mat mfa mac mnx mrow msn mso msc msw mseed mik mkp) res) args s 0 0 A) 7 D A 0 0 (wMO cyI cyZ cyW md mflags mtubs mpegs mcl mws mho mnow mrd mrh mrf mtx mlen mat mfa mac mnx mrow msn mso msc msw mseed mik mkp) 37 [(0, .ref (md 0)), (1, .int x1), (2, .int x2), (3, .int x3), (4, .int x4), (5, .int x5), (6, .int x6)] []) (h : gX10_had_37 rec37 x1 x2 x3 x4 x5 x6 mflags mnow msn mso msc msw = some res) : Mx p l e ({ frames := 3, cells := 0, slots := 0, locals := 70 } : Room) s m args below meth c (MQ below (QI D (tyA cyI cyZ cyW) A (wMO cyI cyZ cyW md mflags mtubs mpegs mcl mws mho mnow mrd mrh mrf mtx mlen mat mfa mac mnx mrow msn mso msc msw mseed mik mkp) res) args s 0 0 A) 7 D A 0 0 (wMO cyI cyZ cyW md mflags mtubs mpegs mcl mws mho mnow mrd mrh mrf mtx mlen mat mfa mac mnx mrow msn mso msc msw mseed mik mkp) 37 [(0, .ref (md 0)), (1, .int x1), (2, .int x2), (3, .int x3), (4, .int x4), (5, .int x5), (6, .int x6)] [] := by
  unfold gX10_had_37 at h
  refine r_iload C dX10_had_37 6 rfl ?_
  refine r_bipush (v := 16) C dX10_had_39 bp_16 ?_
  refine r_icmp_ge (tgt := 77) C dX10_had_41 (by decide) (fun c5 => ?_) (fun c5 => ?_)
  · replace h := ob_t h c5
    refine r_iload_n C dX10_had_77 2 rfl rfl ?_
    refine r_if_ne (tgt := 85) C dX10_had_78 (by decide) (fun c6 => ?_) (fun c6 => ?_)
    · replace h := ob_f h c6
      refine r_iload_n C dX10_had_85 3 rfl rfl ?_
      refine r_if_ne (tgt := 94) C dX10_had_86 (by decide) (fun c7 => ?_) (fun c7 => ?_)
      · replace h := ob_f h c7
        refine r_iload_n C dX10_had_94 2 rfl rfl ?_
        refine r_iconst (v := 1) C dX10_had_95 ic_1 ?_
        refine r_icmp_ne (tgt := 104) C dX10_had_96 (by decide) (fun c8 => ?_) (fun c8 => ?_)
        · replace h := ob_f h c8
          refine r_bipush (v := 15) C dX10_had_104 bp_15 ?_
          refine r_iload C dX10_had_106 5 rfl ?_
          refine r_iconst (v := -1) C dX10_had_108 ic_m1 ?_
          refine r_ixor C dX10_had_109 ?_
          refine r_iand C dX10_had_110 ?_
          have h9 := Option.some.inj h
          subst h9
          exact r_iret C rfl dX10_had_111
        · replace h := ob_t h c8
          refine r_iload C dX10_had_99 4 rfl ?_
          refine r_goto (tgt := 111) C dX10_had_101 (by decide) ?_
          have h9 := Option.some.inj h
          subst h9
          exact r_iret C rfl dX10_had_111
      · replace h := ob_t h c7
        refine r_bipush (v := -9) C dX10_had_89 bp_m9 ?_
        refine r_goto (tgt := 111) C dX10_had_91 (by decide) ?_
        have h9 := Option.some.inj h
        subst h9
        exact r_iret C rfl dX10_had_111
    · replace h := ob_t h c6
      refine r_iload_n C dX10_had_81 3 rfl rfl ?_
      refine r_goto (tgt := 111) C dX10_had_82 (by decide) ?_
      have h9 := Option.some.inj h
      subst h9
      exact r_iret C rfl dX10_had_111
  · replace h := ob_f h c5
    refine r_aload_n C dX10_had_44 0 rfl rfl ?_
    refine r_iload_n C dX10_had_45 1 rfl rfl ?_
    refine r_iload C dX10_had_46 6 rfl ?_
    obtain ⟨u9, hu9, h⟩ := ob_bind h
    refine r_readVI (q0 := 0) (As := [.int x1, .int x6]) (rest := []) C (kX10_mayHave (md := md) (mflags := mflags) (mtubs := mtubs) (mpegs := mpegs) (mcl := mcl) (mws := mws) (mho := mho) (mnow := mnow) (mrd := mrd) (mrh := mrh) (mrf := mrf) (mtx := mtx) (mlen := mlen) (mat := mat) (mfa := mfa) (mac := mac) (mnx := mnx) (mrow := mrow) (msn := msn) (mso := mso) (msc := msc) (msw := msw) (mseed := mseed) (mik := mik) (mkp := mkp) (x1 := x1) (x2 := x6) hu9) gX10_had_X10_mayHave rfl rfl rfl ⟨rfl, hd_X10_mayHave⟩ ⟨by decide, by decide⟩ rfl rfl rfl rfl [0, 1, 2, 3, 4, 5, 6, 7, 8, 9, 10, 11, 12, 13] (by decide) in_76 rfl (Nat.le_of_ble_eq_true rfl) dX10_had_48 ⟨Nat.zero_le _, Nat.zero_le _⟩ ?_
    refine r_ifb_eq (tgt := 71) C dX10_had_51 (by decide) (fun c10 => ?_) (fun c10 => ?_)
    · replace h := ob_bf h c10
      refine r_lv (lv' := [(0, .ref (md 0)), (1, .int x1), (2, .int x2), (3, .int x3), (4, .int x4), (5, .int x5), (6, .int x6)]) [0, 1, 2, 3, 4, 5, 6] rfl ?_
      exact LX10_had_71 C (x1 := x1) (x2 := x2) (x3 := x3) (x4 := x4) (x5 := x5) (x6 := x6) (mflags := mflags) (mtubs := mtubs) (mpegs := mpegs) (mcl := mcl) (mws := mws) (mho := mho) (mnow := mnow) (mrd := mrd) (mrh := mrh) (mrf := mrf) (mtx := mtx) (mlen := mlen) (mat := mat) (mfa := mfa) (mac := mac) (mnx := mnx) (mrow := mrow) (msn := msn) (mso := mso) (msc := msc) (msw := msw) (mseed := mseed) (mik := mik) (mkp := mkp) hrec37 h
    · replace h := ob_t h c10
      refine r_iinc (v := 1) (lv' := [(3, .int (x3 + (1 : Int32))), (0, .ref (md 0)), (1, .int x1), (2, .int x2), (4, .int x4), (5, .int x5), (6, .int x6)]) C dX10_had_54 3 rfl ic_1 (by decide) rfl ?_
      refine r_iload C dX10_had_57 4 rfl ?_
      refine r_iload C dX10_had_59 6 rfl ?_
      refine r_iand C dX10_had_61 ?_
      refine r_istore (lv' := [(4, .int (x4 &&& x6)), (3, .int (x3 + (1 : Int32))), (0, .ref (md 0)), (1, .int x1), (2, .int x2), (5, .int x5), (6, .int x6)]) C dX10_had_62 (by decide) rfl ?_
      refine r_iload C dX10_had_64 5 rfl ?_
      refine r_iload C dX10_had_66 6 rfl ?_
      refine r_ior C dX10_had_68 ?_
      refine r_istore (lv' := [(5, .int (x5 ||| x6)), (4, .int (x4 &&& x6)), (3, .int (x3 + (1 : Int32))), (0, .ref (md 0)), (1, .int x1), (2, .int x2), (6, .int x6)]) C dX10_had_69 (by decide) rfl ?_
      refine r_lv (lv' := [(0, .ref (md 0)), (1, .int x1), (2, .int x2), (3, .int (x3 + (1 : Int32))), (4, .int (x4 &&& x6)), (5, .int (x5 ||| x6)), (6, .int x6)]) [3, 4, 5, 2, 1, 0, 6] rfl ?_
      exact LX10_had_71 C (x1 := x1) (x2 := x2) (x3 := (x3 + (1 : Int32))) (x4 := (x4 &&& x6)) (x5 := (x5 ||| x6)) (x6 := x6) (mflags := mflags) (mtubs := mtubs) (mpegs := mpegs) (mcl := mcl) (mws := mws) (mho := mho) (mnow := mnow) (mrd := mrd) (mrh := mrh) (mrf := mrf) (mtx := mtx) (mlen := mlen) (mat := mat) (mfa := mfa) (mac := mac) (mnx := mnx) (mrow := mrow) (msn := msn) (mso := mso) (msc := msc) (msw := msw) (mseed := mseed) (mik := mik) (mkp := mkp) hrec37 h
set_option maxHeartbeats 4000000 in
set_option maxRecDepth 100000 in
theorem LX10_had_37 {p : Program} {l : Launch} {e : Env} {s : State} {m : MethodId} {args : Array Value} {below : List Frame} {meth : Method} {c : Code} {D : va_G} {cyI cyZ cyW : ClassId} {zW zO : Nat} {A : Nat → Prop} (C : Cx p s m args meth c cX10_had RX10 "had" wsX10_had (some .int) 7 D (tyA cyI cyZ cyW) zW zO A) {md : Nat → Nat} {x1 : Int32} {x2 : Int32} {mflags : Int32} {mtubs : Int32} {mpegs : Int32} {mcl : (Nat → Int32)} {mws : (Nat → Int32)} {mho : (Nat → Int32)} {mnow : (Nat → Int32)} {mrd : (Nat → Int32)} {mrh : (Nat → Int32)} {mrf : Int32} {mtx : (Nat → Int32)} {mlen : Int32} {mat : Int32} {mfa : Int32} {mac : Int32} {mnx : Int32} {mrow : (Nat → Int32)} {msn : Int32} {mso : (Nat → Int32)} {msc : (Nat → Int32)} {msw : (Nat → Int32)} {mseed : Int64} {mik : (Nat → Int32)} {mkp : (Nat → Int32)}  {res : Int32}  : ∀ (n : Nat) (x3 : Int32) (x4 : Int32) (x5 : Int32) (x6 : Int32), fX10_had_37  x1 x2 mflags mnow msn mso msc msw n x3 x4 x5 x6 = some res → Mx p l e ({ frames := 3, cells := 0, slots := 0, locals := 70 } : Room) s m args below meth c (MQ below (QI D (tyA cyI cyZ cyW) A (wMO cyI cyZ cyW md mflags mtubs mpegs mcl mws mho mnow mrd mrh mrf mtx mlen mat mfa mac mnx mrow msn mso msc msw mseed mik mkp) res) args s 0 0 A) 7 D A 0 0 (wMO cyI cyZ cyW md mflags mtubs mpegs mcl mws mho mnow mrd mrh mrf mtx mlen mat mfa mac mnx mrow msn mso msc msw mseed mik mkp) 37 [(0, .ref (md 0)), (1, .int x1), (2, .int x2), (3, .int x3), (4, .int x4), (5, .int x5), (6, .int x6)] [] := by
  intro n
  induction n with
  | zero => intro x3 x4 x5 x6 h; cases h
  | succ n ih => intro x3 x4 x5 x6 h; exact LGX10_had_37 C ih h
set_option maxHeartbeats 4000000 in
set_option maxRecDepth 100000 in
theorem kX10_had {l : Launch} {D : va_G} {cyI cyZ cyW : ClassId} {zW zO : Nat} {md : Nat → Nat} {mflags : Int32} {mtubs : Int32} {mpegs : Int32} {mcl : (Nat → Int32)} {mws : (Nat → Int32)} {mho : (Nat → Int32)} {mnow : (Nat → Int32)} {mrd : (Nat → Int32)} {mrh : (Nat → Int32)} {mrf : Int32} {mtx : (Nat → Int32)} {mlen : Int32} {mat : Int32} {mfa : Int32} {mac : Int32} {mnx : Int32} {mrow : (Nat → Int32)} {msn : Int32} {mso : (Nat → Int32)} {msc : (Nat → Int32)} {msw : (Nat → Int32)} {mseed : Int64} {mik : (Nat → Int32)} {mkp : (Nat → Int32)} {x1 : Int32} {x2 : Int32} {res : Int32} (h : fX10_had x1 x2 mflags mnow msn mso msc msw = some res) : KI l yX10_had wsX10_had ({ frames := 3, cells := 0, slots := 0, locals := 70 } : Room) D (tyA cyI cyZ cyW) zW zO [.ref (md 0), .int x1, .int x2] (wMO cyI cyZ cyW md mflags mtubs mpegs mcl mws mho mnow mrd mrh mrf mtx mlen mat mfa mac mnx mrow msn mso msc msw mseed mik mkp) (wMO cyI cyZ cyW md mflags mtubs mpegs mcl mws mho mnow mrd mrh mrf mtx mlen mat mfa mac mnx mrow msn mso msc msw mseed mik mkp) res := by
  refine enterI (cc := cX10_had) (nL := 7) (ret := (some .int)) (by decide) rfl (Nat.le_of_ble_eq_true rfl) (fun p e s m below meth c A C => ?_)
  refine r_lv (lv' := [(0, .ref (md 0)), (1, .int x1), (2, .int x2)]) [0, 1, 2] rfl ?_
  unfold fX10_had at h
  refine r_aload_n C dX10_had_0 0 rfl rfl ?_
  refine r_iload_n C dX10_had_1 1 rfl rfl ?_
  obtain ⟨u1, hu1, h⟩ := ob_bind h
  refine r_readVI (q0 := 0) (As := [.int x1]) (rest := []) C (kX10_isFlag (md := md) (mflags := mflags) (mtubs := mtubs) (mpegs := mpegs) (mcl := mcl) (mws := mws) (mho := mho) (mnow := mnow) (mrd := mrd) (mrh := mrh) (mrf := mrf) (mtx := mtx) (mlen := mlen) (mat := mat) (mfa := mfa) (mac := mac) (mnx := mnx) (mrow := mrow) (msn := msn) (mso := mso) (msc := msc) (msw := msw) (mseed := mseed) (mik := mik) (mkp := mkp) (x1 := x1) hu1) gX10_had_X10_isFlag rfl rfl rfl ⟨rfl, hd_X10_isFlag⟩ ⟨by decide, by decide⟩ rfl rfl rfl rfl [0, 1, 2, 3, 4, 5, 6, 7, 8, 9, 10, 11, 12, 13] (by decide) in_76 rfl (Nat.le_of_ble_eq_true rfl) dX10_had_2 ⟨Nat.zero_le _, Nat.zero_le _⟩ ?_
  refine r_ifb_ne (tgt := 10) C dX10_had_5 (by decide) (fun c2 => ?_) (fun c2 => ?_)
  · replace h := ob_t h c2
    refine r_iload_n C dX10_had_10 2 rfl rfl ?_
    refine r_i2l C dX10_had_11 ?_
    refine r_lconst (v := 0) C dX10_had_12 lc_0 ?_
    refine r_ldc2 (v := 2) C mX10_had_1 dX10_had_13 ?_
    obtain ⟨u3, hu3, h⟩ := ob_bind h
    refine r_readSI (As := [.long x2.toInt64, .long (0 : Int64), .long (2 : Int64)]) (rest := []) C (kX10_in   (x0 := x2.toInt64) (x2 := (0 : Int64)) (x4 := (2 : Int64)) hu3) gX10_had_X10_in rfl rfl rfl hd_X10_in ⟨by decide, by decide⟩ rfl [] (by decide) rfl rfl (Nat.le_of_ble_eq_true rfl) dX10_had_16 ⟨Nat.zero_le _, Nat.zero_le _⟩ ?_
    refine r_ifb_ne (tgt := 25) C dX10_had_19 (by decide) (fun c4 => ?_) (fun c4 => ?_)
    · replace h := ob_t h c4
      refine r_iconst (v := 0) C dX10_had_25 ic_0 ?_
      refine r_istore_n (lv' := [(3, .int (0 : Int32)), (0, .ref (md 0)), (1, .int x1), (2, .int x2)]) C dX10_had_26 rfl (by decide) rfl ?_
      refine r_bipush (v := 15) C dX10_had_27 bp_15 ?_
      refine r_istore (lv' := [(4, .int (15 : Int32)), (3, .int (0 : Int32)), (0, .ref (md 0)), (1, .int x1), (2, .int x2)]) C dX10_had_29 (by decide) rfl ?_
      refine r_iconst (v := 0) C dX10_had_31 ic_0 ?_
      refine r_istore (lv' := [(5, .int (0 : Int32)), (4, .int (15 : Int32)), (3, .int (0 : Int32)), (0, .ref (md 0)), (1, .int x1), (2, .int x2)]) C dX10_had_32 (by decide) rfl ?_
      refine r_iconst (v := 0) C dX10_had_34 ic_0 ?_
      refine r_istore (lv' := [(6, .int (0 : Int32)), (5, .int (0 : Int32)), (4, .int (15 : Int32)), (3, .int (0 : Int32)), (0, .ref (md 0)), (1, .int x1), (2, .int x2)]) C dX10_had_35 (by decide) rfl ?_
      refine r_lv (lv' := [(0, .ref (md 0)), (1, .int x1), (2, .int x2), (3, .int (0 : Int32)), (4, .int (15 : Int32)), (5, .int (0 : Int32)), (6, .int (0 : Int32))]) [4, 5, 6, 3, 2, 1, 0] rfl ?_
      exact LX10_had_37 C (x1 := x1) (x2 := x2) (mflags := mflags) (mtubs := mtubs) (mpegs := mpegs) (mcl := mcl) (mws := mws) (mho := mho) (mnow := mnow) (mrd := mrd) (mrh := mrh) (mrf := mrf) (mtx := mtx) (mlen := mlen) (mat := mat) (mfa := mfa) (mac := mac) (mnx := mnx) (mrow := mrow) (msn := msn) (mso := mso) (msc := msc) (msw := msw) (mseed := mseed) (mik := mik) (mkp := mkp)  FU (0 : Int32) (15 : Int32) (0 : Int32) (0 : Int32) h
    · replace h := ob_bf h c4
      refine r_bipush (v := -2) C dX10_had_22 bp_m2 ?_
      have h9 := Option.some.inj h
      subst h9
      exact r_iret C rfl dX10_had_24
  · replace h := ob_bf h c2
    refine r_iconst (v := -1) C dX10_had_8 ic_m1 ?_
    have h9 := Option.some.inj h
    subst h9
    exact r_iret C rfl dX10_had_9

/-! ===== FlagWashModel.factorial ===== -/
def gX10_factorial_4 (rec4 : Int32 → Int32 → Option (Int32)) (x0 : Int32) (x1 : Int32) (x2 : Int32) : Option (Int32) :=
 (if x0 < x2 then (some x1)
 else (rec4 (x1 * x2) (x2 + (1 : Int32))))
def fX10_factorial_4  (x0 : Int32) : Nat → Int32 → Int32 → Option (Int32)
  | 0 => fun _ _ => none
  | n + 1 => fun x1 x2 => gX10_factorial_4 (fX10_factorial_4  x0 n) x0 x1 x2
def fX10_factorial  (x0 : Int32) : Option (Int32) :=
 (fX10_factorial_4  x0 FU (1 : Int32) (2 : Int32))
theorem hd_X10_factorial : yX10_factorial.cls ≠ "java/lang/invoke/MethodHandle" ∧ yX10_factorial.cls ≠ "java/lang/invoke/VarHandle" ∧ (parseMethodDescriptor yX10_factorial.desc).map (fun d => d.parameters.length) = some 1 := by decide +kernel
set_option maxHeartbeats 4000000 in
set_option maxRecDepth 100000 in
theorem LGX10_factorial_4 {p : Program} {l : Launch} {e : Env} {s : State} {m : MethodId} {args : Array Value} {below : List Frame} {meth : Method} {c : Code} {D : va_G} {cyI cyZ cyW : ClassId} {zW zO : Nat} {A : Nat → Prop} (C : Cx p s m args meth c cX10_factorial RX10 "factorial" wsX10_factorial (some .int) 3 D (tyA cyI cyZ cyW) zW zO A)   {x0 : Int32} {x1 : Int32} {x2 : Int32} {rec4 : Int32 → Int32 → Option (Int32)} {res : Int32} (hrec4 : ∀ (x1 : Int32) (x2 : Int32), rec4 x1 x2 = some res → Mx p l e ({ frames := 0, cells := 0, slots := 0, locals := 0 } : Room) s m args below meth c (MQ below (QI D (tyA cyI cyZ cyW) A ([] : va_W) res) args s 0 0 A) 3 D A 0 0 ([] : va_W) 4 [(0, .int x0), (1, .int x1), (2, .int x2)] []) (h : gX10_factorial_4 rec4 x0 x1 x2 = some res) : Mx p l e ({ frames := 0, cells := 0, slots := 0, locals := 0 } : Room) s m args below meth c (MQ below (QI D (tyA cyI cyZ cyW) A ([] : va_W) res) args s 0 0 A) 3 D A 0 0 ([] : va_W) 4 [(0, .int x0), (1, .int x1), (2, .int x2)] [] := by
  unfold gX10_factorial_4 at h
  refine r_iload_n C dX10_factorial_4 2 rfl rfl ?_
  refine r_iload_n C dX10_factorial_5 0 rfl rfl ?_
  refine r_icmp_gt (tgt := 19) C dX10_factorial_6 (by decide) (fun c1 => ?_) (fun c1 => ?_)
  · replace h := ob_t h c1
    refine r_iload_n C dX10_factorial_19 1 rfl rfl ?_
    have h9 := Option.some.inj h
    subst h9
    exact r_iret C rfl dX10_factorial_20
  · replace h := ob_f h c1
    refine r_iload_n C dX10_factorial_9 1 rfl rfl ?_
    refine r_iload_n C dX10_factorial_10 2 rfl rfl ?_
    refine r_imul C dX10_factorial_11 ?_
    refine r_istore_n (lv' := [(1, .int (x1 * x2)), (0, .int x0), (2, .int x2)]) C dX10_factorial_12 rfl (by decide) rfl ?_
    refine r_iinc (v := 1) (lv' := [(2, .int (x2 + (1 : Int32))), (1, .int (x1 * x2)), (0, .int x0)]) C dX10_factorial_13 2 rfl ic_1 (by decide) rfl ?_
    refine r_goto (tgt := 4) C dX10_factorial_16 (by decide) ?_
    refine r_lv (lv' := [(0, .int x0), (1, .int (x1 * x2)), (2, .int (x2 + (1 : Int32)))]) [2, 1, 0] rfl ?_
    exact hrec4 (x1 * x2) (x2 + (1 : Int32)) h
set_option maxHeartbeats 4000000 in
set_option maxRecDepth 100000 in
theorem LX10_factorial_4 {p : Program} {l : Launch} {e : Env} {s : State} {m : MethodId} {args : Array Value} {below : List Frame} {meth : Method} {c : Code} {D : va_G} {cyI cyZ cyW : ClassId} {zW zO : Nat} {A : Nat → Prop} (C : Cx p s m args meth c cX10_factorial RX10 "factorial" wsX10_factorial (some .int) 3 D (tyA cyI cyZ cyW) zW zO A)  {x0 : Int32}  {res : Int32}  : ∀ (n : Nat) (x1 : Int32) (x2 : Int32), fX10_factorial_4  x0 n x1 x2 = some res → Mx p l e ({ frames := 0, cells := 0, slots := 0, locals := 0 } : Room) s m args below meth c (MQ below (QI D (tyA cyI cyZ cyW) A ([] : va_W) res) args s 0 0 A) 3 D A 0 0 ([] : va_W) 4 [(0, .int x0), (1, .int x1), (2, .int x2)] [] := by
  intro n
  induction n with
  | zero => intro x1 x2 h; cases h
  | succ n ih => intro x1 x2 h; exact LGX10_factorial_4 C ih h
set_option maxHeartbeats 4000000 in
set_option maxRecDepth 100000 in
theorem kX10_factorial {l : Launch} {D : va_G} {cyI cyZ cyW : ClassId} {zW zO : Nat}   {x0 : Int32} {res : Int32} (h : fX10_factorial x0 = some res) : KI l yX10_factorial wsX10_factorial ({ frames := 0, cells := 0, slots := 0, locals := 0 } : Room) D (tyA cyI cyZ cyW) zW zO [.int x0] ([] : va_W) ([] : va_W) res := by
  refine enterI (cc := cX10_factorial) (nL := 3) (ret := (some .int)) (by decide) rfl (Nat.le_of_ble_eq_true rfl) (fun p e s m below meth c A C => ?_)
  refine r_lv (lv' := [(0, .int x0)]) [0] rfl ?_
  unfold fX10_factorial at h
  refine r_iconst (v := 1) C dX10_factorial_0 ic_1 ?_
  refine r_istore_n (lv' := [(1, .int (1 : Int32)), (0, .int x0)]) C dX10_factorial_1 rfl (by decide) rfl ?_
  refine r_iconst (v := 2) C dX10_factorial_2 ic_2 ?_
  refine r_istore_n (lv' := [(2, .int (2 : Int32)), (1, .int (1 : Int32)), (0, .int x0)]) C dX10_factorial_3 rfl (by decide) rfl ?_
  refine r_lv (lv' := [(0, .int x0), (1, .int (1 : Int32)), (2, .int (2 : Int32))]) [2, 1, 0] rfl ?_
  exact LX10_factorial_4 C (x0 := x0)  FU (1 : Int32) (2 : Int32) h
