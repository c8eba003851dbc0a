/-! ===== FlagWashModel.passOn ===== -/
def fX10_passOn_276 (rec201 : Int32 → (Nat → Int32) → Option (Int32 × (Nat → Int32))) (x1 : Int32) (x2 : Int32) (x3 : Int32) (x4 : Int32) (x6 : Int32) (x7 : Int32) (mflags : Int32) (mtubs : Int32) (mpegs : Int32) (mcl : (Nat → Int32)) (mnow : (Nat → Int32)) : Option (Int32 × (Nat → Int32)) :=
 (rec201 (x7 + (1 : Int32)) mnow)
def fX10_passOn_267 (rec201 : Int32 → (Nat → Int32) → Option (Int32 × (Nat → Int32))) (x1 : Int32) (x2 : Int32) (x3 : Int32) (x4 : Int32) (x6 : Int32) (x7 : Int32) (y0 : Bool) (y1 : Int32) (y2 : Int32) (mflags : Int32) (mtubs : Int32) (mpegs : Int32) (mcl : (Nat → Int32)) (mnow : (Nat → Int32)) : Option (Int32 × (Nat → Int32)) :=
 (if inb y2 34 = true then ((fX10_hangOn x1 x7 mflags mtubs mpegs mcl (upd mnow y2.toNatClampNeg (y1 - (b2i y0)))).bind fun u27 => (fX10_passOn_276 rec201 x1 x2 x3 x4 x6 x7 mflags mtubs mpegs mcl u27)) else none)
def gX10_passOn_201 (rec201 : Int32 → (Nat → Int32) → Option (Int32 × (Nat → Int32))) (x1 : Int32) (x2 : Int32) (x3 : Int32) (x4 : Int32) (x6 : Int32) (x7 : Int32) (mflags : Int32) (mtubs : Int32) (mpegs : Int32) (mcl : (Nat → Int32)) (mnow : (Nat → Int32)) : Option (Int32 × (Nat → Int32)) :=
 (if mflags ≤ x7 then (if inb (x2 + (16 : Int32)) 34 = true then (if inb (x2 + (16 : Int32)) 34 = true then (some (x3, (upd mnow (x2 + (16 : Int32)).toNatClampNeg ((mnow (x2 + (16 : Int32)).toNatClampNeg) + (1 : Int32))))) else none) else none)
 else ((fX10_has x4 x7).bind fun u17 => (if u17 = true then (if inb (x2 + x7) 34 = true then (if inb (x2 + x7) 34 = true then (if inb ((x2 + (10 : Int32)) + x7) 34 = true then (if inb ((x2 + (10 : Int32)) + x7) 34 = true then (if ((upd mnow (x2 + x7).toNatClampNeg ((mnow (x2 + x7).toNatClampNeg) ||| x6)) ((x2 + (10 : Int32)) + x7).toNatClampNeg) ≤ 0 then (fX10_passOn_267 rec201 x1 x2 x3 x4 x6 x7 false ((upd mnow (x2 + x7).toNatClampNeg ((mnow (x2 + x7).toNatClampNeg) ||| x6)) ((x2 + (10 : Int32)) + x7).toNatClampNeg) ((x2 + (10 : Int32)) + x7) mflags mtubs mpegs mcl (upd mnow (x2 + x7).toNatClampNeg ((mnow (x2 + x7).toNatClampNeg) ||| x6)))
 else (fX10_passOn_267 rec201 x1 x2 x3 x4 x6 x7 true ((upd mnow (x2 + x7).toNatClampNeg ((mnow (x2 + x7).toNatClampNeg) ||| x6)) ((x2 + (10 : Int32)) + x7).toNatClampNeg) ((x2 + (10 : Int32)) + x7) mflags mtubs mpegs mcl (upd mnow (x2 + x7).toNatClampNeg ((mnow (x2 + x7).toNatClampNeg) ||| x6)))) else none) else none) else none) else none)
 else (fX10_passOn_276 rec201 x1 x2 x3 x4 x6 x7 mflags mtubs mpegs mcl mnow))))
def fX10_passOn_201  (x1 : Int32) (x2 : Int32) (x3 : Int32) (x4 : Int32) (x6 : Int32) (mflags : Int32) (mtubs : Int32) (mpegs : Int32) (mcl : (Nat → Int32)) : Nat → Int32 → (Nat → Int32) → Option (Int32 × (Nat → Int32))
  | 0 => fun _ _ => none
  | n + 1 => fun x7 mnow => gX10_passOn_201 (fX10_passOn_201  x1 x2 x3 x4 x6 mflags mtubs mpegs mcl n) x1 x2 x3 x4 x6 x7 mflags mtubs mpegs mcl mnow
def fX10_passOn_180 (rec140 : Int32 → Int32 → Option (Int32 × (Nat → Int32))) (x1 : Int32) (x2 : Int32) (x3 : Int32) (x4 : Int32) (x6 : Int32) (y0 : Int32) (y1 : Int32) (mflags : Int32) (mtubs : Int32) (mpegs : Int32) (mcl : (Nat → Int32)) (mnow : (Nat → Int32)) : Option (Int32 × (Nat → Int32)) :=
 (rec140 (y1 ||| y0) (x6 + (1 : Int32)))
def fX10_passOn_179 (rec140 : Int32 → Int32 → Option (Int32 × (Nat → Int32))) (x1 : Int32) (x2 : Int32) (x3 : Int32) (x4 : Int32) (x6 : Int32) (y0 : Int32) (mflags : Int32) (mtubs : Int32) (mpegs : Int32) (mcl : (Nat → Int32)) (mnow : (Nat → Int32)) : Option (Int32 × (Nat → Int32)) :=
 (fX10_passOn_180 rec140 x1 x2 x3 x4 x6 (0 : Int32) y0 mflags mtubs mpegs mcl mnow)
def gX10_passOn_140 (rec140 : Int32 → Int32 → Option (Int32 × (Nat → Int32))) (x1 : Int32) (x2 : Int32) (x3 : Int32) (x4 : Int32) (x5 : Int32) (x6 : Int32) (mflags : Int32) (mtubs : Int32) (mpegs : Int32) (mcl : (Nat → Int32)) (mnow : (Nat → Int32)) : Option (Int32 × (Nat → Int32)) :=
 (if mflags ≤ x6 then ((fX10_coloursOf x1 x5 mflags mnow).bind fun u8 => (fX10_passOn_201  x1 x2 x3 x4 u8 mflags mtubs mpegs mcl FU (0 : Int32) mnow))
 else ((fX10_has x4 x6).bind fun u9 => (if u9 = true then (if inb x6 5 = true then (if (mcl x6.toNatClampNeg) = (3 : Int32) then (fX10_passOn_180 rec140 x1 x2 x3 x4 x6 ((1 : Int32) <<< (x6 &&& 31)) x5 mflags mtubs mpegs mcl mnow)
 else (fX10_passOn_179 rec140 x1 x2 x3 x4 x6 x5 mflags mtubs mpegs mcl mnow)) else none)
 else (fX10_passOn_179 rec140 x1 x2 x3 x4 x6 x5 mflags mtubs mpegs mcl mnow))))
def fX10_passOn_140  (x1 : Int32) (x2 : Int32) (x3 : Int32) (x4 : Int32) (mflags : Int32) (mtubs : Int32) (mpegs : Int32) (mcl : (Nat → Int32)) (mnow : (Nat → Int32)) : Nat → Int32 → Int32 → Option (Int32 × (Nat → Int32))
  | 0 => fun _ _ => none
  | n + 1 => fun x5 x6 => gX10_passOn_140 (fX10_passOn_140  x1 x2 x3 x4 mflags mtubs mpegs mcl mnow n) x1 x2 x3 x4 x5 x6 mflags mtubs mpegs mcl mnow
def fX10_passOn_120 (rec10 : Int32 → Int32 → (Nat → Int32) → Option (Int32 × (Nat → Int32))) (x1 : Int32) (x2 : Int32) (x3 : Int32) (x4 : Int32) (mflags : Int32) (mtubs : Int32) (mpegs : Int32) (mcl : (Nat → Int32)) (mnow : (Nat → Int32)) : Option (Int32 × (Nat → Int32)) :=
 (rec10 x3 (x4 + (1 : Int32)) mnow)
def fX10_passOn_118 (rec10 : Int32 → Int32 → (Nat → Int32) → Option (Int32 × (Nat → Int32))) (x1 : Int32) (x2 : Int32) (x4 : Int32) (y0 : Int32) (y1 : Int32) (mflags : Int32) (mtubs : Int32) (mpegs : Int32) (mcl : (Nat → Int32)) (mnow : (Nat → Int32)) : Option (Int32 × (Nat → Int32)) :=
 (fX10_passOn_120 rec10 x1 x2 (y1 ||| y0) x4 mflags mtubs mpegs mcl mnow)
def fX10_passOn_103 (rec10 : Int32 → Int32 → (Nat → Int32) → Option (Int32 × (Nat → Int32))) (x1 : Int32) (x2 : Int32) (x3 : Int32) (x4 : Int32) (x5 : Int32) (y0 : Int32) (y1 : Int32) (mflags : Int32) (mtubs : Int32) (mpegs : Int32) (mcl : (Nat → Int32)) (mnow : (Nat → Int32)) : Option (Int32 × (Nat → Int32)) :=
 (if inb y1 34 = true then (if x5 ≤ 0 then (fX10_passOn_118 rec10 x1 x2 x4 ((1 : Int32) <<< (x4 &&& 31)) x3 mflags mtubs mpegs mcl (upd mnow y1.toNatClampNeg y0))
 else (fX10_passOn_118 rec10 x1 x2 x4 (0 : Int32) x3 mflags mtubs mpegs mcl (upd mnow y1.toNatClampNeg y0))) else none)
def fX10_passOn_82 (rec10 : Int32 → Int32 → (Nat → Int32) → Option (Int32 × (Nat → Int32))) (x1 : Int32) (x2 : Int32) (x3 : Int32) (x4 : Int32) (x5 : Int32) (y0 : Int32) (y1 : Int32) (mflags : Int32) (mtubs : Int32) (mpegs : Int32) (mcl : (Nat → Int32)) (mnow : (Nat → Int32)) : Option (Int32 × (Nat → Int32)) :=
 (if inb y1 34 = true then (if x5 ≤ 0 then (fX10_passOn_103 rec10 x1 x2 x3 x4 x5 (0 : Int32) ((x2 + (5 : Int32)) + x4) mflags mtubs mpegs mcl (upd mnow y1.toNatClampNeg y0))
 else (fX10_passOn_103 rec10 x1 x2 x3 x4 x5 (2 : Int32) ((x2 + (5 : Int32)) + x4) mflags mtubs mpegs mcl (upd mnow y1.toNatClampNeg y0))) else none)
def fX10_passOn_60 (rec10 : Int32 → Int32 → (Nat → Int32) → Option (Int32 × (Nat → Int32))) (x1 : Int32) (x2 : Int32) (x3 : Int32) (x4 : Int32) (x5 : Int32) (mflags : Int32) (mtubs : Int32) (mpegs : Int32) (mcl : (Nat → Int32)) (mnow : (Nat → Int32)) : Option (Int32 × (Nat → Int32)) :=
 (if 0 ≤ x5 then (fX10_passOn_82 rec10 x1 x2 x3 x4 x5 x5 ((x2 + (10 : Int32)) + x4) mflags mtubs mpegs mcl mnow)
 else (fX10_passOn_82 rec10 x1 x2 x3 x4 x5 (0 : Int32) ((x2 + (10 : Int32)) + x4) mflags mtubs mpegs mcl mnow))
def gX10_passOn_10 (rec10 : Int32 → Int32 → (Nat → Int32) → Option (Int32 × (Nat → Int32))) (x1 : Int32) (x2 : Int32) (x3 : Int32) (x4 : Int32) (mflags : Int32) (mtubs : Int32) (mpegs : Int32) (mcl : (Nat → Int32)) (mnow : (Nat → Int32)) : Option (Int32 × (Nat → Int32)) :=
 (if mflags ≤ x4 then ((fX10_areIn x1 (1 : Int32) mflags mnow).bind fun u2 => (fX10_passOn_140  x1 x2 x3 u2 mflags mtubs mpegs mcl mnow FU (0 : Int32) (0 : Int32)))
 else (if inb ((x2 + (5 : Int32)) + x4) 34 = true then (if (mnow ((x2 + (5 : Int32)) + x4).toNatClampNeg) = (2 : Int32) then (if inb ((x2 + (10 : Int32)) + x4) 34 = true then (if inb (x2 + (15 : Int32)) 34 = true then (fX10_passOn_60 rec10 x1 x2 x3 x4 (((mnow ((x2 + (10 : Int32)) + x4).toNatClampNeg) - (1 : Int32)) - (mnow (x2 + (15 : Int32)).toNatClampNeg)) mflags mtubs mpegs mcl mnow) else none) else none)
 else (fX10_passOn_120 rec10 x1 x2 x3 x4 mflags mtubs mpegs mcl mnow)) else none))
def fX10_passOn_10  (x1 : Int32) (x2 : Int32) (mflags : Int32) (mtubs : Int32) (mpegs : Int32) (mcl : (Nat → Int32)) : Nat → Int32 → Int32 → (Nat → Int32) → Option (Int32 × (Nat → Int32))
  | 0 => fun _ _ _ => none
  | n + 1 => fun x3 x4 mnow => gX10_passOn_10 (fX10_passOn_10  x1 x2 mflags mtubs mpegs mcl n) x1 x2 x3 x4 mflags mtubs mpegs mcl mnow
def fX10_passOn  (x1 : Int32) (mflags : Int32) (mtubs : Int32) (mpegs : Int32) (mcl : (Nat → Int32)) (mnow : (Nat → Int32)) : Option (Int32 × (Nat → Int32)) :=
 (fX10_passOn_10  x1 ((17 : Int32) * x1) mflags mtubs mpegs mcl FU (0 : Int32) (0 : Int32) mnow)
theorem hinX10_passOn_X10 : ∀ w ∈ u_ws RX10 TX10 24, w ∈ wsX10_passOn := fun w h => List.mem_cons_of_mem _ (List.mem_append_right _ h)
theorem mX10_passOn_1 : Cond.fieldLink RX10 101 "FlagWashModel" "flags" "I" ∈ wsX10_passOn := List.mem_of_getElem? (i := 1) rfl
theorem mX10_passOn_2 : Cond.fieldLink RX10 19 "FlagWashModel" "now" "[I" ∈ wsX10_passOn := List.mem_of_getElem? (i := 2) rfl
theorem mX10_passOn_3 : Cond.fieldLink RX10 7 "FlagWashModel" "cloth" "[I" ∈ wsX10_passOn := List.mem_of_getElem? (i := 3) rfl
theorem hd_X10_passOn : yX10_passOn.cls ≠ "java/lang/invoke/MethodHandle" ∧ yX10_passOn.cls ≠ "java/lang/invoke/VarHandle" ∧ (parseMethodDescriptor yX10_passOn.desc).map (fun d => d.parameters.length) = some 1 := by decide +kernel
set_option maxHeartbeats 4000000 in
set_option maxRecDepth 100000 in
theorem LX10_passOn_276 {p : Program} {l : Launch} {e : Env} {s : State} {m : MethodId} {args : Array Value} {below : List Frame} {meth : Method} {c : Code} {D : va_G} {cyI cyZ cyW : ClassId} {zW zO : Nat} {A : Nat → Prop} (C : Cx p s m args meth c cX10_passOn RX10 "passOn" wsX10_passOn (some .int) 8 D (tyA cyI cyZ cyW) zW zO A) {md : Nat → Nat} {mflags : Int32} {mtubs : Int32} {mpegs : Int32} {mcl : (Nat → Int32)} {mws : (Nat → Int32)} {mho : (Nat → Int32)} {mnow : (Nat → Int32)} {mrd : (Nat → Int32)} {mrh : (Nat → Int32)} {mrf : Int32} {mtx : (Nat → Int32)} {mlen : Int32} {mat : Int32} {mfa : Int32} {mac : Int32} {mnx : Int32} {mrow : (Nat → Int32)} {msn : Int32} {mso : (Nat → Int32)} {msc : (Nat → Int32)} {msw : (Nat → Int32)} {mseed : Int64} {mik : (Nat → Int32)} {mkp : (Nat → Int32)} {x1 : Int32} {x2 : Int32} {x3 : Int32} {x4 : Int32} {x6 : Int32} {x7 : Int32} {rec201 : Int32 → (Nat → Int32) → Option (Int32 × (Nat → Int32))} {res : Int32 × (Nat → Int32)} (hrec201 : ∀ (x7 : Int32) (mnow : (Nat → Int32)), rec201 x7 mnow = some res → Mx p l e ({ frames := 3, cells := 0, slots := 0, locals := 68 } : Room) s m args below meth c (MQ below (QI D (tyA cyI cyZ cyW) A (wMO cyI cyZ cyW md mflags mtubs mpegs mcl mws mho res.2 mrd mrh mrf mtx mlen mat mfa mac mnx mrow msn mso msc msw mseed mik mkp) res.1) args s 0 0 A) 8 D A 0 0 (wMO cyI cyZ cyW md mflags mtubs mpegs mcl mws mho mnow mrd mrh mrf mtx mlen mat mfa mac mnx mrow msn mso msc msw mseed mik mkp) 201 [(0, .ref (md 0)), (1, .int x1), (2, .int x2), (3, .int x3), (4, .int x4), (6, .int x6), (7, .int x7)] []) (h : fX10_passOn_276 rec201 x1 x2 x3 x4 x6 x7 mflags mtubs mpegs mcl mnow = some res) : Mx p l e ({ frames := 3, cells := 0, slots := 0, locals := 68 } : Room) s m args below meth c (MQ below (QI D (tyA cyI cyZ cyW) A (wMO cyI cyZ cyW md mflags mtubs mpegs mcl mws mho res.2 mrd mrh mrf mtx mlen mat mfa mac mnx mrow msn mso msc msw mseed mik mkp) res.1) args s 0 0 A) 8 D A 0 0 (wMO cyI cyZ cyW md mflags mtubs mpegs mcl mws mho mnow mrd mrh mrf mtx mlen mat mfa mac mnx mrow msn mso msc msw mseed mik mkp) 276 [(0, .ref (md 0)), (1, .int x1), (2, .int x2), (3, .int x3), (4, .int x4), (6, .int x6), (7, .int x7)] [] := by
  unfold fX10_passOn_276 at h
  refine r_iinc (v := 1) (lv' := [(7, .int (x7 + (1 : Int32))), (0, .ref (md 0)), (1, .int x1), (2, .int x2), (3, .int x3), (4, .int x4), (6, .int x6)]) C dX10_passOn_276 6 rfl ic_1 (by decide) rfl ?_
  refine r_goto (tgt := 201) C dX10_passOn_279 (by decide) ?_
  refine r_lv (lv' := [(0, .ref (md 0)), (1, .int x1), (2, .int x2), (3, .int x3), (4, .int x4), (6, .int x6), (7, .int (x7 + (1 : Int32)))]) [1, 2, 3, 4, 5, 6, 0] rfl ?_
  exact hrec201 (x7 + (1 : Int32)) mnow h
set_option maxHeartbeats 4000000 in
set_option maxRecDepth 100000 in
theorem LX10_passOn_267 {p : Program} {l : Launch} {e : Env} {s : State} {m : MethodId} {args : Array Value} {below : List Frame} {meth : Method} {c : Code} {D : va_G} {cyI cyZ cyW : ClassId} {zW zO : Nat} {A : Nat → Prop} (C : Cx p s m args meth c cX10_passOn RX10 "passOn" wsX10_passOn (some .int) 8 D (tyA cyI cyZ cyW) zW zO A) {md : Nat → Nat} {mflags : Int32} {mtubs : Int32} {mpegs : Int32} {mcl : (Nat → Int32)} {mws : (Nat → Int32)} {mho : (Nat → Int32)} {mnow : (Nat → Int32)} {mrd : (Nat → Int32)} {mrh : (Nat → Int32)} {mrf : Int32} {mtx : (Nat → Int32)} {mlen : Int32} {mat : Int32} {mfa : Int32} {mac : Int32} {mnx : Int32} {mrow : (Nat → Int32)} {msn : Int32} {mso : (Nat → Int32)} {msc : (Nat → Int32)} {msw : (Nat → Int32)} {mseed : Int64} {mik : (Nat → Int32)} {mkp : (Nat → Int32)} {x1 : Int32} {x2 : Int32} {x3 : Int32} {x4 : Int32} {x6 : Int32} {x7 : Int32} {y0 : Bool} {y1 : Int32} {y2 : Int32} {rec201 : Int32 → (Nat → Int32) → Option (Int32 × (Nat → Int32))} {res : Int32 × (Nat → Int32)} (hrec201 : ∀ (x7 : Int32) (mnow : (Nat → Int32)), rec201 x7 mnow = some res → Mx p l e ({ frames := 3, cells := 0, slots := 0, locals := 68 } : Room) s m args below meth c (MQ below (QI D (tyA cyI cyZ cyW) A (wMO cyI cyZ cyW md mflags mtubs mpegs mcl mws mho res.2 mrd mrh mrf mtx mlen mat mfa mac mnx mrow msn mso msc msw mseed mik mkp) res.1) args s 0 0 A) 8 D A 0 0 (wMO cyI cyZ cyW md mflags mtubs mpegs mcl mws mho mnow mrd mrh mrf mtx mlen mat mfa mac mnx mrow msn mso msc msw mseed mik mkp) 201 [(0, .ref (md 0)), (1, .int x1), (2, .int x2), (3, .int x3), (4, .int x4), (6, .int x6), (7, .int x7)] []) (h : fX10_passOn_267 rec201 x1 x2 x3 x4 x6 x7 y0 y1 y2 mflags mtubs mpegs mcl mnow = some res) : Mx p l e ({ frames := 3, cells := 0, slots := 0, locals := 68 } : Room) s m args below meth c (MQ below (QI D (tyA cyI cyZ cyW) A (wMO cyI cyZ cyW md mflags mtubs mpegs mcl mws mho res.2 mrd mrh mrf mtx mlen mat mfa mac mnx mrow msn mso msc msw mseed mik mkp) res.1) args s 0 0 A) 8 D A 0 0 (wMO cyI cyZ cyW md mflags mtubs mpegs mcl mws mho mnow mrd mrh mrf mtx mlen mat mfa mac mnx mrow msn mso msc msw mseed mik mkp) 267 [(0, .ref (md 0)), (1, .int x1), (2, .int x2), (3, .int x3), (4, .int x4), (6, .int x6), (7, .int x7)] [.int (b2i y0), .int y1, .int y2, .ref (md 4)] := by
  unfold fX10_passOn_267 at h
  refine r_isub C dX10_passOn_267 ?_
  obtain ⟨hu26, h⟩ := ob_if h
  refine r_iast (ws1 := (wMO cyI cyZ cyW md mflags mtubs mpegs mcl mws mho (upd mnow y2.toNatClampNeg (y1 - (b2i y0))) mrd mrh mrf mtx mlen mat mfa mac mnx mrow msn mso msc msw mseed mik mkp)) C 4 0 rfl rfl (inb_vp hu26) rfl dX10_passOn_268 ?_
  refine r_aload_n C dX10_passOn_269 0 rfl rfl ?_
  refine r_iload_n C dX10_passOn_270 1 rfl rfl ?_
  refine r_iload C dX10_passOn_271 6 rfl ?_
  obtain ⟨u27, hu27, h⟩ := ob_bind h
  refine r_callVV (q0 := 0) (As := [.int x1, .int x7]) (rest := []) (ws1 := (wMO cyI cyZ cyW md mflags mtubs mpegs mcl mws mho u27 mrd mrh mrf mtx mlen mat mfa mac mnx mrow msn mso msc msw mseed mik mkp)) C (kX10_hangOn (md := md) (mflags := mflags) (mtubs := mtubs) (mpegs := mpegs) (mcl := mcl) (mws := mws) (mho := mho) (mnow := (upd mnow y2.toNatClampNeg (y1 - (b2i y0)))) (mrd := mrd) (mrh := mrh) (mrf := mrf) (mtx := mtx) (mlen := mlen) (mat := mat) (mfa := mfa) (mac := mac) (mnx := mnx) (mrow := mrow) (msn := msn) (mso := mso) (msc := msc) (msw := msw) (mseed := mseed) (mik := mik) (mkp := mkp) (x1 := x1) (x2 := x7) hu27) gX10_passOn_X10_hangOn rfl rfl rfl ⟨rfl, hd_X10_hangOn⟩ ⟨by decide, by decide⟩ rfl rfl rfl rfl [0, 1, 2, 3, 4, 5, 6, 7, 8, 9, 10, 11, 12, 13] (by decide) in_79 se_79 (adrMO.trans adrMO.symm) rfl (Nat.le_of_ble_eq_true rfl) dX10_passOn_273 ⟨Nat.zero_le _, Nat.zero_le _⟩ ?_
  refine r_lv (lv' := [(0, .ref (md 0)), (1, .int x1), (2, .int x2), (3, .int x3), (4, .int x4), (6, .int x6), (7, .int x7)]) [0, 1, 2, 3, 4, 5, 6] rfl ?_
  exact LX10_passOn_276 C (x1 := x1) (x2 := x2) (x3 := x3) (x4 := x4) (x6 := x6) (x7 := x7) (mflags := mflags) (mtubs := mtubs) (mpegs := mpegs) (mcl := mcl) (mws := mws) (mho := mho) (mnow := u27) (mrd := mrd) (mrh := mrh) (mrf := mrf) (mtx := mtx) (mlen := mlen) (mat := mat) (mfa := mfa) (mac := mac) (mnx := mnx) (mrow := mrow) (msn := msn) (mso := mso) (msc := msc) (msw := msw) (mseed := mseed) (mik := mik) (mkp := mkp) hrec201 h
set_option maxHeartbeats 4000000 in
set_option maxRecDepth 100000 in
theorem LGX10_passOn_201 {p : Program} {l : Launch} {e : Env} {s : State} {m : MethodId} {args : Array Value} {below : List Frame} {meth : Method} {c : Code} {D : va_G} {cyI cyZ cyW : ClassId} {zW zO : Nat} {A : Nat → Prop} (C : Cx p s m args meth c cX10_passOn RX10 "passOn" wsX10_passOn (some .int) 8 D (tyA cyI cyZ cyW) zW zO A) {md : Nat → Nat} {mflags : Int32} {mtubs : Int32} {mpegs : Int32} {mcl : (Nat → Int32)} {mws : (Nat → Int32)} {mho : (Nat → Int32)} {mnow : (Nat → Int32)} {mrd : (Nat → Int32)} {mrh : (Nat → Int32)} {mrf : Int32} {mtx : (Nat → Int32)} {mlen : Int32} {mat : Int32} {mfa : Int32} {mac : Int32} {mnx : Int32} {mrow : (Nat → Int32)} {msn : Int32} {mso : (Nat → Int32)} {msc : (Nat → Int32)} {msw : (Nat → Int32)} {mseed : Int64} {mik : (Nat → Int32)} {mkp : (Nat → Int32)} {x1 : Int32} {x2 : Int32} {x3 : Int32} {x4 : Int32} {x6 : Int32} {x7 : Int32} {rec201 : Int32 → (Nat → Int32) → Option (Int32 × (Nat → Int32))} {res : Int32 × (Nat → Int32)} (hrec201 : ∀ (x7 : Int32) (mnow : (Nat → Int32)), rec201 x7 mnow = some res → Mx p l e ({ frames := 3, cells := 0, slots := 0, locals := 68 } : Room) s m args below meth c (MQ below (QI D (tyA cyI cyZ cyW) A (wMO cyI cyZ cyW md mflags mtubs mpegs mcl mws mho res.2 mrd mrh mrf mtx mlen mat mfa mac mnx mrow msn mso msc msw mseed mik mkp) res.1) args s 0 0 A) 8 D A 0 0 (wMO cyI cyZ cyW md mflags mtubs mpegs mcl mws mho mnow mrd mrh mrf mtx mlen mat mfa mac mnx mrow msn mso msc msw mseed mik mkp) 201 [(0, .ref (md 0)), (1, .int x1), (2, .int x2), (3, .int x3), (4, .int x4), (6, .int x6), (7, .int x7)] []) (h : gX10_passOn_201 rec201 x1 x2 x3 x4 x6 x7 mflags mtubs mpegs mcl mnow = some res) : Mx p l e ({ frames := 3, cells := 0, slots := 0, locals := 68 } : Room) s m args below meth c (MQ below (QI D (tyA cyI cyZ cyW) A (wMO cyI cyZ cyW md mflags mtubs mpegs mcl mws mho res.2 mrd mrh mrf mtx mlen mat mfa mac mnx mrow msn mso msc msw mseed mik mkp) res.1) args s 0 0 A) 8 D A 0 0 (wMO cyI cyZ cyW md mflags mtubs mpegs mcl mws mho mnow mrd mrh mrf mtx mlen mat mfa mac mnx mrow msn mso msc msw mseed mik mkp) 201 [(0, .ref (md 0)), (1, .int x1), (2, .int x2), (3, .int x3), (4, .int x4), (6, .int x6), (7, .int x7)] [] := by
  unfold gX10_passOn_201 at h
  refine r_iload C dX10_passOn_201 6 rfl ?_
  refine r_aload_n C dX10_passOn_203 0 rfl rfl ?_
  refine r_get (ci := 7) (CC := RX10) (T := TX10) (N := 24) (v := .int mflags) C hinX10_passOn_X10 0 rfl rfl 0 (by decide) mX10_passOn_1 rfl rfl dX10_passOn_204 ?_
  refine r_icmp_ge (tgt := 282) C dX10_passOn_207 (by decide) (fun c14 => ?_) (fun c14 => ?_)
  · replace h := ob_t h c14
    refine r_aload_n C dX10_passOn_282 0 rfl rfl ?_
    refine r_get (ci := 7) (CC := RX10) (T := TX10) (N := 24) (v := .ref (md 4)) C hinX10_passOn_X10 0 rfl rfl 6 (by decide) mX10_passOn_2 rfl rfl dX10_passOn_283 ?_
    refine r_iload_n C dX10_passOn_286 2 rfl rfl ?_
    refine r_bipush (v := 16) C dX10_passOn_287 bp_16 ?_
    refine r_iadd C dX10_passOn_289 ?_
    refine r_dup2 C dX10_passOn_290 rfl rfl ?_
    obtain ⟨hu15, h⟩ := ob_if h
    refine r_iald C 4 0 rfl rfl (inb_vp hu15) dX10_passOn_291 ?_
    refine r_iconst (v := 1) C dX10_passOn_292 ic_1 ?_
    refine r_iadd C dX10_passOn_293 ?_
    obtain ⟨hu16, h⟩ := ob_if h
    refine r_iast (ws1 := (wMO cyI cyZ cyW md mflags mtubs mpegs mcl mws mho (upd mnow (x2 + (16 : Int32)).toNatClampNeg ((mnow (x2 + (16 : Int32)).toNatClampNeg) + (1 : Int32))) mrd mrh mrf mtx mlen mat mfa mac mnx mrow msn mso msc msw mseed mik mkp)) C 4 0 rfl rfl (inb_vp hu16) rfl dX10_passOn_294 ?_
    refine r_iload_n C dX10_passOn_295 3 rfl rfl ?_
    have h9 := Option.some.inj h
    subst h9
    exact r_iret C rfl dX10_passOn_296
  · replace h := ob_f h c14
    refine r_iload C dX10_passOn_210 4 rfl ?_
    refine r_iload C dX10_passOn_212 6 rfl ?_
    obtain ⟨u17, hu17, h⟩ := ob_bind h
    refine r_readSI (As := [.int x4, .int x7]) (rest := []) C (kX10_has   (x0 := x4) (x1 := x7) hu17) gX10_passOn_X10_has rfl rfl rfl hd_X10_has ⟨by decide, by decide⟩ rfl [] (by decide) rfl rfl (Nat.le_of_ble_eq_true rfl) dX10_passOn_214 ⟨Nat.zero_le _, Nat.zero_le _⟩ ?_
    refine r_ifb_eq (tgt := 276) C dX10_passOn_217 (by decide) (fun c18 => ?_) (fun c18 => ?_)
    · replace h := ob_bf h c18
      refine r_lv (lv' := [(0, .ref (md 0)), (1, .int x1), (2, .int x2), (3, .int x3), (4, .int x4), (6, .int x6), (7, .int x7)]) [0, 1, 2, 3, 4, 5, 6] rfl ?_
      exact LX10_passOn_276 C (x1 := x1) (x2 := x2) (x3 := x3) (x4 := x4) (x6 := x6) (x7 := x7) (mflags := mflags) (mtubs := mtubs) (mpegs := mpegs) (mcl := mcl) (mws := mws) (mho := mho) (mnow := mnow) (mrd := mrd) (mrh := mrh) (mrf := mrf) (mtx := mtx) (mlen := mlen) (mat := mat) (mfa := mfa) (mac := mac) (mnx := mnx) (mrow := mrow) (msn := msn) (mso := mso) (msc := msc) (msw := msw) (mseed := mseed) (mik := mik) (mkp := mkp) hrec201 h
    · replace h := ob_t h c18
      refine r_aload_n C dX10_passOn_220 0 rfl rfl ?_
      refine r_get (ci := 7) (CC := RX10) (T := TX10) (N := 24) (v := .ref (md 4)) C hinX10_passOn_X10 0 rfl rfl 6 (by decide) mX10_passOn_2 rfl rfl dX10_passOn_221 ?_
      refine r_iload_n C dX10_passOn_224 2 rfl rfl ?_
      refine r_iload C dX10_passOn_225 6 rfl ?_
      refine r_iadd C dX10_passOn_227 ?_
      refine r_dup2 C dX10_passOn_228 rfl rfl ?_
      obtain ⟨hu19, h⟩ := ob_if h
      refine r_iald C 4 0 rfl rfl (inb_vp hu19) dX10_passOn_229 ?_
      refine r_iload C dX10_passOn_230 5 rfl ?_
      refine r_ior C dX10_passOn_232 ?_
      obtain ⟨hu20, h⟩ := ob_if h
      refine r_iast (ws1 := (wMO cyI cyZ cyW md mflags mtubs mpegs mcl mws mho (upd mnow (x2 + x7).toNatClampNeg ((mnow (x2 + x7).toNatClampNeg) ||| x6)) mrd mrh mrf mtx mlen mat mfa mac mnx mrow msn mso msc msw mseed mik mkp)) C 4 0 rfl rfl (inb_vp hu20) rfl dX10_passOn_233 ?_
      refine r_aload_n C dX10_passOn_234 0 rfl rfl ?_
      refine r_get (ci := 7) (CC := RX10) (T := TX10) (N := 24) (v := .ref (md 4)) C hinX10_passOn_X10 0 rfl rfl 6 (by decide) mX10_passOn_2 rfl rfl dX10_passOn_235 ?_
      refine r_iload_n C dX10_passOn_238 2 rfl rfl ?_
      refine r_bipush (v := 10) C dX10_passOn_239 bp_10 ?_
      refine r_iadd C dX10_passOn_241 ?_
      refine r_iload C dX10_passOn_242 6 rfl ?_
      refine r_iadd C dX10_passOn_244 ?_
      refine r_dup2 C dX10_passOn_245 rfl rfl ?_
      obtain ⟨hu21, h⟩ := ob_if h
      refine r_iald C 4 0 rfl rfl (inb_vp hu21) dX10_passOn_246 ?_
      refine r_aload_n C dX10_passOn_247 0 rfl rfl ?_
      refine r_get (ci := 7) (CC := RX10) (T := TX10) (N := 24) (v := .ref (md 4)) C hinX10_passOn_X10 0 rfl rfl 6 (by decide) mX10_passOn_2 rfl rfl dX10_passOn_248 ?_
      refine r_iload_n C dX10_passOn_251 2 rfl rfl ?_
      refine r_bipush (v := 10) C dX10_passOn_252 bp_10 ?_
      refine r_iadd C dX10_passOn_254 ?_
      refine r_iload C dX10_passOn_255 6 rfl ?_
      refine r_iadd C dX10_passOn_257 ?_
      obtain ⟨hu22, h⟩ := ob_if h
      refine r_iald C 4 0 rfl rfl (inb_vp hu22) dX10_passOn_258 ?_
      refine r_if_le (tgt := 266) C dX10_passOn_259 (by decide) (fun c23 => ?_) (fun c23 => ?_)
      · replace h := ob_t h c23
        refine r_iconst (v := 0) C dX10_passOn_266 ic_0 ?_
        refine r_lv (lv' := [(0, .ref (md 0)), (1, .int x1), (2, .int x2), (3, .int x3), (4, .int x4), (6, .int x6), (7, .int x7)]) [0, 1, 2, 3, 4, 5, 6] rfl ?_
        exact LX10_passOn_267 C (x1 := x1) (x2 := x2) (x3 := x3) (x4 := x4) (x6 := x6) (x7 := x7) (y0 := false) (y1 := ((upd mnow (x2 + x7).toNatClampNeg ((mnow (x2 + x7).toNatClampNeg) ||| x6)) ((x2 + (10 : Int32)) + x7).toNatClampNeg)) (y2 := ((x2 + (10 : Int32)) + x7)) (mflags := mflags) (mtubs := mtubs) (mpegs := mpegs) (mcl := mcl) (mws := mws) (mho := mho) (mnow := (upd mnow (x2 + x7).toNatClampNeg ((mnow (x2 + x7).toNatClampNeg) ||| x6))) (mrd := mrd) (mrh := mrh) (mrf := mrf) (mtx := mtx) (mlen := mlen) (mat := mat) (mfa := mfa) (mac := mac) (mnx := mnx) (mrow := mrow) (msn := msn) (mso := mso) (msc := msc) (msw := msw) (mseed := mseed) (mik := mik) (mkp := mkp) hrec201 h
      · replace h := ob_f h c23
        refine r_iconst (v := 1) C dX10_passOn_262 ic_1 ?_
        refine r_goto (tgt := 267) C dX10_passOn_263 (by decide) ?_
        refine r_lv (lv' := [(0, .ref (md 0)), (1, .int x1), (2, .int x2), (3, .int x3), (4, .int x4), (6, .int x6), (7, .int x7)]) [0, 1, 2, 3, 4, 5, 6] rfl ?_
        exact LX10_passOn_267 C (x1 := x1) (x2 := x2) (x3 := x3) (x4 := x4) (x6 := x6) (x7 := x7) (y0 := true) (y1 := ((upd mnow (x2 + x7).toNatClampNeg ((mnow (x2 + x7).toNatClampNeg) ||| x6)) ((x2 + (10 : Int32)) + x7).toNatClampNeg)) (y2 := ((x2 + (10 : Int32)) + x7)) (mflags := mflags) (mtubs := mtubs) (mpegs := mpegs) (mcl := mcl) (mws := mws) (mho := mho) (mnow := (upd mnow (x2 + x7).toNatClampNeg ((mnow (x2 + x7).toNatClampNeg) ||| x6))) (mrd := mrd) (mrh := mrh) (mrf := mrf) (mtx := mtx) (mlen := mlen) (mat := mat) (mfa := mfa) (mac := mac) (mnx := mnx) (mrow := mrow) (msn := msn) (mso := mso) (msc := msc) (msw := msw) (mseed := mseed) (mik := mik) (mkp := mkp) hrec201 h
set_option maxHeartbeats 4000000 in
set_option maxRecDepth 100000 in
theorem LX10_passOn_201 {p : Program} {l : Launch} {e : Env} {s : State} {m : MethodId} {args : Array Value} {below : List Frame} {meth : Method} {c : Code} {D : va_G} {cyI cyZ cyW : ClassId} {zW zO : Nat} {A : Nat → Prop} (C : Cx p s m args meth c cX10_passOn RX10 "passOn" wsX10_passOn (some .int) 8 D (tyA cyI cyZ cyW) zW zO A) {md : Nat → Nat} {x1 : Int32} {x2 : Int32} {x3 : Int32} {x4 : Int32} {x6 : Int32} {mflags : Int32} {mtubs : Int32} {mpegs : Int32} {mcl : (Nat → Int32)} {mws : (Nat → Int32)} {mho : (Nat → Int32)} {mrd : (Nat → Int32)} {mrh : (Nat → Int32)} {mrf : Int32} {mtx : (Nat → Int32)} {mlen : Int32} {mat : Int32} {mfa : Int32} {mac : Int32} {mnx : Int32} {mrow : (Nat → Int32)} {msn : Int32} {mso : (Nat → Int32)} {msc : (Nat → Int32)} {msw : (Nat → Int32)} {mseed : Int64} {mik : (Nat → Int32)} {mkp : (Nat → Int32)}  {res : Int32 × (Nat → Int32)}  : ∀ (n : Nat) (x7 : Int32) (mnow : (Nat → Int32)), fX10_passOn_201  x1 x2 x3 x4 x6 mflags mtubs mpegs mcl n x7 mnow = some res → Mx p l e ({ frames := 3, cells := 0, slots := 0, locals := 68 } : Room) s m args below meth c (MQ below (QI D (tyA cyI cyZ cyW) A (wMO cyI cyZ cyW md mflags mtubs mpegs mcl mws mho res.2 mrd mrh mrf mtx mlen mat mfa mac mnx mrow msn mso msc msw mseed mik mkp) res.1) args s 0 0 A) 8 D A 0 0 (wMO cyI cyZ cyW md mflags mtubs mpegs mcl mws mho mnow mrd mrh mrf mtx mlen mat mfa mac mnx mrow msn mso msc msw mseed mik mkp) 201 [(0, .ref (md 0)), (1, .int x1), (2, .int x2), (3, .int x3), (4, .int x4), (6, .int x6), (7, .int x7)] [] := by
  intro n
  induction n with
  | zero => intro x7 mnow h; cases h
  | succ n ih => intro x7 mnow h; exact LGX10_passOn_201 C ih h
set_option maxHeartbeats 4000000 in
set_option maxRecDepth 100000 in
theorem LX10_passOn_180 {p : Program} {l : Launch} {e : Env} {s : State} {m : MethodId} {args : Array Value} {below : List Frame} {meth : Method} {c : Code} {D : va_G} {cyI cyZ cyW : ClassId} {zW zO : Nat} {A : Nat → Prop} (C : Cx p s m args meth c cX10_passOn RX10 "passOn" wsX10_passOn (some .int) 8 D (tyA cyI cyZ cyW) zW zO A) {md : Nat → Nat} {mflags : Int32} {mtubs : Int32} {mpegs : Int32} {mcl : (Nat → Int32)} {mws : (Nat → Int32)} {mho : (Nat → Int32)} {mnow : (Nat → Int32)} {mrd : (Nat → Int32)} {mrh : (Nat → Int32)} {mrf : Int32} {mtx : (Nat → Int32)} {mlen : Int32} {mat : Int32} {mfa : Int32} {mac : Int32} {mnx : Int32} {mrow : (Nat → Int32)} {msn : Int32} {mso : (Nat → Int32)} {msc : (Nat → Int32)} {msw : (Nat → Int32)} {mseed : Int64} {mik : (Nat → Int32)} {mkp : (Nat → Int32)} {x1 : Int32} {x2 : Int32} {x3 : Int32} {x4 : Int32} {x6 : Int32} {y0 : Int32} {y1 : Int32} {rec140 : Int32 → Int32 → Option (Int32 × (Nat → Int32))} {res : Int32 × (Nat → Int32)} (hrec140 : ∀ (x5 : Int32) (x6 : Int32), rec140 x5 x6 = some res → Mx p l e ({ frames := 3, cells := 0, slots := 0, locals := 68 } : Room) s m args below meth c (MQ below (QI D (tyA cyI cyZ cyW) A (wMO cyI cyZ cyW md mflags mtubs mpegs mcl mws mho res.2 mrd mrh mrf mtx mlen mat mfa mac mnx mrow msn mso msc msw mseed mik mkp) res.1) args s 0 0 A) 8 D A 0 0 (wMO cyI cyZ cyW md mflags mtubs mpegs mcl mws mho mnow mrd mrh mrf mtx mlen mat mfa mac mnx mrow msn mso msc msw mseed mik mkp) 140 [(0, .ref (md 0)), (1, .int x1), (2, .int x2), (3, .int x3), (4, .int x4), (5, .int x5), (6, .int x6)] []) (h : fX10_passOn_180 rec140 x1 x2 x3 x4 x6 y0 y1 mflags mtubs mpegs mcl mnow = some res) : Mx p l e ({ frames := 3, cells := 0, slots := 0, locals := 68 } : Room) s m args below meth c (MQ below (QI D (tyA cyI cyZ cyW) A (wMO cyI cyZ cyW md mflags mtubs mpegs mcl mws mho res.2 mrd mrh mrf mtx mlen mat mfa mac mnx mrow msn mso msc msw mseed mik mkp) res.1) args s 0 0 A) 8 D A 0 0 (wMO cyI cyZ cyW md mflags mtubs mpegs mcl mws mho mnow mrd mrh mrf mtx mlen mat mfa mac mnx mrow msn mso msc msw mseed mik mkp) 180 [(0, .ref (md 0)), (1, .int x1), (2, .int x2), (3, .int x3), (4, .int x4), (6, .int x6)] [.int y0, .int y1] := by
  unfold fX10_passOn_180 at h
  refine r_ior C dX10_passOn_180 ?_
  refine r_istore (lv' := [(5, .int (y1 ||| y0)), (0, .ref (md 0)), (1, .int x1), (2, .int x2), (3, .int x3), (4, .int x4), (6, .int x6)]) C dX10_passOn_181 (by decide) rfl ?_
  refine r_iinc (v := 1) (lv' := [(6, .int (x6 + (1 : Int32))), (5, .int (y1 ||| y0)), (0, .ref (md 0)), (1, .int x1), (2, .int x2), (3, .int x3), (4, .int x4)]) C dX10_passOn_183 6 rfl ic_1 (by decide) rfl ?_
  refine r_goto (tgt := 140) C dX10_passOn_186 (by decide) ?_
  refine r_lv (lv' := [(0, .ref (md 0)), (1, .int x1), (2, .int x2), (3, .int x3), (4, .int x4), (5, .int (y1 ||| y0)), (6, .int (x6 + (1 : Int32)))]) [2, 3, 4, 5, 6, 1, 0] rfl ?_
  exact hrec140 (y1 ||| y0) (x6 + (1 : Int32)) h
set_option maxHeartbeats 4000000 in
set_option maxRecDepth 100000 in
theorem LX10_passOn_179 {p : Program} {l : Launch} {e : Env} {s : State} {m : MethodId} {args : Array Value} {below : List Frame} {meth : Method} {c : Code} {D : va_G} {cyI cyZ cyW : ClassId} {zW zO : Nat} {A : Nat → Prop} (C : Cx p s m args meth c cX10_passOn RX10 "passOn" wsX10_passOn (some .int) 8 D (tyA cyI cyZ cyW) zW zO A) {md : Nat → Nat} {mflags : Int32} {mtubs : Int32} {mpegs : Int32} {mcl : (Nat → Int32)} {mws : (Nat → Int32)} {mho : (Nat → Int32)} {mnow : (Nat → Int32)} {mrd : (Nat → Int32)} {mrh : (Nat → Int32)} {mrf : Int32} {mtx : (Nat → Int32)} {mlen : Int32} {mat : Int32} {mfa : Int32} {mac : Int32} {mnx : Int32} {mrow : (Nat → Int32)} {msn : Int32} {mso : (Nat → Int32)} {msc : (Nat → Int32)} {msw : (Nat → Int32)} {mseed : Int64} {mik : (Nat → Int32)} {mkp : (Nat → Int32)} {x1 : Int32} {x2 : Int32} {x3 : Int32} {x4 : Int32} {x6 : Int32} {y0 : Int32} {rec140 : Int32 → Int32 → Option (Int32 × (Nat → Int32))} {res : Int32 × (Nat → Int32)} (hrec140 : ∀ (x5 : Int32) (x6 : Int32), rec140 x5 x6 = some res → Mx p l e ({ frames := 3, cells := 0, slots := 0, locals := 68 } : Room) s m args below meth c (MQ below (QI D (tyA cyI cyZ cyW) A (wMO cyI cyZ cyW md mflags mtubs mpegs mcl mws mho res.2 mrd mrh mrf mtx mlen mat mfa mac mnx mrow msn mso msc msw mseed mik mkp) res.1) args s 0 0 A) 8 D A 0 0 (wMO cyI cyZ cyW md mflags mtubs mpegs mcl mws mho mnow mrd mrh mrf mtx mlen mat mfa mac mnx mrow msn mso msc msw mseed mik mkp) 140 [(0, .ref (md 0)), (1, .int x1), (2, .int x2), (3, .int x3), (4, .int x4), (5, .int x5), (6, .int x6)] []) (h : fX10_passOn_179 rec140 x1 x2 x3 x4 x6 y0 mflags mtubs mpegs mcl mnow = some res) : Mx p l e ({ frames := 3, cells := 0, slots := 0, locals := 68 } : Room) s m args below meth c (MQ below (QI D (tyA cyI cyZ cyW) A (wMO cyI cyZ cyW md mflags mtubs mpegs mcl mws mho res.2 mrd mrh mrf mtx mlen mat mfa mac mnx mrow msn mso msc msw mseed mik mkp) res.1) args s 0 0 A) 8 D A 0 0 (wMO cyI cyZ cyW md mflags mtubs mpegs mcl mws mho mnow mrd mrh mrf mtx mlen mat mfa mac mnx mrow msn mso msc msw mseed mik mkp) 179 [(0, .ref (md 0)), (1, .int x1), (2, .int x2), (3, .int x3), (4, .int x4), (6, .int x6)] [.int y0] := by
  unfold fX10_passOn_179 at h
  refine r_iconst (v := 0) C dX10_passOn_179 ic_0 ?_
  refine r_lv (lv' := [(0, .ref (md 0)), (1, .int x1), (2, .int x2), (3, .int x3), (4, .int x4), (6, .int x6)]) [0, 1, 2, 3, 4, 5] rfl ?_
  exact LX10_passOn_180 C (x1 := x1) (x2 := x2) (x3 := x3) (x4 := x4) (x6 := x6) (y0 := (0 : Int32)) (y1 := y0) (mflags := mflags) (mtubs := mtubs) (mpegs := mpegs) (mcl := mcl) (mws := mws) (mho := mho) (mnow := mnow) (mrd := mrd) (mrh := mrh) (mrf := mrf) (mtx := mtx) (mlen := mlen) (mat := mat) (mfa := mfa) (mac := mac) (mnx := mnx) (mrow := mrow) (msn := msn) (mso := mso) (msc := msc) (msw := msw) (mseed := mseed) (mik := mik) (mkp := mkp) hrec140 h
set_option maxHeartbeats 4000000 in
set_option maxRecDepth 100000 in
theorem LGX10_passOn_140 {p : Program} {l : Launch} {e : Env} {s : State} {m : MethodId} {args : Array Value} {below : List Frame} {meth : Method} {c : Code} {D : va_G} {cyI cyZ cyW : ClassId} {zW zO : Nat} {A : Nat → Prop} (C : Cx p s m args meth c cX10_passOn RX10 "passOn" wsX10_passOn (some .int) 8 D (tyA cyI cyZ cyW) zW zO A) {md : Nat → Nat} {mflags : Int32} {mtubs : Int32} {mpegs : Int32} {mcl : (Nat → Int32)} {mws : (Nat → Int32)} {mho : (Nat → Int32)} {mnow : (Nat → Int32)} {mrd : (Nat → Int32)} {mrh : (Nat → Int32)} {mrf : Int32} {mtx : (Nat → Int32)} {mlen : Int32} {mat : Int32} {mfa : Int32} {mac : Int32} {mnx : Int32} {mrow : (Nat → Int32)} {msn : Int32} {mso : (Nat → Int32)} {msc : (Nat → Int32)} {msw : (Nat → Int32)} {mseed : Int64} {mik : (Nat → Int32)} {mkp : (Nat → Int32)} {x1 : Int32} {x2 : Int32} {x3 : Int32} {x4 : Int32} {x5 : Int32} {x6 : Int32} {rec140 : Int32 → Int32 → Option (Int32 × (Nat → Int32))} {res : Int32 × (Nat → Int32)} (hrec140 : ∀ (x5 : Int32) (x6 : Int32), rec140 x5 x6 = some res → Mx p l e ({ frames := 3, cells := 0, slots := 0, locals := 68 } : Room) s m args below meth c (MQ below (QI D (tyA cyI cyZ cyW) A (wMO cyI cyZ cyW md mflags mtubs mpegs mcl mws mho res.2 mrd mrh mrf mtx mlen mat mfa mac mnx mrow msn mso msc msw mseed mik mkp) res.1) args s 0 0 A) 8 D A 0 0 (wMO cyI cyZ cyW md mflags mtubs mpegs mcl mws mho mnow mrd mrh mrf mtx mlen mat mfa mac mnx mrow msn mso msc msw mseed mik mkp) 140 [(0, .ref (md 0)), (1, .int x1), (2, .int x2), (3, .int x3), (4, .int x4), (5, .int x5), (6, .int x6)] []) (h : gX10_passOn_140 rec140 x1 x2 x3 x4 x5 x6 mflags mtubs mpegs mcl mnow = some res) : Mx p l e ({ frames := 3, cells := 0, slots := 0, locals := 68 } : Room) s m args below meth c (MQ below (QI D (tyA cyI cyZ cyW) A (wMO cyI cyZ cyW md mflags mtubs mpegs mcl mws mho res.2 mrd mrh mrf mtx mlen mat mfa mac mnx mrow msn mso msc msw mseed mik mkp) res.1) args s 0 0 A) 8 D A 0 0 (wMO cyI cyZ cyW md mflags mtubs mpegs mcl mws mho mnow mrd mrh mrf mtx mlen mat mfa mac mnx mrow msn mso msc msw mseed mik mkp) 140 [(0, .ref (md 0)), (1, .int x1), (2, .int x2), (3, .int x3), (4, .int x4), (5, .int x5), (6, .int x6)] [] := by
  unfold gX10_passOn_140 at h
  refine r_iload C dX10_passOn_140 6 rfl ?_
  refine r_aload_n C dX10_passOn_142 0 rfl rfl ?_
  refine r_get (ci := 7) (CC := RX10) (T := TX10) (N := 24) (v := .int mflags) C hinX10_passOn_X10 0 rfl rfl 0 (by decide) mX10_passOn_1 rfl rfl dX10_passOn_143 ?_
  refine r_icmp_ge (tgt := 189) C dX10_passOn_146 (by decide) (fun c7 => ?_) (fun c7 => ?_)
  · replace h := ob_t h c7
    refine r_aload_n C dX10_passOn_189 0 rfl rfl ?_
    refine r_iload_n C dX10_passOn_190 1 rfl rfl ?_
    refine r_iload C dX10_passOn_191 5 rfl ?_
    obtain ⟨u8, hu8, h⟩ := ob_bind h
    refine r_readVI (q0 := 0) (As := [.int x1, .int x5]) (rest := []) C (kX10_coloursOf (md := md) (mflags := mflags) (mtubs := mtubs) (mpegs := mpegs) (mcl := mcl) (mws := mws) (mho := mho) (mnow := mnow) (mrd := mrd) (mrh := mrh) (mrf := mrf) (mtx := mtx) (mlen := mlen) (mat := mat) (mfa := mfa) (mac := mac) (mnx := mnx) (mrow := mrow) (msn := msn) (mso := mso) (msc := msc) (msw := msw) (mseed := mseed) (mik := mik) (mkp := mkp) (x1 := x1) (x2 := x5) hu8) gX10_passOn_X10_coloursOf rfl rfl rfl ⟨rfl, hd_X10_coloursOf⟩ ⟨by decide, by decide⟩ rfl rfl rfl rfl [0, 1, 2, 3, 4, 5, 6, 7, 8, 9, 10, 11, 12, 13] (by decide) in_76 rfl (Nat.le_of_ble_eq_true rfl) dX10_passOn_193 ⟨Nat.zero_le _, Nat.zero_le _⟩ ?_
    refine r_istore (lv' := [(6, .int u8), (0, .ref (md 0)), (1, .int x1), (2, .int x2), (3, .int x3), (4, .int x4), (5, .int x5)]) C dX10_passOn_196 (by decide) rfl ?_
    refine r_iconst (v := 0) C dX10_passOn_198 ic_0 ?_
    refine r_istore (lv' := [(7, .int (0 : Int32)), (6, .int u8), (0, .ref (md 0)), (1, .int x1), (2, .int x2), (3, .int x3), (4, .int x4), (5, .int x5)]) C dX10_passOn_199 (by decide) rfl ?_
    refine r_lv (lv' := [(0, .ref (md 0)), (1, .int x1), (2, .int x2), (3, .int x3), (4, .int x4), (6, .int u8), (7, .int (0 : Int32))]) [2, 3, 4, 5, 6, 1, 0] rfl ?_
    exact LX10_passOn_201 C (x1 := x1) (x2 := x2) (x3 := x3) (x4 := x4) (x6 := u8) (mflags := mflags) (mtubs := mtubs) (mpegs := mpegs) (mcl := mcl) (mws := mws) (mho := mho) (mrd := mrd) (mrh := mrh) (mrf := mrf) (mtx := mtx) (mlen := mlen) (mat := mat) (mfa := mfa) (mac := mac) (mnx := mnx) (mrow := mrow) (msn := msn) (mso := mso) (msc := msc) (msw := msw) (mseed := mseed) (mik := mik) (mkp := mkp)  FU (0 : Int32) mnow h
  · replace h := ob_f h c7
    refine r_iload C dX10_passOn_149 5 rfl ?_
    refine r_iload C dX10_passOn_151 4 rfl ?_
    refine r_iload C dX10_passOn_153 6 rfl ?_
    obtain ⟨u9, hu9, h⟩ := ob_bind h
    refine r_readSI (As := [.int x4, .int x6]) (rest := [.int x5]) C (kX10_has   (x0 := x4) (x1 := x6) hu9) gX10_passOn_X10_has rfl rfl rfl hd_X10_has ⟨by decide, by decide⟩ rfl [] (by decide) rfl rfl (Nat.le_of_ble_eq_true rfl) dX10_passOn_155 ⟨Nat.zero_le _, Nat.zero_le _⟩ ?_
    refine r_ifb_eq (tgt := 179) C dX10_passOn_158 (by decide) (fun c10 => ?_) (fun c10 => ?_)
    · replace h := ob_bf h c10
      refine r_lv (lv' := [(0, .ref (md 0)), (1, .int x1), (2, .int x2), (3, .int x3), (4, .int x4), (6, .int x6)]) [0, 1, 2, 3, 4, 6] rfl ?_
      exact LX10_passOn_179 C (x1 := x1) (x2 := x2) (x3 := x3) (x4 := x4) (x6 := x6) (y0 := x5) (mflags := mflags) (mtubs := mtubs) (mpegs := mpegs) (mcl := mcl) (mws := mws) (mho := mho) (mnow := mnow) (mrd := mrd) (mrh := mrh) (mrf := mrf) (mtx := mtx) (mlen := mlen) (mat := mat) (mfa := mfa) (mac := mac) (mnx := mnx) (mrow := mrow) (msn := msn) (mso := mso) (msc := msc) (msw := msw) (mseed := mseed) (mik := mik) (mkp := mkp) hrec140 h
    · replace h := ob_t h c10
      refine r_aload_n C dX10_passOn_161 0 rfl rfl ?_
      refine r_get (ci := 7) (CC := RX10) (T := TX10) (N := 24) (v := .ref (md 1)) C hinX10_passOn_X10 0 rfl rfl 3 (by decide) mX10_passOn_3 rfl rfl dX10_passOn_162 ?_
      refine r_iload C dX10_passOn_165 6 rfl ?_
      obtain ⟨hu11, h⟩ := ob_if h
      refine r_iald C 1 0 rfl rfl (inb_vp hu11) dX10_passOn_167 ?_
      refine r_iconst (v := 3) C dX10_passOn_168 ic_3 ?_
      refine r_icmp_ne (tgt := 179) C dX10_passOn_169 (by decide) (fun c12 => ?_) (fun c12 => ?_)
      · replace h := ob_f h c12
        refine r_lv (lv' := [(0, .ref (md 0)), (1, .int x1), (2, .int x2), (3, .int x3), (4, .int x4), (6, .int x6)]) [0, 1, 2, 3, 4, 6] rfl ?_
        exact LX10_passOn_179 C (x1 := x1) (x2 := x2) (x3 := x3) (x4 := x4) (x6 := x6) (y0 := x5) (mflags := mflags) (mtubs := mtubs) (mpegs := mpegs) (mcl := mcl) (mws := mws) (mho := mho) (mnow := mnow) (mrd := mrd) (mrh := mrh) (mrf := mrf) (mtx := mtx) (mlen := mlen) (mat := mat) (mfa := mfa) (mac := mac) (mnx := mnx) (mrow := mrow) (msn := msn) (mso := mso) (msc := msc) (msw := msw) (mseed := mseed) (mik := mik) (mkp := mkp) hrec140 h
      · replace h := ob_t h c12
        refine r_iconst (v := 1) C dX10_passOn_172 ic_1 ?_
        refine r_iload C dX10_passOn_173 6 rfl ?_
        refine r_ishl C dX10_passOn_175 ?_
        refine r_goto (tgt := 180) C dX10_passOn_176 (by decide) ?_
        refine r_lv (lv' := [(0, .ref (md 0)), (1, .int x1), (2, .int x2), (3, .int x3), (4, .int x4), (6, .int x6)]) [0, 1, 2, 3, 4, 6] rfl ?_
        exact LX10_passOn_180 C (x1 := x1) (x2 := x2) (x3 := x3) (x4 := x4) (x6 := x6) (y0 := ((1 : Int32) <<< (x6 &&& 31))) (y1 := x5) (mflags := mflags) (mtubs := mtubs) (mpegs := mpegs) (mcl := mcl) (mws := mws) (mho := mho) (mnow := mnow) (mrd := mrd) (mrh := mrh) (mrf := mrf) (mtx := mtx) (mlen := mlen) (mat := mat) (mfa := mfa) (mac := mac) (mnx := mnx) (mrow := mrow) (msn := msn) (mso := mso) (msc := msc) (msw := msw) (mseed := mseed) (mik := mik) (mkp := mkp) hrec140 h
set_option maxHeartbeats 4000000 in
set_option maxRecDepth 100000 in
theorem LX10_passOn_140 {p : Program} {l : Launch} {e : Env} {s : State} {m : MethodId} {args : Array Value} {below : List Frame} {meth : Method} {c : Code} {D : va_G} {cyI cyZ cyW : ClassId} {zW zO : Nat} {A : Nat → Prop} (C : Cx p s m args meth c cX10_passOn RX10 "passOn" wsX10_passOn (some .int) 8 D (tyA cyI cyZ cyW) zW zO A) {md : Nat → Nat} {x1 : Int32} {x2 : Int32} {x3 : Int32} {x4 : Int32} {mflags : Int32} {mtubs : Int32} {mpegs : Int32} {mcl : (Nat → Int32)} {mws : (Nat → Int32)} {mho : (Nat → Int32)} {mnow : (Nat → Int32)} {mrd : (Nat → Int32)} {mrh : (Nat → Int32)} {mrf : Int32} {mtx : (Nat → Int32)} {mlen : Int32} {mat : Int32} {mfa : Int32} {mac : Int32} {mnx : Int32} {mrow : (Nat → Int32)} {msn : Int32} {mso : (Nat → Int32)} {msc : (Nat → Int32)} {msw : (Nat → Int32)} {mseed : Int64} {mik : (Nat → Int32)} {mkp : (Nat → Int32)}  {res : Int32 × (Nat → Int32)}  : ∀ (n : Nat) (x5 : Int32) (x6 : Int32), fX10_passOn_140  x1 x2 x3 x4 mflags mtubs mpegs mcl mnow n x5 x6 = some res → Mx p l e ({ frames := 3, cells := 0, slots := 0, locals := 68 } : Room) s m args below meth c (MQ below (QI D (tyA cyI cyZ cyW) A (wMO cyI cyZ cyW md mflags mtubs mpegs mcl mws mho res.2 mrd mrh mrf mtx mlen mat mfa mac mnx mrow msn mso msc msw mseed mik mkp) res.1) args s 0 0 A) 8 D A 0 0 (wMO cyI cyZ cyW md mflags mtubs mpegs mcl mws mho mnow mrd mrh mrf mtx mlen mat mfa mac mnx mrow msn mso msc msw mseed mik mkp) 140 [(0, .ref (md 0)), (1, .int x1), (2, .int x2), (3, .int x3), (4, .int x4), (5, .int x5), (6, .int x6)] [] := by
  intro n
  induction n with
  | zero => intro x5 x6 h; cases h
  | succ n ih => intro x5 x6 h; exact LGX10_passOn_140 C ih h
set_option maxHeartbeats 4000000 in
set_option maxRecDepth 100000 in
theorem LX10_passOn_120 {p : Program} {l : Launch} {e : Env} {s : State} {m : MethodId} {args : Array Value} {below : List Frame} {meth : Method} {c : Code} {D : va_G} {cyI cyZ cyW : ClassId} {zW zO : Nat} {A : Nat → Prop} (C : Cx p s m args meth c cX10_passOn RX10 "passOn" wsX10_passOn (some .int) 8 D (tyA cyI cyZ cyW) zW zO A) {md : Nat → Nat} {mflags : Int32} {mtubs : Int32} {mpegs : Int32} {mcl : (Nat → Int32)} {mws : (Nat → Int32)} {mho : (Nat → Int32)} {mnow : (Nat → Int32)} {mrd : (Nat → Int32)} {mrh : (Nat → Int32)} {mrf : Int32} {mtx : (Nat → Int32)} {mlen : Int32} {mat : Int32} {mfa : Int32} {mac : Int32} {mnx : Int32} {mrow : (Nat → Int32)} {msn : Int32} {mso : (Nat → Int32)} {msc : (Nat → Int32)} {msw : (Nat → Int32)} {mseed : Int64} {mik : (Nat → Int32)} {mkp : (Nat → Int32)} {x1 : Int32} {x2 : Int32} {x3 : Int32} {x4 : Int32} {rec10 : Int32 → Int32 → (Nat → Int32) → Option (Int32 × (Nat → Int32))} {res : Int32 × (Nat → Int32)} (hrec10 : ∀ (x3 : Int32) (x4 : Int32) (mnow : (Nat → Int32)), rec10 x3 x4 mnow = some res → Mx p l e ({ frames := 3, cells := 0, slots := 0, locals := 68 } : Room) s m args below meth c (MQ below (QI D (tyA cyI cyZ cyW) A (wMO cyI cyZ cyW md mflags mtubs mpegs mcl mws mho res.2 mrd mrh mrf mtx mlen mat mfa mac mnx mrow msn mso msc msw mseed mik mkp) res.1) args s 0 0 A) 8 D A 0 0 (wMO cyI cyZ cyW md mflags mtubs mpegs mcl mws mho mnow mrd mrh mrf mtx mlen mat mfa mac mnx mrow msn mso msc msw mseed mik mkp) 10 [(0, .ref (md 0)), (1, .int x1), (2, .int x2), (3, .int x3), (4, .int x4)] []) (h : fX10_passOn_120 rec10 x1 x2 x3 x4 mflags mtubs mpegs mcl mnow = some res) : Mx p l e ({ frames := 3, cells := 0, slots := 0, locals := 68 } : Room) s m args below meth c (MQ below (QI D (tyA cyI cyZ cyW) A (wMO cyI cyZ cyW md mflags mtubs mpegs mcl mws mho res.2 mrd mrh mrf mtx mlen mat mfa mac mnx mrow msn mso msc msw mseed mik mkp) res.1) args s 0 0 A) 8 D A 0 0 (wMO cyI cyZ cyW md mflags mtubs mpegs mcl mws mho mnow mrd mrh mrf mtx mlen mat mfa mac mnx mrow msn mso msc msw mseed mik mkp) 120 [(0, .ref (md 0)), (1, .int x1), (2, .int x2), (3, .int x3), (4, .int x4)] [] := by
  unfold fX10_passOn_120 at h
  refine r_iinc (v := 1) (lv' := [(4, .int (x4 + (1 : Int32))), (0, .ref (md 0)), (1, .int x1), (2, .int x2), (3, .int x3)]) C dX10_passOn_120 4 rfl ic_1 (by decide) rfl ?_
  refine r_goto (tgt := 10) C dX10_passOn_123 (by decide) ?_
  refine r_lv (lv' := [(0, .ref (md 0)), (1, .int x1), (2, .int x2), (3, .int x3), (4, .int (x4 + (1 : Int32)))]) [1, 2, 3, 4, 0] rfl ?_
  exact hrec10 x3 (x4 + (1 : Int32)) mnow h
set_option maxHeartbeats 4000000 in
set_option maxRecDepth 100000 in
theorem LX10_passOn_118 {p : Program} {l : Launch} {e : Env} {s : State} {m : MethodId} {args : Array Value} {below : List Frame} {meth : Method} {c : Code} {D : va_G} {cyI cyZ cyW : ClassId} {zW zO : Nat} {A : Nat → Prop} (C : Cx p s m args meth c cX10_passOn RX10 "passOn" wsX10_passOn (some .int) 8 D (tyA cyI cyZ cyW) zW zO A) {md : Nat → Nat} {mflags : Int32} {mtubs : Int32} {mpegs : Int32} {mcl : (Nat → Int32)} {mws : (Nat → Int32)} {mho : (Nat → Int32)} {mnow : (Nat → Int32)} {mrd : (Nat → Int32)} {mrh : (Nat → Int32)} {mrf : Int32} {mtx : (Nat → Int32)} {mlen : Int32} {mat : Int32} {mfa : Int32} {mac : Int32} {mnx : Int32} {mrow : (Nat → Int32)} {msn : Int32} {mso : (Nat → Int32)} {msc : (Nat → Int32)} {msw : (Nat → Int32)} {mseed : Int64} {mik : (Nat → Int32)} {mkp : (Nat → Int32)} {x1 : Int32} {x2 : Int32} {x4 : Int32} {y0 : Int32} {y1 : Int32} {rec10 : Int32 → Int32 → (Nat → Int32) → Option (Int32 × (Nat → Int32))} {res : Int32 × (Nat → Int32)} (hrec10 : ∀ (x3 : Int32) (x4 : Int32) (mnow : (Nat → Int32)), rec10 x3 x4 mnow = some res → Mx p l e ({ frames := 3, cells := 0, slots := 0, locals := 68 } : Room) s m args below meth c (MQ below (QI D (tyA cyI cyZ cyW) A (wMO cyI cyZ cyW md mflags mtubs mpegs mcl mws mho res.2 mrd mrh mrf mtx mlen mat mfa mac mnx mrow msn mso msc msw mseed mik mkp) res.1) args s 0 0 A) 8 D A 0 0 (wMO cyI cyZ cyW md mflags mtubs mpegs mcl mws mho mnow mrd mrh mrf mtx mlen mat mfa mac mnx mrow msn mso msc msw mseed mik mkp) 10 [(0, .ref (md 0)), (1, .int x1), (2, .int x2), (3, .int x3), (4, .int x4)] []) (h : fX10_passOn_118 rec10 x1 x2 x4 y0 y1 mflags mtubs mpegs mcl mnow = some res) : Mx p l e ({ frames := 3, cells := 0, slots := 0, locals := 68 } : Room) s m args below meth c (MQ below (QI D (tyA cyI cyZ cyW) A (wMO cyI cyZ cyW md mflags mtubs mpegs mcl mws mho res.2 mrd mrh mrf mtx mlen mat mfa mac mnx mrow msn mso msc msw mseed mik mkp) res.1) args s 0 0 A) 8 D A 0 0 (wMO cyI cyZ cyW md mflags mtubs mpegs mcl mws mho mnow mrd mrh mrf mtx mlen mat mfa mac mnx mrow msn mso msc msw mseed mik mkp) 118 [(0, .ref (md 0)), (1, .int x1), (2, .int x2), (4, .int x4)] [.int y0, .int y1] := by
  unfold fX10_passOn_118 at h
  refine r_ior C dX10_passOn_118 ?_
  refine r_istore_n (lv' := [(3, .int (y1 ||| y0)), (0, .ref (md 0)), (1, .int x1), (2, .int x2), (4, .int x4)]) C dX10_passOn_119 rfl (by decide) rfl ?_
  refine r_lv (lv' := [(0, .ref (md 0)), (1, .int x1), (2, .int x2), (3, .int (y1 ||| y0)), (4, .int x4)]) [1, 2, 3, 0, 4] rfl ?_
  exact LX10_passOn_120 C (x1 := x1) (x2 := x2) (x3 := (y1 ||| y0)) (x4 := x4) (mflags := mflags) (mtubs := mtubs) (mpegs := mpegs) (mcl := mcl) (mws := mws) (mho := mho) (mnow := mnow) (mrd := mrd) (mrh := mrh) (mrf := mrf) (mtx := mtx) (mlen := mlen) (mat := mat) (mfa := mfa) (mac := mac) (mnx := mnx) (mrow := mrow) (msn := msn) (mso := mso) (msc := msc) (msw := msw) (mseed := mseed) (mik := mik) (mkp := mkp) hrec10 h
set_option maxHeartbeats 4000000 in
set_option maxRecDepth 100000 in
theorem LX10_passOn_103 {p : Program} {l : Launch} {e : Env} {s : State} {m : MethodId} {args : Array Value} {below : List Frame} {meth : Method} {c : Code} {D : va_G} {cyI cyZ cyW : ClassId} {zW zO : Nat} {A : Nat → Prop} (C : Cx p s m args meth c cX10_passOn RX10 "passOn" wsX10_passOn (some .int) 8 D (tyA cyI cyZ cyW) zW zO A) {md : Nat → Nat} {mflags : Int32} {mtubs : Int32} {mpegs : Int32} {mcl : (Nat → Int32)} {mws : (Nat → Int32)} {mho : (Nat → Int32)} {mnow : (Nat → Int32)} {mrd : (Nat → Int32)} {mrh : (Nat → Int32)} {mrf : Int32} {mtx : (Nat → Int32)} {mlen : Int32} {mat : Int32} {mfa : Int32} {mac : Int32} {mnx : Int32} {mrow : (Nat → Int32)} {msn : Int32} {mso : (Nat → Int32)} {msc : (Nat → Int32)} {msw : (Nat → Int32)} {mseed : Int64} {mik : (Nat → Int32)} {mkp : (Nat → Int32)} {x1 : Int32} {x2 : Int32} {x3 : Int32} {x4 : Int32} {x5 : Int32} {y0 : Int32} {y1 : Int32} {rec10 : Int32 → Int32 → (Nat → Int32) → Option (Int32 × (Nat → Int32))} {res : Int32 × (Nat → Int32)} (hrec10 : ∀ (x3 : Int32) (x4 : Int32) (mnow : (Nat → Int32)), rec10 x3 x4 mnow = some res → Mx p l e ({ frames := 3, cells := 0, slots := 0, locals := 68 } : Room) s m args below meth c (MQ below (QI D (tyA cyI cyZ cyW) A (wMO cyI cyZ cyW md mflags mtubs mpegs mcl mws mho res.2 mrd mrh mrf mtx mlen mat mfa mac mnx mrow msn mso msc msw mseed mik mkp) res.1) args s 0 0 A) 8 D A 0 0 (wMO cyI cyZ cyW md mflags mtubs mpegs mcl mws mho mnow mrd mrh mrf mtx mlen mat mfa mac mnx mrow msn mso msc msw mseed mik mkp) 10 [(0, .ref (md 0)), (1, .int x1), (2, .int x2), (3, .int x3), (4, .int x4)] []) (h : fX10_passOn_103 rec10 x1 x2 x3 x4 x5 y0 y1 mflags mtubs mpegs mcl mnow = some res) : Mx p l e ({ frames := 3, cells := 0, slots := 0, locals := 68 } : Room) s m args below meth c (MQ below (QI D (tyA cyI cyZ cyW) A (wMO cyI cyZ cyW md mflags mtubs mpegs mcl mws mho res.2 mrd mrh mrf mtx mlen mat mfa mac mnx mrow msn mso msc msw mseed mik mkp) res.1) args s 0 0 A) 8 D A 0 0 (wMO cyI cyZ cyW md mflags mtubs mpegs mcl mws mho mnow mrd mrh mrf mtx mlen mat mfa mac mnx mrow msn mso msc msw mseed mik mkp) 103 [(0, .ref (md 0)), (1, .int x1), (2, .int x2), (3, .int x3), (4, .int x4), (5, .int x5)] [.int y0, .int y1, .ref (md 4)] := by
  unfold fX10_passOn_103 at h
  obtain ⟨hu28, h⟩ := ob_if h
  refine r_iast (ws1 := (wMO cyI cyZ cyW md mflags mtubs mpegs mcl mws mho (upd mnow y1.toNatClampNeg y0) mrd mrh mrf mtx mlen mat mfa mac mnx mrow msn mso msc msw mseed mik mkp)) C 4 0 rfl rfl (inb_vp hu28) rfl dX10_passOn_103 ?_
  refine r_iload_n C dX10_passOn_104 3 rfl rfl ?_
  refine r_iload C dX10_passOn_105 5 rfl ?_
  refine r_if_le (tgt := 114) C dX10_passOn_107 (by decide) (fun c29 => ?_) (fun c29 => ?_)
  · replace h := ob_t h c29
    refine r_iconst (v := 1) C dX10_passOn_114 ic_1 ?_
    refine r_iload C dX10_passOn_115 4 rfl ?_
    refine r_ishl C dX10_passOn_117 ?_
    refine r_lv (lv' := [(0, .ref (md 0)), (1, .int x1), (2, .int x2), (4, .int x4)]) [0, 1, 2, 4] rfl ?_
    exact LX10_passOn_118 C (x1 := x1) (x2 := x2) (x4 := x4) (y0 := ((1 : Int32) <<< (x4 &&& 31))) (y1 := x3) (mflags := mflags) (mtubs := mtubs) (mpegs := mpegs) (mcl := mcl) (mws := mws) (mho := mho) (mnow := (upd mnow y1.toNatClampNeg y0)) (mrd := mrd) (mrh := mrh) (mrf := mrf) (mtx := mtx) (mlen := mlen) (mat := mat) (mfa := mfa) (mac := mac) (mnx := mnx) (mrow := mrow) (msn := msn) (mso := mso) (msc := msc) (msw := msw) (mseed := mseed) (mik := mik) (mkp := mkp) hrec10 h
  · replace h := ob_f h c29
    refine r_iconst (v := 0) C dX10_passOn_110 ic_0 ?_
    refine r_goto (tgt := 118) C dX10_passOn_111 (by decide) ?_
    refine r_lv (lv' := [(0, .ref (md 0)), (1, .int x1), (2, .int x2), (4, .int x4)]) [0, 1, 2, 4] rfl ?_
    exact LX10_passOn_118 C (x1 := x1) (x2 := x2) (x4 := x4) (y0 := (0 : Int32)) (y1 := x3) (mflags := mflags) (mtubs := mtubs) (mpegs := mpegs) (mcl := mcl) (mws := mws) (mho := mho) (mnow := (upd mnow y1.toNatClampNeg y0)) (mrd := mrd) (mrh := mrh) (mrf := mrf) (mtx := mtx) (mlen := mlen) (mat := mat) (mfa := mfa) (mac := mac) (mnx := mnx) (mrow := mrow) (msn := msn) (mso := mso) (msc := msc) (msw := msw) (mseed := mseed) (mik := mik) (mkp := mkp) hrec10 h
set_option maxHeartbeats 4000000 in
set_option maxRecDepth 100000 in
theorem LX10_passOn_82 {p : Program} {l : Launch} {e : Env} {s : State} {m : MethodId} {args : Array Value} {below : List Frame} {meth : Method} {c : Code} {D : va_G} {cyI cyZ cyW : ClassId} {zW zO : Nat} {A : Nat → Prop} (C : Cx p s m args meth c cX10_passOn RX10 "passOn" wsX10_passOn (some .int) 8 D (tyA cyI cyZ cyW) zW zO A) {md : Nat → Nat} {mflags : Int32} {mtubs : Int32} {mpegs : Int32} {mcl : (Nat → Int32)} {mws : (Nat → Int32)} {mho : (Nat → Int32)} {mnow : (Nat → Int32)} {mrd : (Nat → Int32)} {mrh : (Nat → Int32)} {mrf : Int32} {mtx : (Nat → Int32)} {mlen : Int32} {mat : Int32} {mfa : Int32} {mac : Int32} {mnx : Int32} {mrow : (Nat → Int32)} {msn : Int32} {mso : (Nat → Int32)} {msc : (Nat → Int32)} {msw : (Nat → Int32)} {mseed : Int64} {mik : (Nat → Int32)} {mkp : (Nat → Int32)} {x1 : Int32} {x2 : Int32} {x3 : Int32} {x4 : Int32} {x5 : Int32} {y0 : Int32} {y1 : Int32} {rec10 : Int32 → Int32 → (Nat → Int32) → Option (Int32 × (Nat → Int32))} {res : Int32 × (Nat → Int32)} (hrec10 : ∀ (x3 : Int32) (x4 : Int32) (mnow : (Nat → Int32)), rec10 x3 x4 mnow = some res → Mx p l e ({ frames := 3, cells := 0, slots := 0, locals := 68 } : Room) s m args below meth c (MQ below (QI D (tyA cyI cyZ cyW) A (wMO cyI cyZ cyW md mflags mtubs mpegs mcl mws mho res.2 mrd mrh mrf mtx mlen mat mfa mac mnx mrow msn mso msc msw mseed mik mkp) res.1) args s 0 0 A) 8 D A 0 0 (wMO cyI cyZ cyW md mflags mtubs mpegs mcl mws mho mnow mrd mrh mrf mtx mlen mat mfa mac mnx mrow msn mso msc msw mseed mik mkp) 10 [(0, .ref (md 0)), (1, .int x1), (2, .int x2), (3, .int x3), (4, .int x4)] []) (h : fX10_passOn_82 rec10 x1 x2 x3 x4 x5 y0 y1 mflags mtubs mpegs mcl mnow = some res) : Mx p l e ({ frames := 3, cells := 0, slots := 0, locals := 68 } : Room) s m args below meth c (MQ below (QI D (tyA cyI cyZ cyW) A (wMO cyI cyZ cyW md mflags mtubs mpegs mcl mws mho res.2 mrd mrh mrf mtx mlen mat mfa mac mnx mrow msn mso msc msw mseed mik mkp) res.1) args s 0 0 A) 8 D A 0 0 (wMO cyI cyZ cyW md mflags mtubs mpegs mcl mws mho mnow mrd mrh mrf mtx mlen mat mfa mac mnx mrow msn mso msc msw mseed mik mkp) 82 [(0, .ref (md 0)), (1, .int x1), (2, .int x2), (3, .int x3), (4, .int x4), (5, .int x5)] [.int y0, .int y1, .ref (md 4)] := by
  unfold fX10_passOn_82 at h
  obtain ⟨hu24, h⟩ := ob_if h
  refine r_iast (ws1 := (wMO cyI cyZ cyW md mflags mtubs mpegs mcl mws mho (upd mnow y1.toNatClampNeg y0) mrd mrh mrf mtx mlen mat mfa mac mnx mrow msn mso msc msw mseed mik mkp)) C 4 0 rfl rfl (inb_vp hu24) rfl dX10_passOn_82 ?_
  refine r_aload_n C dX10_passOn_83 0 rfl rfl ?_
  refine r_get (ci := 7) (CC := RX10) (T := TX10) (N := 24) (v := .ref (md 4)) C hinX10_passOn_X10 0 rfl rfl 6 (by decide) mX10_passOn_2 rfl rfl dX10_passOn_84 ?_
  refine r_iload_n C dX10_passOn_87 2 rfl rfl ?_
  refine r_iconst (v := 5) C dX10_passOn_88 ic_5 ?_
  refine r_iadd C dX10_passOn_89 ?_
  refine r_iload C dX10_passOn_90 4 rfl ?_
  refine r_iadd C dX10_passOn_92 ?_
  refine r_iload C dX10_passOn_93 5 rfl ?_
  refine r_if_le (tgt := 102) C dX10_passOn_95 (by decide) (fun c25 => ?_) (fun c25 => ?_)
  · replace h := ob_t h c25
    refine r_iconst (v := 0) C dX10_passOn_102 ic_0 ?_
    refine r_lv (lv' := [(0, .ref (md 0)), (1, .int x1), (2, .int x2), (3, .int x3), (4, .int x4), (5, .int x5)]) [0, 1, 2, 3, 4, 5] rfl ?_
    exact LX10_passOn_103 C (x1 := x1) (x2 := x2) (x3 := x3) (x4 := x4) (x5 := x5) (y0 := (0 : Int32)) (y1 := ((x2 + (5 : Int32)) + x4)) (mflags := mflags) (mtubs := mtubs) (mpegs := mpegs) (mcl := mcl) (mws := mws) (mho := mho) (mnow := (upd mnow y1.toNatClampNeg y0)) (mrd := mrd) (mrh := mrh) (mrf := mrf) (mtx := mtx) (mlen := mlen) (mat := mat) (mfa := mfa) (mac := mac) (mnx := mnx) (mrow := mrow) (msn := msn) (mso := mso) (msc := msc) (msw := msw) (mseed := mseed) (mik := mik) (mkp := mkp) hrec10 h
  · replace h := ob_f h c25
    refine r_iconst (v := 2) C dX10_passOn_98 ic_2 ?_
    refine r_goto (tgt := 103) C dX10_passOn_99 (by decide) ?_
    refine r_lv (lv' := [(0, .ref (md 0)), (1, .int x1), (2, .int x2), (3, .int x3), (4, .int x4), (5, .int x5)]) [0, 1, 2, 3, 4, 5] rfl ?_
    exact LX10_passOn_103 C (x1 := x1) (x2 := x2) (x3 := x3) (x4 := x4) (x5 := x5) (y0 := (2 : Int32)) (y1 := ((x2 + (5 : Int32)) + x4)) (mflags := mflags) (mtubs := mtubs) (mpegs := mpegs) (mcl := mcl) (mws := mws) (mho := mho) (mnow := (upd mnow y1.toNatClampNeg y0)) (mrd := mrd) (mrh := mrh) (mrf := mrf) (mtx := mtx) (mlen := mlen) (mat := mat) (mfa := mfa) (mac := mac) (mnx := mnx) (mrow := mrow) (msn := msn) (mso := mso) (msc := msc) (msw := msw) (mseed := mseed) (mik := mik) (mkp := mkp) hrec10 h
set_option maxHeartbeats 4000000 in
set_option maxRecDepth 100000 in
theorem LX10_passOn_60 {p : Program} {l : Launch} {e : Env} {s : State} {m : MethodId} {args : Array Value} {below : List Frame} {meth : Method} {c : Code} {D : va_G} {cyI cyZ cyW : ClassId} {zW zO : Nat} {A : Nat → Prop} (C : Cx p s m args meth c cX10_passOn RX10 "passOn" wsX10_passOn (some .int) 8 D (tyA cyI cyZ cyW) zW zO A) {md : Nat → Nat} {mflags : Int32} {mtubs : Int32} {mpegs : Int32} {mcl : (Nat → Int32)} {mws : (Nat → Int32)} {mho : (Nat → Int32)} {mnow : (Nat → Int32)} {mrd : (Nat → Int32)} {mrh : (Nat → Int32)} {mrf : Int32} {mtx : (Nat → Int32)} {mlen : Int32} {mat : Int32} {mfa : Int32} {mac : Int32} {mnx : Int32} {mrow : (Nat → Int32)} {msn : Int32} {mso : (Nat → Int32)} {msc : (Nat → Int32)} {msw : (Nat → Int32)} {mseed : Int64} {mik : (Nat → Int32)} {mkp : (Nat → Int32)} {x1 : Int32} {x2 : Int32} {x3 : Int32} {x4 : Int32} {x5 : Int32} {rec10 : Int32 → Int32 → (Nat → Int32) → Option (Int32 × (Nat → Int32))} {res : Int32 × (Nat → Int32)} (hrec10 : ∀ (x3 : Int32) (x4 : Int32) (mnow : (Nat → Int32)), rec10 x3 x4 mnow = some res → Mx p l e ({ frames := 3, cells := 0, slots := 0, locals := 68 } : Room) s m args below meth c (MQ below (QI D (tyA cyI cyZ cyW) A (wMO cyI cyZ cyW md mflags mtubs mpegs mcl mws mho res.2 mrd mrh mrf mtx mlen mat mfa mac mnx mrow msn mso msc msw mseed mik mkp) res.1) args s 0 0 A) 8 D A 0 0 (wMO cyI cyZ cyW md mflags mtubs mpegs mcl mws mho mnow mrd mrh mrf mtx mlen mat mfa mac mnx mrow msn mso msc msw mseed mik mkp) 10 [(0, .ref (md 0)), (1, .int x1), (2, .int x2), (3, .int x3), (4, .int x4)] []) (h : fX10_passOn_60 rec10 x1 x2 x3 x4 x5 mflags mtubs mpegs mcl mnow = some res) : Mx p l e ({ frames := 3, cells := 0, slots := 0, locals := 68 } : Room) s m args below meth c (MQ below (QI D (tyA cyI cyZ cyW) A (wMO cyI cyZ cyW md mflags mtubs mpegs mcl mws mho res.2 mrd mrh mrf mtx mlen mat mfa mac mnx mrow msn mso msc msw mseed mik mkp) res.1) args s 0 0 A) 8 D A 0 0 (wMO cyI cyZ cyW md mflags mtubs mpegs mcl mws mho mnow mrd mrh mrf mtx mlen mat mfa mac mnx mrow msn mso msc msw mseed mik mkp) 60 [(0, .ref (md 0)), (1, .int x1), (2, .int x2), (3, .int x3), (4, .int x4), (5, .int x5)] [] := by
  unfold fX10_passOn_60 at h
  refine r_aload_n C dX10_passOn_60 0 rfl rfl ?_
  refine r_get (ci := 7) (CC := RX10) (T := TX10) (N := 24) (v := .ref (md 4)) C hinX10_passOn_X10 0 rfl rfl 6 (by decide) mX10_passOn_2 rfl rfl dX10_passOn_61 ?_
  refine r_iload_n C dX10_passOn_64 2 rfl rfl ?_
  refine r_bipush (v := 10) C dX10_passOn_65 bp_10 ?_
  refine r_iadd C dX10_passOn_67 ?_
  refine r_iload C dX10_passOn_68 4 rfl ?_
  refine r_iadd C dX10_passOn_70 ?_
  refine r_iload C dX10_passOn_71 5 rfl ?_
  refine r_if_ge (tgt := 80) C dX10_passOn_73 (by decide) (fun c13 => ?_) (fun c13 => ?_)
  · replace h := ob_t h c13
    refine r_iload C dX10_passOn_80 5 rfl ?_
    refine r_lv (lv' := [(0, .ref (md 0)), (1, .int x1), (2, .int x2), (3, .int x3), (4, .int x4), (5, .int x5)]) [0, 1, 2, 3, 4, 5] rfl ?_
    exact LX10_passOn_82 C (x1 := x1) (x2 := x2) (x3 := x3) (x4 := x4) (x5 := x5) (y0 := x5) (y1 := ((x2 + (10 : Int32)) + x4)) (mflags := mflags) (mtubs := mtubs) (mpegs := mpegs) (mcl := mcl) (mws := mws) (mho := mho) (mnow := mnow) (mrd := mrd) (mrh := mrh) (mrf := mrf) (mtx := mtx) (mlen := mlen) (mat := mat) (mfa := mfa) (mac := mac) (mnx := mnx) (mrow := mrow) (msn := msn) (mso := mso) (msc := msc) (msw := msw) (mseed := mseed) (mik := mik) (mkp := mkp) hrec10 h
  · replace h := ob_f h c13
    refine r_iconst (v := 0) C dX10_passOn_76 ic_0 ?_
    refine r_goto (tgt := 82) C dX10_passOn_77 (by decide) ?_
    refine r_lv (lv' := [(0, .ref (md 0)), (1, .int x1), (2, .int x2), (3, .int x3), (4, .int x4), (5, .int x5)]) [0, 1, 2, 3, 4, 5] rfl ?_
    exact LX10_passOn_82 C (x1 := x1) (x2 := x2) (x3 := x3) (x4 := x4) (x5 := x5) (y0 := (0 : Int32)) (y1 := ((x2 + (10 : Int32)) + x4)) (mflags := mflags) (mtubs := mtubs) (mpegs := mpegs) (mcl := mcl) (mws := mws) (mho := mho) (mnow := mnow) (mrd := mrd) (mrh := mrh) (mrf := mrf) (mtx := mtx) (mlen := mlen) (mat := mat) (mfa := mfa) (mac := mac) (mnx := mnx) (mrow := mrow) (msn := msn) (mso := mso) (msc := msc) (msw := msw) (mseed := mseed) (mik := mik) (mkp := mkp) hrec10 h
set_option maxHeartbeats 4000000 in
set_option maxRecDepth 100000 in
theorem LGX10_passOn_10 {p : Program} {l : Launch} {e : Env} {s : State} {m : MethodId} {args : Array Value} {below : List Frame} {meth : Method} {c : Code} {D : va_G} {cyI cyZ cyW : ClassId} {zW zO : Nat} {A : Nat → Prop} (C : Cx p s m args meth c cX10_passOn RX10 "passOn" wsX10_passOn (some .int) 8 D (tyA cyI cyZ cyW) zW zO A) {md : Nat → Nat} {mflags : Int32} {mtubs : Int32} {mpegs : Int32} {mcl : (Nat → Int32)} {mws : (Nat → Int32)} {mho : (Nat → Int32)} {mnow : (Nat → Int32)} {mrd : (Nat → Int32)} {mrh : (Nat → Int32)} {mrf : Int32} {mtx : (Nat → Int32)} {mlen : Int32} {mat : Int32} {mfa : Int32} {mac : Int32} {mnx : Int32} {mrow : (Nat → Int32)} {msn : Int32} {mso : (Nat → Int32)} {msc : (Nat → Int32)} {msw : (Nat → Int32)} {mseed : Int64} {mik : (Nat → Int32)} {mkp : (Nat → Int32)} {x1 : Int32} {x2 : Int32} {x3 : Int32} {x4 : Int32} {rec10 : Int32 → Int32 → (Nat → Int32) → Option (Int32 × (Nat → Int32))} {res : Int32 × (Nat → Int32)} (hrec10 : ∀ (x3 : Int32) (x4 : Int32) (mnow : (Nat → Int32)), rec10 x3 x4 mnow = some res → Mx p l e ({ frames := 3, cells := 0, slots := 0, locals := 68 } : Room) s m args below meth c (MQ below (QI D (tyA cyI cyZ cyW) A (wMO cyI cyZ cyW md mflags mtubs mpegs mcl mws mho res.2 mrd mrh mrf mtx mlen mat mfa mac mnx mrow msn mso msc msw mseed mik mkp) res.1) args s 0 0 A) 8 D A 0 0 (wMO cyI cyZ cyW md mflags mtubs mpegs mcl mws mho mnow mrd mrh mrf mtx mlen mat mfa mac mnx mrow msn mso msc msw mseed mik mkp) 10 [(0, .ref (md 0)), (1, .int x1), (2, .int x2), (3, .int x3), (4, .int x4)] []) (h : gX10_passOn_10 rec10 x1 x2 x3 x4 mflags mtubs mpegs mcl mnow = some res) : Mx p l e ({ frames := 3, cells := 0, slots := 0, locals := 68 } : Room) s m args below meth c (MQ below (QI D (tyA cyI cyZ cyW) A (wMO cyI cyZ cyW md mflags mtubs mpegs mcl mws mho res.2 mrd mrh mrf mtx mlen mat mfa mac mnx mrow msn mso msc msw mseed mik mkp) res.1) args s 0 0 A) 8 D A 0 0 (wMO cyI cyZ cyW md mflags mtubs mpegs mcl mws mho mnow mrd mrh mrf mtx mlen mat mfa mac mnx mrow msn mso msc msw mseed mik mkp) 10 [(0, .ref (md 0)), (1, .int x1), (2, .int x2), (3, .int x3), (4, .int x4)] [] := by
  unfold gX10_passOn_10 at h
  refine r_iload C dX10_passOn_10 4 rfl ?_
  refine r_aload_n C dX10_passOn_12 0 rfl rfl ?_
  refine r_get (ci := 7) (CC := RX10) (T := TX10) (N := 24) (v := .int mflags) C hinX10_passOn_X10 0 rfl rfl 0 (by decide) mX10_passOn_1 rfl rfl dX10_passOn_13 ?_
  refine r_icmp_ge (tgt := 126) C dX10_passOn_16 (by decide) (fun c1 => ?_) (fun c1 => ?_)
  · replace h := ob_t h c1
    refine r_aload_n C dX10_passOn_126 0 rfl rfl ?_
    refine r_iload_n C dX10_passOn_127 1 rfl rfl ?_
    refine r_iconst (v := 1) C dX10_passOn_128 ic_1 ?_
    obtain ⟨u2, hu2, h⟩ := ob_bind h
    refine r_readVI (q0 := 0) (As := [.int x1, .int (1 : Int32)]) (rest := []) C (kX10_areIn (md := md) (mflags := mflags) (mtubs := mtubs) (mpegs := mpegs) (mcl := mcl) (mws := mws) (mho := mho) (mnow := mnow) (mrd := mrd) (mrh := mrh) (mrf := mrf) (mtx := mtx) (mlen := mlen) (mat := mat) (mfa := mfa) (mac := mac) (mnx := mnx) (mrow := mrow) (msn := msn) (mso := mso) (msc := msc) (msw := msw) (mseed := mseed) (mik := mik) (mkp := mkp) (x1 := x1) (x2 := (1 : Int32)) hu2) gX10_passOn_X10_areIn rfl rfl rfl ⟨rfl, hd_X10_areIn⟩ ⟨by decide, by decide⟩ rfl rfl rfl rfl [0, 1, 2, 3, 4, 5, 6, 7, 8, 9, 10, 11, 12, 13] (by decide) in_76 rfl (Nat.le_of_ble_eq_true rfl) dX10_passOn_129 ⟨Nat.zero_le _, Nat.zero_le _⟩ ?_
    refine r_istore (lv' := [(4, .int u2), (0, .ref (md 0)), (1, .int x1), (2, .int x2), (3, .int x3)]) C dX10_passOn_132 (by decide) rfl ?_
    refine r_iconst (v := 0) C dX10_passOn_134 ic_0 ?_
    refine r_istore (lv' := [(5, .int (0 : Int32)), (4, .int u2), (0, .ref (md 0)), (1, .int x1), (2, .int x2), (3, .int x3)]) C dX10_passOn_135 (by decide) rfl ?_
    refine r_iconst (v := 0) C dX10_passOn_137 ic_0 ?_
    refine r_istore (lv' := [(6, .int (0 : Int32)), (5, .int (0 : Int32)), (4, .int u2), (0, .ref (md 0)), (1, .int x1), (2, .int x2), (3, .int x3)]) C dX10_passOn_138 (by decide) rfl ?_
    refine r_lv (lv' := [(0, .ref (md 0)), (1, .int x1), (2, .int x2), (3, .int x3), (4, .int u2), (5, .int (0 : Int32)), (6, .int (0 : Int32))]) [3, 4, 5, 6, 2, 1, 0] rfl ?_
    exact LX10_passOn_140 C (x1 := x1) (x2 := x2) (x3 := x3) (x4 := u2) (mflags := mflags) (mtubs := mtubs) (mpegs := mpegs) (mcl := mcl) (mws := mws) (mho := mho) (mnow := mnow) (mrd := mrd) (mrh := mrh) (mrf := mrf) (mtx := mtx) (mlen := mlen) (mat := mat) (mfa := mfa) (mac := mac) (mnx := mnx) (mrow := mrow) (msn := msn) (mso := mso) (msc := msc) (msw := msw) (mseed := mseed) (mik := mik) (mkp := mkp)  FU (0 : Int32) (0 : Int32) h
  · replace h := ob_f h c1
    refine r_aload_n C dX10_passOn_19 0 rfl rfl ?_
    refine r_get (ci := 7) (CC := RX10) (T := TX10) (N := 24) (v := .ref (md 4)) C hinX10_passOn_X10 0 rfl rfl 6 (by decide) mX10_passOn_2 rfl rfl dX10_passOn_20 ?_
    refine r_iload_n C dX10_passOn_23 2 rfl rfl ?_
    refine r_iconst (v := 5) C dX10_passOn_24 ic_5 ?_
    refine r_iadd C dX10_passOn_25 ?_
    refine r_iload C dX10_passOn_26 4 rfl ?_
    refine r_iadd C dX10_passOn_28 ?_
    obtain ⟨hu3, h⟩ := ob_if h
    refine r_iald C 4 0 rfl rfl (inb_vp hu3) dX10_passOn_29 ?_
    refine r_iconst (v := 2) C dX10_passOn_30 ic_2 ?_
    refine r_icmp_ne (tgt := 120) C dX10_passOn_31 (by decide) (fun c4 => ?_) (fun c4 => ?_)
    · replace h := ob_f h c4
      refine r_lv (lv' := [(0, .ref (md 0)), (1, .int x1), (2, .int x2), (3, .int x3), (4, .int x4)]) [0, 1, 2, 3, 4] rfl ?_
      exact LX10_passOn_120 C (x1 := x1) (x2 := x2) (x3 := x3) (x4 := x4) (mflags := mflags) (mtubs := mtubs) (mpegs := mpegs) (mcl := mcl) (mws := mws) (mho := mho) (mnow := mnow) (mrd := mrd) (mrh := mrh) (mrf := mrf) (mtx := mtx) (mlen := mlen) (mat := mat) (mfa := mfa) (mac := mac) (mnx := mnx) (mrow := mrow) (msn := msn) (mso := mso) (msc := msc) (msw := msw) (mseed := mseed) (mik := mik) (mkp := mkp) hrec10 h
    · replace h := ob_t h c4
      refine r_aload_n C dX10_passOn_34 0 rfl rfl ?_
      refine r_get (ci := 7) (CC := RX10) (T := TX10) (N := 24) (v := .ref (md 4)) C hinX10_passOn_X10 0 rfl rfl 6 (by decide) mX10_passOn_2 rfl rfl dX10_passOn_35 ?_
      refine r_iload_n C dX10_passOn_38 2 rfl rfl ?_
      refine r_bipush (v := 10) C dX10_passOn_39 bp_10 ?_
      refine r_iadd C dX10_passOn_41 ?_
      refine r_iload C dX10_passOn_42 4 rfl ?_
      refine r_iadd C dX10_passOn_44 ?_
      obtain ⟨hu5, h⟩ := ob_if h
      refine r_iald C 4 0 rfl rfl (inb_vp hu5) dX10_passOn_45 ?_
      refine r_iconst (v := 1) C dX10_passOn_46 ic_1 ?_
      refine r_isub C dX10_passOn_47 ?_
      refine r_aload_n C dX10_passOn_48 0 rfl rfl ?_
      refine r_get (ci := 7) (CC := RX10) (T := TX10) (N := 24) (v := .ref (md 4)) C hinX10_passOn_X10 0 rfl rfl 6 (by decide) mX10_passOn_2 rfl rfl dX10_passOn_49 ?_
      refine r_iload_n C dX10_passOn_52 2 rfl rfl ?_
      refine r_bipush (v := 15) C dX10_passOn_53 bp_15 ?_
      refine r_iadd C dX10_passOn_55 ?_
      obtain ⟨hu6, h⟩ := ob_if h
      refine r_iald C 4 0 rfl rfl (inb_vp hu6) dX10_passOn_56 ?_
      refine r_isub C dX10_passOn_57 ?_
      refine r_istore (lv' := [(5, .int (((mnow ((x2 + (10 : Int32)) + x4).toNatClampNeg) - (1 : Int32)) - (mnow (x2 + (15 : Int32)).toNatClampNeg))), (0, .ref (md 0)), (1, .int x1), (2, .int x2), (3, .int x3), (4, .int x4)]) C dX10_passOn_58 (by decide) rfl ?_
      refine r_lv (lv' := [(0, .ref (md 0)), (1, .int x1), (2, .int x2), (3, .int x3), (4, .int x4), (5, .int (((mnow ((x2 + (10 : Int32)) + x4).toNatClampNeg) - (1 : Int32)) - (mnow (x2 + (15 : Int32)).toNatClampNeg)))]) [1, 2, 3, 4, 5, 0] rfl ?_
      exact LX10_passOn_60 C (x1 := x1) (x2 := x2) (x3 := x3) (x4 := x4) (x5 := (((mnow ((x2 + (10 : Int32)) + x4).toNatClampNeg) - (1 : Int32)) - (mnow (x2 + (15 : Int32)).toNatClampNeg))) (mflags := mflags) (mtubs := mtubs) (mpegs := mpegs) (mcl := mcl) (mws := mws) (mho := mho) (mnow := mnow) (mrd := mrd) (mrh := mrh) (mrf := mrf) (mtx := mtx) (mlen := mlen) (mat := mat) (mfa := mfa) (mac := mac) (mnx := mnx) (mrow := mrow) (msn := msn) (mso := mso) (msc := msc) (msw := msw) (mseed := mseed) (mik := mik) (mkp := mkp) hrec10 h
set_option maxHeartbeats 4000000 in
set_option maxRecDepth 100000 in
theorem LX10_passOn_10 {p : Program} {l : Launch} {e : Env} {s : State} {m : MethodId} {args : Array Value} {below : List Frame} {meth : Method} {c : Code} {D : va_G} {cyI cyZ cyW : ClassId} {zW zO : Nat} {A : Nat → Prop} (C : Cx p s m args meth c cX10_passOn RX10 "passOn" wsX10_passOn (some .int) 8 D (tyA cyI cyZ cyW) zW zO A) {md : Nat → Nat} {x1 : Int32} {x2 : Int32} {mflags : Int32} {mtubs : Int32} {mpegs : Int32} {mcl : (Nat → Int32)} {mws : (Nat → Int32)} {mho : (Nat → Int32)} {mrd : (Nat → Int32)} {mrh : (Nat → Int32)} {mrf : Int32} {mtx : (Nat → Int32)} {mlen : Int32} {mat : Int32} {mfa : Int32} {mac : Int32} {mnx : Int32} {mrow : (Nat → Int32)} {msn : Int32} {mso : (Nat → Int32)} {msc : (Nat → Int32)} {msw : (Nat → Int32)} {mseed : Int64} {mik : (Nat → Int32)} {mkp : (Nat → Int32)}  {res : Int32 × (Nat → Int32)}  : ∀ (n : Nat) (x3 : Int32) (x4 : Int32) (mnow : (Nat → Int32)), fX10_passOn_10  x1 x2 mflags mtubs mpegs mcl n x3 x4 mnow = some res → Mx p l e ({ frames := 3, cells := 0, slots := 0, locals := 68 } : Room) s m args below meth c (MQ below (QI D (tyA cyI cyZ cyW) A (wMO cyI cyZ cyW md mflags mtubs mpegs mcl mws mho res.2 mrd mrh mrf mtx mlen mat mfa mac mnx mrow msn mso msc msw mseed mik mkp) res.1) args s 0 0 A) 8 D A 0 0 (wMO cyI cyZ cyW md mflags mtubs mpegs mcl mws mho mnow mrd mrh mrf mtx mlen mat mfa mac mnx mrow msn mso msc msw mseed mik mkp) 10 [(0, .ref (md 0)), (1, .int x1), (2, .int x2), (3, .int x3), (4, .int x4)] [] := by
  intro n
  induction n with
  | zero => intro x3 x4 mnow h; cases h
  | succ n ih => intro x3 x4 mnow h; exact LGX10_passOn_10 C ih h
set_option maxHeartbeats 4000000 in
set_option maxRecDepth 100000 in
theorem kX10_passOn {l : Launch} {D : va_G} {cyI cyZ cyW : ClassId} {zW zO : Nat} {md : Nat → Nat} {mflags : Int32} {mtubs : Int32} {mpegs : Int32} {mcl : (Nat → Int32)} {mws : (Nat → Int32)} {mho : (Nat → Int32)} {mnow : (Nat → Int32)} {mrd : (Nat → Int32)} {mrh : (Nat → Int32)} {mrf : Int32} {mtx : (Nat → Int32)} {mlen : Int32} {mat : Int32} {mfa : Int32} {mac : Int32} {mnx : Int32} {mrow : (Nat → Int32)} {msn : Int32} {mso : (Nat → Int32)} {msc : (Nat → Int32)} {msw : (Nat → Int32)} {mseed : Int64} {mik : (Nat → Int32)} {mkp : (Nat → Int32)} {x1 : Int32} {res : Int32 × (Nat → Int32)} (h : fX10_passOn x1 mflags mtubs mpegs mcl mnow = some res) : KI l yX10_passOn wsX10_passOn ({ frames := 3, cells := 0, slots := 0, locals := 68 } : Room) D (tyA cyI cyZ cyW) zW zO [.ref (md 0), .int x1] (wMO cyI cyZ cyW md mflags mtubs mpegs mcl mws mho mnow mrd mrh mrf mtx mlen mat mfa mac mnx mrow msn mso msc msw mseed mik mkp) (wMO cyI cyZ cyW md mflags mtubs mpegs mcl mws mho res.2 mrd mrh mrf mtx mlen mat mfa mac mnx mrow msn mso msc msw mseed mik mkp) res.1 := by
  refine enterI (cc := cX10_passOn) (nL := 8) (ret := (some .int)) (by decide) rfl (Nat.le_of_ble_eq_true rfl) (fun p e s m below meth c A C => ?_)
  refine r_lv (lv' := [(0, .ref (md 0)), (1, .int x1)]) [0, 1] rfl ?_
  unfold fX10_passOn at h
  refine r_bipush (v := 17) C dX10_passOn_0 bp_17 ?_
  refine r_iload_n C dX10_passOn_2 1 rfl rfl ?_
  refine r_imul C dX10_passOn_3 ?_
  refine r_istore_n (lv' := [(2, .int ((17 : Int32) * x1)), (0, .ref (md 0)), (1, .int x1)]) C dX10_passOn_4 rfl (by decide) rfl ?_
  refine r_iconst (v := 0) C dX10_passOn_5 ic_0 ?_
  refine r_istore_n (lv' := [(3, .int (0 : Int32)), (2, .int ((17 : Int32) * x1)), (0, .ref (md 0)), (1, .int x1)]) C dX10_passOn_6 rfl (by decide) rfl ?_
  refine r_iconst (v := 0) C dX10_passOn_7 ic_0 ?_
  refine r_istore (lv' := [(4, .int (0 : Int32)), (3, .int (0 : Int32)), (2, .int ((17 : Int32) * x1)), (0, .ref (md 0)), (1, .int x1)]) C dX10_passOn_8 (by decide) rfl ?_
  refine r_lv (lv' := [(0, .ref (md 0)), (1, .int x1), (2, .int ((17 : Int32) * x1)), (3, .int (0 : Int32)), (4, .int (0 : Int32))]) [3, 4, 2, 1, 0] rfl ?_
  exact LX10_passOn_10 C (x1 := x1) (x2 := ((17 : Int32) * x1)) (mflags := mflags) (mtubs := mtubs) (mpegs := mpegs) (mcl := mcl) (mws := mws) (mho := mho) (mrd := mrd) (mrh := mrh) (mrf := mrf) (mtx := mtx) (mlen := mlen) (mat := mat) (mfa := mfa) (mac := mac) (mnx := mnx) (mrow := mrow) (msn := msn) (mso := mso) (msc := msc) (msw := msw) (mseed := mseed) (mik := mik) (mkp := mkp)  FU (0 : Int32) (0 : Int32) mnow h
