/-! ===== FlagWashModel.dry ===== -/
def fX10_dry_162 (rec61 : Int32 → Int32 → Int32 → Option (Int32)) (x1 : Int32) (x2 : Int32) (x3 : Int32) (x4 : Bool) (x6 : Int32) (x7 : Int32) (y0 : Int32) (y1 : Int32) (mnow : (Nat → Int32)) : Option (Int32) :=
 (rec61 (y1 + y0) x6 (x7 + (1 : Int32)))
def fX10_dry_124 (rec61 : Int32 → Int32 → Int32 → Option (Int32)) (rec78 : Int32 → Int32 → Int32 → Option (Int32)) (x1 : Int32) (x2 : Int32) (x3 : Int32) (x4 : Bool) (x5 : Int32) (x6 : Int32) (x7 : Int32) (x8 : Int32) (x10 : Int32) (y0 : Int32) (y1 : Int32) (mnow : (Nat → Int32)) : Option (Int32) :=
 (rec78 x8 (y1 + y0) (x10 + (1 : Int32)))
def fX10_dry_104 (rec61 : Int32 → Int32 → Int32 → Option (Int32)) (rec78 : Int32 → Int32 → Int32 → Option (Int32)) (x1 : Int32) (x2 : Int32) (x3 : Int32) (x4 : Bool) (x5 : Int32) (x6 : Int32) (x7 : Int32) (x9 : Int32) (x10 : Int32) (y0 : Int32) (y1 : Int32) (mnow : (Nat → Int32)) : Option (Int32) :=
 ((fX10_has x7 x10).bind fun u19 => (if u19 = true then (fX10_dry_124 rec61 rec78 x1 x2 x3 x4 x5 x6 x7 (y1 * y0) x10 (3 : Int32) x9 mnow)
 else (fX10_dry_124 rec61 rec78 x1 x2 x3 x4 x5 x6 x7 (y1 * y0) x10 (1 : Int32) x9 mnow)))
def gX10_dry_78 (rec61 : Int32 → Int32 → Int32 → Option (Int32)) (rec78 : Int32 → Int32 → Int32 → Option (Int32)) (x1 : Int32) (x2 : Int32) (x3 : Int32) (x4 : Bool) (x5 : Int32) (x6 : Int32) (x7 : Int32) (x8 : Int32) (x9 : Int32) (x10 : Int32) (mnow : (Nat → Int32)) : Option (Int32) :=
 (if x2 ≤ x10 then (if inb ((10 : Int32) + x1) 34 = true then (if x9 < (mnow ((10 : Int32) + x1).toNatClampNeg) then (fX10_dry_162 rec61 x1 x2 x3 x4 (x6 + x8) x7 (0 : Int32) x5 mnow)
 else (fX10_dry_162 rec61 x1 x2 x3 x4 (x6 + x8) x7 x8 x5 mnow)) else none)
 else ((fX10_has x7 x10).bind fun u17 => (if u17 = true then (fX10_dry_104 rec61 rec78 x1 x2 x3 x4 x5 x6 x7 x9 x10 x3 x8 mnow)
 else (fX10_dry_104 rec61 rec78 x1 x2 x3 x4 x5 x6 x7 x9 x10 ((10 : Int32) - x3) x8 mnow))))
def fX10_dry_78 (rec61 : Int32 → Int32 → Int32 → Option (Int32)) (x1 : Int32) (x2 : Int32) (x3 : Int32) (x4 : Bool) (x5 : Int32) (x6 : Int32) (x7 : Int32) (mnow : (Nat → Int32)) : Nat → Int32 → Int32 → Int32 → Option (Int32)
  | 0 => fun _ _ _ => none
  | n + 1 => fun x8 x9 x10 => gX10_dry_78 rec61 (fX10_dry_78 rec61 x1 x2 x3 x4 x5 x6 x7 mnow n) x1 x2 x3 x4 x5 x6 x7 x8 x9 x10 mnow
def gX10_dry_61 (rec61 : Int32 → Int32 → Int32 → Option (Int32)) (x1 : Int32) (x2 : Int32) (x3 : Int32) (x4 : Bool) (x5 : Int32) (x6 : Int32) (x7 : Int32) (mnow : (Nat → Int32)) : Option (Int32) :=
 (if ((1 : Int32) <<< (x2 &&& 31)) ≤ x7 then ((fX10_common x5 x6).bind fun u10 => (if x4 = true then (if u10 = 0 then none else (some (x5 / u10)))
 else (if u10 = 0 then none else (some (x6 / u10)))))
 else (fX10_dry_78 rec61 x1 x2 x3 x4 x5 x6 x7 mnow FU (1 : Int32) (0 : Int32) (0 : Int32)))
def fX10_dry_61  (x1 : Int32) (x2 : Int32) (x3 : Int32) (x4 : Bool) (mnow : (Nat → Int32)) : Nat → Int32 → Int32 → Int32 → Option (Int32)
  | 0 => fun _ _ _ => none
  | n + 1 => fun x5 x6 x7 => gX10_dry_61 (fX10_dry_61  x1 x2 x3 x4 mnow n) x1 x2 x3 x4 x5 x6 x7 mnow
def fX10_dry  (x1 : Int32) (x2 : Int32) (x3 : Int32) (x4 : Bool) (mflags : Int32) (mnow : (Nat → Int32)) : Option (Int32) :=
 ((fX10_isFlag x1 mflags).bind fun u1 => (if u1 = true then ((fX10_in x2.toInt64 (1 : Int64) (6 : Int64)).bind fun u3 => (if u3 = true then ((fX10_in x3.toInt64 (0 : Int64) (10 : Int64)).bind fun u5 => (if u5 = true then (if inb ((5 : Int32) + x1) 34 = true then (if (mnow ((5 : Int32) + x1).toNatClampNeg) = (2 : Int32) then (fX10_dry_61  x1 x2 x3 x4 mnow FU (0 : Int32) (0 : Int32) (0 : Int32))
 else (some (-3 : Int32))) else none)
 else (some (-2 : Int32))))
 else (some (-2 : Int32))))
 else (some (-1 : Int32))))
theorem mX10_dry_1 : Cond.constantLong RX10 162 (6) ∈ wsX10_dry := List.mem_of_getElem? (i := 1) rfl
theorem mX10_dry_2 : Cond.constantLong RX10 195 (10) ∈ wsX10_dry := List.mem_of_getElem? (i := 2) rfl
theorem hinX10_dry_X10 : ∀ w ∈ u_ws RX10 TX10 24, w ∈ wsX10_dry := fun w h => List.mem_cons_of_mem _ (List.mem_append_right _ h)
theorem mX10_dry_3 : Cond.fieldLink RX10 19 "FlagWashModel" "now" "[I" ∈ wsX10_dry := List.mem_of_getElem? (i := 3) rfl
theorem hd_X10_dry : yX10_dry.cls ≠ "java/lang/invoke/MethodHandle" ∧ yX10_dry.cls ≠ "java/lang/invoke/VarHandle" ∧ (parseMethodDescriptor yX10_dry.desc).map (fun d => d.parameters.length) = some 4 := by decide +kernel
set_option maxHeartbeats 4000000 in
set_option maxRecDepth 100000 in
theorem LX10_dry_162 {p : Program} {l : Launch} {e : Env} {s : State} {m : MethodId} {args : Array Value} {below : List Frame} {meth : Method} {c : Code} {D : va_G} {cyI cyZ cyW : ClassId} {zW zO : Nat} {A : Nat → Prop} (C : Cx p s m args meth c cX10_dry RX10 "dry" wsX10_dry (some .int) 11 D (tyA cyI cyZ cyW) zW zO A) {md : Nat → Nat} {mflags : Int32} {mtubs : Int32} {mpegs : Int32} {mcl : (Nat → Int32)} {mws : (Nat → Int32)} {mho : (Nat → Int32)} {mnow : (Nat → Int32)} {mrd : (Nat → Int32)} {mrh : (Nat → Int32)} {mrf : Int32} {mtx : (Nat → Int32)} {mlen : Int32} {mat : Int32} {mfa : Int32} {mac : Int32} {mnx : Int32} {mrow : (Nat → Int32)} {msn : Int32} {mso : (Nat → Int32)} {msc : (Nat → Int32)} {msw : (Nat → Int32)} {mseed : Int64} {mik : (Nat → Int32)} {mkp : (Nat → Int32)} {x1 : Int32} {x2 : Int32} {x3 : Int32} {x4 : Bool} {x6 : Int32} {x7 : Int32} {y0 : Int32} {y1 : Int32} {rec61 : Int32 → Int32 → Int32 → Option (Int32)} {res : Int32} (hrec61 : ∀ (x5 : Int32) (x6 : Int32) (x7 : Int32), rec61 x5 x6 x7 = some res → Mx p l e ({ frames := 2, cells := 0, slots := 0, locals := 46 } : Room) s m args below meth c (MQ below (QI D (tyA cyI cyZ cyW) A (wMO cyI cyZ cyW md mflags mtubs mpegs mcl mws mho mnow mrd mrh mrf mtx mlen mat mfa mac mnx mrow msn mso msc msw mseed mik mkp) res) args s 0 0 A) 11 D A 0 0 (wMO cyI cyZ cyW md mflags mtubs mpegs mcl mws mho mnow mrd mrh mrf mtx mlen mat mfa mac mnx mrow msn mso msc msw mseed mik mkp) 61 [(0, .ref (md 0)), (1, .int x1), (2, .int x2), (3, .int x3), (4, .int (b2i x4)), (5, .int x5), (6, .int x6), (7, .int x7)] []) (h : fX10_dry_162 rec61 x1 x2 x3 x4 x6 x7 y0 y1 mnow = some res) : Mx p l e ({ frames := 2, cells := 0, slots := 0, locals := 46 } : Room) s m args below meth c (MQ below (QI D (tyA cyI cyZ cyW) A (wMO cyI cyZ cyW md mflags mtubs mpegs mcl mws mho mnow mrd mrh mrf mtx mlen mat mfa mac mnx mrow msn mso msc msw mseed mik mkp) res) args s 0 0 A) 11 D A 0 0 (wMO cyI cyZ cyW md mflags mtubs mpegs mcl mws mho mnow mrd mrh mrf mtx mlen mat mfa mac mnx mrow msn mso msc msw mseed mik mkp) 162 [(0, .ref (md 0)), (1, .int x1), (2, .int x2), (3, .int x3), (4, .int (b2i x4)), (6, .int x6), (7, .int x7)] [.int y0, .int y1] := by
  unfold fX10_dry_162 at h
  refine r_iadd C dX10_dry_162 ?_
  refine r_istore (lv' := [(5, .int (y1 + y0)), (0, .ref (md 0)), (1, .int x1), (2, .int x2), (3, .int x3), (4, .int (b2i x4)), (6, .int x6), (7, .int x7)]) C dX10_dry_163 (by decide) rfl ?_
  refine r_iinc (v := 1) (lv' := [(7, .int (x7 + (1 : Int32))), (5, .int (y1 + y0)), (0, .ref (md 0)), (1, .int x1), (2, .int x2), (3, .int x3), (4, .int (b2i x4)), (6, .int x6)]) C dX10_dry_165 7 rfl ic_1 (by decide) rfl ?_
  refine r_goto (tgt := 61) C dX10_dry_168 (by decide) ?_
  refine r_lv (lv' := [(0, .ref (md 0)), (1, .int x1), (2, .int x2), (3, .int x3), (4, .int (b2i x4)), (5, .int (y1 + y0)), (6, .int x6), (7, .int (x7 + (1 : Int32)))]) [2, 3, 4, 5, 6, 1, 7, 0] rfl ?_
  exact hrec61 (y1 + y0) x6 (x7 + (1 : Int32)) h
set_option maxHeartbeats 4000000 in
set_option maxRecDepth 100000 in
theorem LX10_dry_124 {p : Program} {l : Launch} {e : Env} {s : State} {m : MethodId} {args : Array Value} {below : List Frame} {meth : Method} {c : Code} {D : va_G} {cyI cyZ cyW : ClassId} {zW zO : Nat} {A : Nat → Prop} (C : Cx p s m args meth c cX10_dry RX10 "dry" wsX10_dry (some .int) 11 D (tyA cyI cyZ cyW) zW zO A) {md : Nat → Nat} {mflags : Int32} {mtubs : Int32} {mpegs : Int32} {mcl : (Nat → Int32)} {mws : (Nat → Int32)} {mho : (Nat → Int32)} {mnow : (Nat → Int32)} {mrd : (Nat → Int32)} {mrh : (Nat → Int32)} {mrf : Int32} {mtx : (Nat → Int32)} {mlen : Int32} {mat : Int32} {mfa : Int32} {mac : Int32} {mnx : Int32} {mrow : (Nat → Int32)} {msn : Int32} {mso : (Nat → Int32)} {msc : (Nat → Int32)} {msw : (Nat → Int32)} {mseed : Int64} {mik : (Nat → Int32)} {mkp : (Nat → Int32)} {x1 : Int32} {x2 : Int32} {x3 : Int32} {x4 : Bool} {x5 : Int32} {x6 : Int32} {x7 : Int32} {x8 : Int32} {x10 : Int32} {y0 : Int32} {y1 : Int32} {rec61 : Int32 → Int32 → Int32 → Option (Int32)} {rec78 : Int32 → Int32 → Int32 → Option (Int32)} {res : Int32} (hrec61 : ∀ (x5 : Int32) (x6 : Int32) (x7 : Int32), rec61 x5 x6 x7 = some res → Mx p l e ({ frames := 2, cells := 0, slots := 0, locals := 46 } : Room) s m args below meth c (MQ below (QI D (tyA cyI cyZ cyW) A (wMO cyI cyZ cyW md mflags mtubs mpegs mcl mws mho mnow mrd mrh mrf mtx mlen mat mfa mac mnx mrow msn mso msc msw mseed mik mkp) res) args s 0 0 A) 11 D A 0 0 (wMO cyI cyZ cyW md mflags mtubs mpegs mcl mws mho mnow mrd mrh mrf mtx mlen mat mfa mac mnx mrow msn mso msc msw mseed mik mkp) 61 [(0, .ref (md 0)), (1, .int x1), (2, .int x2), (3, .int x3), (4, .int (b2i x4)), (5, .int x5), (6, .int x6), (7, .int x7)] []) (hrec78 : ∀ (x8 : Int32) (x9 : Int32) (x10 : Int32), rec78 x8 x9 x10 = some res → Mx p l e ({ frames := 2, cells := 0, slots := 0, locals := 46 } : Room) s m args below meth c (MQ below (QI D (tyA cyI cyZ cyW) A (wMO cyI cyZ cyW md mflags mtubs mpegs mcl mws mho mnow mrd mrh mrf mtx mlen mat mfa mac mnx mrow msn mso msc msw mseed mik mkp) res) args s 0 0 A) 11 D A 0 0 (wMO cyI cyZ cyW md mflags mtubs mpegs mcl mws mho mnow mrd mrh mrf mtx mlen mat mfa mac mnx mrow msn mso msc msw mseed mik mkp) 78 [(0, .ref (md 0)), (1, .int x1), (2, .int x2), (3, .int x3), (4, .int (b2i x4)), (5, .int x5), (6, .int x6), (7, .int x7), (8, .int x8), (9, .int x9), (10, .int x10)] []) (h : fX10_dry_124 rec61 rec78 x1 x2 x3 x4 x5 x6 x7 x8 x10 y0 y1 mnow = some res) : Mx p l e ({ frames := 2, cells := 0, slots := 0, locals := 46 } : Room) s m args below meth c (MQ below (QI D (tyA cyI cyZ cyW) A (wMO cyI cyZ cyW md mflags mtubs mpegs mcl mws mho mnow mrd mrh mrf mtx mlen mat mfa mac mnx mrow msn mso msc msw mseed mik mkp) res) args s 0 0 A) 11 D A 0 0 (wMO cyI cyZ cyW md mflags mtubs mpegs mcl mws mho mnow mrd mrh mrf mtx mlen mat mfa mac mnx mrow msn mso msc msw mseed mik mkp) 124 [(0, .ref (md 0)), (1, .int x1), (2, .int x2), (3, .int x3), (4, .int (b2i x4)), (5, .int x5), (6, .int x6), (7, .int x7), (8, .int x8), (10, .int x10)] [.int y0, .int y1] := by
  unfold fX10_dry_124 at h
  refine r_iadd C dX10_dry_124 ?_
  refine r_istore (lv' := [(9, .int (y1 + y0)), (0, .ref (md 0)), (1, .int x1), (2, .int x2), (3, .int x3), (4, .int (b2i x4)), (5, .int x5), (6, .int x6), (7, .int x7), (8, .int x8), (10, .int x10)]) C dX10_dry_125 (by decide) rfl ?_
  refine r_iinc (v := 1) (lv' := [(10, .int (x10 + (1 : Int32))), (9, .int (y1 + y0)), (0, .ref (md 0)), (1, .int x1), (2, .int x2), (3, .int x3), (4, .int (b2i x4)), (5, .int x5), (6, .int x6), (7, .int x7), (8, .int x8)]) C dX10_dry_127 10 rfl ic_1 (by decide) rfl ?_
  refine r_goto (tgt := 78) C dX10_dry_130 (by decide) ?_
  refine r_lv (lv' := [(0, .ref (md 0)), (1, .int x1), (2, .int x2), (3, .int x3), (4, .int (b2i x4)), (5, .int x5), (6, .int x6), (7, .int x7), (8, .int x8), (9, .int (y1 + y0)), (10, .int (x10 + (1 : Int32)))]) [2, 3, 4, 5, 6, 7, 8, 9, 10, 1, 0] rfl ?_
  exact hrec78 x8 (y1 + y0) (x10 + (1 : Int32)) h
set_option maxHeartbeats 4000000 in
set_option maxRecDepth 100000 in
theorem LX10_dry_104 {p : Program} {l : Launch} {e : Env} {s : State} {m : MethodId} {args : Array Value} {below : List Frame} {meth : Method} {c : Code} {D : va_G} {cyI cyZ cyW : ClassId} {zW zO : Nat} {A : Nat → Prop} (C : Cx p s m args meth c cX10_dry RX10 "dry" wsX10_dry (some .int) 11 D (tyA cyI cyZ cyW) zW zO A) {md : Nat → Nat} {mflags : Int32} {mtubs : Int32} {mpegs : Int32} {mcl : (Nat → Int32)} {mws : (Nat → Int32)} {mho : (Nat → Int32)} {mnow : (Nat → Int32)} {mrd : (Nat → Int32)} {mrh : (Nat → Int32)} {mrf : Int32} {mtx : (Nat → Int32)} {mlen : Int32} {mat : Int32} {mfa : Int32} {mac : Int32} {mnx : Int32} {mrow : (Nat → Int32)} {msn : Int32} {mso : (Nat → Int32)} {msc : (Nat → Int32)} {msw : (Nat → Int32)} {mseed : Int64} {mik : (Nat → Int32)} {mkp : (Nat → Int32)} {x1 : Int32} {x2 : Int32} {x3 : Int32} {x4 : Bool} {x5 : Int32} {x6 : Int32} {x7 : Int32} {x9 : Int32} {x10 : Int32} {y0 : Int32} {y1 : Int32} {rec61 : Int32 → Int32 → Int32 → Option (Int32)} {rec78 : Int32 → Int32 → Int32 → Option (Int32)} {res : Int32} (hrec61 : ∀ (x5 : Int32) (x6 : Int32) (x7 : Int32), rec61 x5 x6 x7 = some res → Mx p l e ({ frames := 2, cells := 0, slots := 0, locals := 46 } : Room) s m args below meth c (MQ below (QI D (tyA cyI cyZ cyW) A (wMO cyI cyZ cyW md mflags mtubs mpegs mcl mws mho mnow mrd mrh mrf mtx mlen mat mfa mac mnx mrow msn mso msc msw mseed mik mkp) res) args s 0 0 A) 11 D A 0 0 (wMO cyI cyZ cyW md mflags mtubs mpegs mcl mws mho mnow mrd mrh mrf mtx mlen mat mfa mac mnx mrow msn mso msc msw mseed mik mkp) 61 [(0, .ref (md 0)), (1, .int x1), (2, .int x2), (3, .int x3), (4, .int (b2i x4)), (5, .int x5), (6, .int x6), (7, .int x7)] []) (hrec78 : ∀ (x8 : Int32) (x9 : Int32) (x10 : Int32), rec78 x8 x9 x10 = some res → Mx p l e ({ frames := 2, cells := 0, slots := 0, locals := 46 } : Room) s m args below meth c (MQ below (QI D (tyA cyI cyZ cyW) A (wMO cyI cyZ cyW md mflags mtubs mpegs mcl mws mho mnow mrd mrh mrf mtx mlen mat mfa mac mnx mrow msn mso msc msw mseed mik mkp) res) args s 0 0 A) 11 D A 0 0 (wMO cyI cyZ cyW md mflags mtubs mpegs mcl mws mho mnow mrd mrh mrf mtx mlen mat mfa mac mnx mrow msn mso msc msw mseed mik mkp) 78 [(0, .ref (md 0)), (1, .int x1), (2, .int x2), (3, .int x3), (4, .int (b2i x4)), (5, .int x5), (6, .int x6), (7, .int x7), (8, .int x8), (9, .int x9), (10, .int x10)] []) (h : fX10_dry_104 rec61 rec78 x1 x2 x3 x4 x5 x6 x7 x9 x10 y0 y1 mnow = some res) : Mx p l e ({ frames := 2, cells := 0, slots := 0, locals := 46 } : Room) s m args below meth c (MQ below (QI D (tyA cyI cyZ cyW) A (wMO cyI cyZ cyW md mflags mtubs mpegs mcl mws mho mnow mrd mrh mrf mtx mlen mat mfa mac mnx mrow msn mso msc msw mseed mik mkp) res) args s 0 0 A) 11 D A 0 0 (wMO cyI cyZ cyW md mflags mtubs mpegs mcl mws mho mnow mrd mrh mrf mtx mlen mat mfa mac mnx mrow msn mso msc msw mseed mik mkp) 104 [(0, .ref (md 0)), (1, .int x1), (2, .int x2), (3, .int x3), (4, .int (b2i x4)), (5, .int x5), (6, .int x6), (7, .int x7), (9, .int x9), (10, .int x10)] [.int y0, .int y1] := by
  unfold fX10_dry_104 at h
  refine r_imul C dX10_dry_104 ?_
  refine r_istore (lv' := [(8, .int (y1 * y0)), (0, .ref (md 0)), (1, .int x1), (2, .int x2), (3, .int x3), (4, .int (b2i x4)), (5, .int x5), (6, .int x6), (7, .int x7), (9, .int x9), (10, .int x10)]) C dX10_dry_105 (by decide) rfl ?_
  refine r_iload C dX10_dry_107 9 rfl ?_
  refine r_iload C dX10_dry_109 8 rfl ?_
  refine r_iload C dX10_dry_111 10 rfl ?_
  obtain ⟨u19, hu19, h⟩ := ob_bind h
  refine r_readSI (As := [.int x7, .int x10]) (rest := [.int x9]) C (kX10_has   (x0 := x7) (x1 := x10) hu19) gX10_dry_X10_has rfl rfl rfl hd_X10_has ⟨by decide, by decide⟩ rfl [] (by decide) rfl rfl (Nat.le_of_ble_eq_true rfl) dX10_dry_113 ⟨Nat.zero_le _, Nat.zero_le _⟩ ?_
  refine r_ifb_eq (tgt := 123) C dX10_dry_116 (by decide) (fun c20 => ?_) (fun c20 => ?_)
  · replace h := ob_bf h c20
    refine r_iconst (v := 1) C dX10_dry_123 ic_1 ?_
    refine r_lv (lv' := [(0, .ref (md 0)), (1, .int x1), (2, .int x2), (3, .int x3), (4, .int (b2i x4)), (5, .int x5), (6, .int x6), (7, .int x7), (8, .int (y1 * y0)), (10, .int x10)]) [1, 2, 3, 4, 5, 6, 7, 8, 0, 10] rfl ?_
    exact LX10_dry_124 C (x1 := x1) (x2 := x2) (x3 := x3) (x4 := x4) (x5 := x5) (x6 := x6) (x7 := x7) (x8 := (y1 * y0)) (x10 := x10) (y0 := (1 : Int32)) (y1 := x9) (mflags := mflags) (mtubs := mtubs) (mpegs := mpegs) (mcl := mcl) (mws := mws) (mho := mho) (mnow := mnow) (mrd := mrd) (mrh := mrh) (mrf := mrf) (mtx := mtx) (mlen := mlen) (mat := mat) (mfa := mfa) (mac := mac) (mnx := mnx) (mrow := mrow) (msn := msn) (mso := mso) (msc := msc) (msw := msw) (mseed := mseed) (mik := mik) (mkp := mkp) hrec61 hrec78 h
  · replace h := ob_t h c20
    refine r_iconst (v := 3) C dX10_dry_119 ic_3 ?_
    refine r_goto (tgt := 124) C dX10_dry_120 (by decide) ?_
    refine r_lv (lv' := [(0, .ref (md 0)), (1, .int x1), (2, .int x2), (3, .int x3), (4, .int (b2i x4)), (5, .int x5), (6, .int x6), (7, .int x7), (8, .int (y1 * y0)), (10, .int x10)]) [1, 2, 3, 4, 5, 6, 7, 8, 0, 10] rfl ?_
    exact LX10_dry_124 C (x1 := x1) (x2 := x2) (x3 := x3) (x4 := x4) (x5 := x5) (x6 := x6) (x7 := x7) (x8 := (y1 * y0)) (x10 := x10) (y0 := (3 : Int32)) (y1 := x9) (mflags := mflags) (mtubs := mtubs) (mpegs := mpegs) (mcl := mcl) (mws := mws) (mho := mho) (mnow := mnow) (mrd := mrd) (mrh := mrh) (mrf := mrf) (mtx := mtx) (mlen := mlen) (mat := mat) (mfa := mfa) (mac := mac) (mnx := mnx) (mrow := mrow) (msn := msn) (mso := mso) (msc := msc) (msw := msw) (mseed := mseed) (mik := mik) (mkp := mkp) hrec61 hrec78 h
set_option maxHeartbeats 4000000 in
set_option maxRecDepth 100000 in
theorem LGX10_dry_78 {p : Program} {l : Launch} {e : Env} {s : State} {m : MethodId} {args : Array Value} {below : List Frame} {meth : Method} {c : Code} {D : va_G} {cyI cyZ cyW : ClassId} {zW zO : Nat} {A : Nat → Prop} (C : Cx p s m args meth c cX10_dry RX10 "dry" wsX10_dry (some .int) 11 D (tyA cyI cyZ cyW) zW zO A) {md : Nat → Nat} {mflags : Int32} {mtubs : Int32} {mpegs : Int32} {mcl : (Nat → Int32)} {mws : (Nat → Int32)} {mho : (Nat → Int32)} {mnow : (Nat → Int32)} {mrd : (Nat → Int32)} {mrh : (Nat → Int32)} {mrf : Int32} {mtx : (Nat → Int32)} {mlen : Int32} {mat : Int32} {mfa : Int32} {mac : Int32} {mnx : Int32} {mrow : (Nat → Int32)} {msn : Int32} {mso : (Nat → Int32)} {msc : (Nat → Int32)} {msw : (Nat → Int32)} {mseed : Int64} {mik : (Nat → Int32)} {mkp : (Nat → Int32)} {x1 : Int32} {x2 : Int32} {x3 : Int32} {x4 : Bool} {x5 : Int32} {x6 : Int32} {x7 : Int32} {x8 : Int32} {x9 : Int32} {x10 : Int32} {rec61 : Int32 → Int32 → Int32 → Option (Int32)} {rec78 : Int32 → Int32 → Int32 → Option (Int32)} {res : Int32} (hrec61 : ∀ (x5 : Int32) (x6 : Int32) (x7 : Int32), rec61 x5 x6 x7 = some res → Mx p l e ({ frames := 2, cells := 0, slots := 0, locals := 46 } : Room) s m args below meth c (MQ below (QI D (tyA cyI cyZ cyW) A (wMO cyI cyZ cyW md mflags mtubs mpegs mcl mws mho mnow mrd mrh mrf mtx mlen mat mfa mac mnx mrow msn mso msc msw mseed mik mkp) res) args s 0 0 A) 11 D A 0 0 (wMO cyI cyZ cyW md mflags mtubs mpegs mcl mws mho mnow mrd mrh mrf mtx mlen mat mfa mac mnx mrow msn mso msc msw mseed mik mkp) 61 [(0, .ref (md 0)), (1, .int x1), (2, .int x2), (3, .int x3), (4, .int (b2i x4)), (5, .int x5), (6, .int x6), (7, .int x7)] []) (hrec78 : ∀ (x8 : Int32) (x9 : Int32) (x10 : Int32), rec78 x8 x9 x10 = some res → Mx p l e ({ frames := 2, cells := 0, slots := 0, locals := 46 } : Room) s m args below meth c (MQ below (QI D (tyA cyI cyZ cyW) A (wMO cyI cyZ cyW md mflags mtubs mpegs mcl mws mho mnow mrd mrh mrf mtx mlen mat mfa mac mnx mrow msn mso msc msw mseed mik mkp) res) args s 0 0 A) 11 D A 0 0 (wMO cyI cyZ cyW md mflags mtubs mpegs mcl mws mho mnow mrd mrh mrf mtx mlen mat mfa mac mnx mrow msn mso msc msw mseed mik mkp) 78 [(0, .ref (md 0)), (1, .int x1), (2, .int x2), (3, .int x3), (4, .int (b2i x4)), (5, .int x5), (6, .int x6), (7, .int x7), (8, .int x8), (9, .int x9), (10, .int x10)] []) (h : gX10_dry_78 rec61 rec78 x1 x2 x3 x4 x5 x6 x7 x8 x9 x10 mnow = some res) : Mx p l e ({ frames := 2, cells := 0, slots := 0, locals := 46 } : Room) s m args below meth c (MQ below (QI D (tyA cyI cyZ cyW) A (wMO cyI cyZ cyW md mflags mtubs mpegs mcl mws mho mnow mrd mrh mrf mtx mlen mat mfa mac mnx mrow msn mso msc msw mseed mik mkp) res) args s 0 0 A) 11 D A 0 0 (wMO cyI cyZ cyW md mflags mtubs mpegs mcl mws mho mnow mrd mrh mrf mtx mlen mat mfa mac mnx mrow msn mso msc msw mseed mik mkp) 78 [(0, .ref (md 0)), (1, .int x1), (2, .int x2), (3, .int x3), (4, .int (b2i x4)), (5, .int x5), (6, .int x6), (7, .int x7), (8, .int x8), (9, .int x9), (10, .int x10)] [] := by
  unfold gX10_dry_78 at h
  refine r_iload C dX10_dry_78 10 rfl ?_
  refine r_iload_n C dX10_dry_80 2 rfl rfl ?_
  refine r_icmp_ge (tgt := 133) C dX10_dry_81 (by decide) (fun c14 => ?_) (fun c14 => ?_)
  · replace h := ob_t h c14
    refine r_iload C dX10_dry_133 6 rfl ?_
    refine r_iload C dX10_dry_135 8 rfl ?_
    refine r_iadd C dX10_dry_137 ?_
    refine r_istore (lv' := [(6, .int (x6 + x8)), (0, .ref (md 0)), (1, .int x1), (2, .int x2), (3, .int x3), (4, .int (b2i x4)), (5, .int x5), (7, .int x7), (8, .int x8), (9, .int x9), (10, .int x10)]) C dX10_dry_138 (by decide) rfl ?_
    refine r_iload C dX10_dry_140 6 rfl ?_
    refine r_iload C dX10_dry_142 9 rfl ?_
    refine r_aload_n C dX10_dry_144 1 rfl rfl ?_
    refine r_get (ci := 7) (CC := RX10) (T := TX10) (N := 24) (v := .ref (md 4)) C hinX10_dry_X10 0 rfl rfl 6 (by decide) mX10_dry_3 rfl rfl dX10_dry_145 ?_
    refine r_bipush (v := 10) C dX10_dry_148 bp_10 ?_
    refine r_iload_n C dX10_dry_150 2 rfl rfl ?_
    refine r_iadd C dX10_dry_151 ?_
    obtain ⟨hu15, h⟩ := ob_if h
    refine r_iald C 4 0 rfl rfl (inb_vp hu15) dX10_dry_152 ?_
    refine r_icmp_lt (tgt := 161) C dX10_dry_153 (by decide) (fun c16 => ?_) (fun c16 => ?_)
    · replace h := ob_t h c16
      refine r_iconst (v := 0) C dX10_dry_161 ic_0 ?_
      refine r_lv (lv' := [(0, .ref (md 0)), (1, .int x1), (2, .int x2), (3, .int x3), (4, .int (b2i x4)), (6, .int (x6 + x8)), (7, .int x7)]) [1, 2, 3, 4, 5, 0, 7] rfl ?_
      exact LX10_dry_162 C (x1 := x1) (x2 := x2) (x3 := x3) (x4 := x4) (x6 := (x6 + x8)) (x7 := x7) (y0 := (0 : Int32)) (y1 := x5) (mflags := mflags) (mtubs := mtubs) (mpegs := mpegs) (mcl := mcl) (mws := mws) (mho := mho) (mnow := mnow) (mrd := mrd) (mrh := mrh) (mrf := mrf) (mtx := mtx) (mlen := mlen) (mat := mat) (mfa := mfa) (mac := mac) (mnx := mnx) (mrow := mrow) (msn := msn) (mso := mso) (msc := msc) (msw := msw) (mseed := mseed) (mik := mik) (mkp := mkp) hrec61 h
    · replace h := ob_f h c16
      refine r_iload C dX10_dry_156 8 rfl ?_
      refine r_goto (tgt := 162) C dX10_dry_158 (by decide) ?_
      refine r_lv (lv' := [(0, .ref (md 0)), (1, .int x1), (2, .int x2), (3, .int x3), (4, .int (b2i x4)), (6, .int (x6 + x8)), (7, .int x7)]) [1, 2, 3, 4, 5, 0, 7] rfl ?_
      exact LX10_dry_162 C (x1 := x1) (x2 := x2) (x3 := x3) (x4 := x4) (x6 := (x6 + x8)) (x7 := x7) (y0 := x8) (y1 := x5) (mflags := mflags) (mtubs := mtubs) (mpegs := mpegs) (mcl := mcl) (mws := mws) (mho := mho) (mnow := mnow) (mrd := mrd) (mrh := mrh) (mrf := mrf) (mtx := mtx) (mlen := mlen) (mat := mat) (mfa := mfa) (mac := mac) (mnx := mnx) (mrow := mrow) (msn := msn) (mso := mso) (msc := msc) (msw := msw) (mseed := mseed) (mik := mik) (mkp := mkp) hrec61 h
  · replace h := ob_f h c14
    refine r_iload C dX10_dry_84 8 rfl ?_
    refine r_iload C dX10_dry_86 7 rfl ?_
    refine r_iload C dX10_dry_88 10 rfl ?_
    obtain ⟨u17, hu17, h⟩ := ob_bind h
    refine r_readSI (As := [.int x7, .int x10]) (rest := [.int x8]) C (kX10_has   (x0 := x7) (x1 := x10) hu17) gX10_dry_X10_has rfl rfl rfl hd_X10_has ⟨by decide, by decide⟩ rfl [] (by decide) rfl rfl (Nat.le_of_ble_eq_true rfl) dX10_dry_90 ⟨Nat.zero_le _, Nat.zero_le _⟩ ?_
    refine r_ifb_eq (tgt := 100) C dX10_dry_93 (by decide) (fun c18 => ?_) (fun c18 => ?_)
    · replace h := ob_bf h c18
      refine r_bipush (v := 10) C dX10_dry_100 bp_10 ?_
      refine r_iload_n C dX10_dry_102 3 rfl rfl ?_
      refine r_isub C dX10_dry_103 ?_
      refine r_lv (lv' := [(0, .ref (md 0)), (1, .int x1), (2, .int x2), (3, .int x3), (4, .int (b2i x4)), (5, .int x5), (6, .int x6), (7, .int x7), (9, .int x9), (10, .int x10)]) [0, 1, 2, 3, 4, 5, 6, 7, 9, 10] rfl ?_
      exact LX10_dry_104 C (x1 := x1) (x2 := x2) (x3 := x3) (x4 := x4) (x5 := x5) (x6 := x6) (x7 := x7) (x9 := x9) (x10 := x10) (y0 := ((10 : Int32) - x3)) (y1 := x8) (mflags := mflags) (mtubs := mtubs) (mpegs := mpegs) (mcl := mcl) (mws := mws) (mho := mho) (mnow := mnow) (mrd := mrd) (mrh := mrh) (mrf := mrf) (mtx := mtx) (mlen := mlen) (mat := mat) (mfa := mfa) (mac := mac) (mnx := mnx) (mrow := mrow) (msn := msn) (mso := mso) (msc := msc) (msw := msw) (mseed := mseed) (mik := mik) (mkp := mkp) hrec61 hrec78 h
    · replace h := ob_t h c18
      refine r_iload_n C dX10_dry_96 3 rfl rfl ?_
      refine r_goto (tgt := 104) C dX10_dry_97 (by decide) ?_
      refine r_lv (lv' := [(0, .ref (md 0)), (1, .int x1), (2, .int x2), (3, .int x3), (4, .int (b2i x4)), (5, .int x5), (6, .int x6), (7, .int x7), (9, .int x9), (10, .int x10)]) [0, 1, 2, 3, 4, 5, 6, 7, 9, 10] rfl ?_
      exact LX10_dry_104 C (x1 := x1) (x2 := x2) (x3 := x3) (x4 := x4) (x5 := x5) (x6 := x6) (x7 := x7) (x9 := x9) (x10 := x10) (y0 := x3) (y1 := x8) (mflags := mflags) (mtubs := mtubs) (mpegs := mpegs) (mcl := mcl) (mws := mws) (mho := mho) (mnow := mnow) (mrd := mrd) (mrh := mrh) (mrf := mrf) (mtx := mtx) (mlen := mlen) (mat := mat) (mfa := mfa) (mac := mac) (mnx := mnx) (mrow := mrow) (msn := msn) (mso := mso) (msc := msc) (msw := msw) (mseed := mseed) (mik := mik) (mkp := mkp) hrec61 hrec78 h
set_option maxHeartbeats 4000000 in
set_option maxRecDepth 100000 in
theorem LX10_dry_78 {p : Program} {l : Launch} {e : Env} {s : State} {m : MethodId} {args : Array Value} {below : List Frame} {meth : Method} {c : Code} {D : va_G} {cyI cyZ cyW : ClassId} {zW zO : Nat} {A : Nat → Prop} (C : Cx p s m args meth c cX10_dry RX10 "dry" wsX10_dry (some .int) 11 D (tyA cyI cyZ cyW) zW zO A) {md : Nat → Nat} {x1 : Int32} {x2 : Int32} {x3 : Int32} {x4 : Bool} {x5 : Int32} {x6 : Int32} {x7 : Int32} {mflags : Int32} {mtubs : Int32} {mpegs : Int32} {mcl : (Nat → Int32)} {mws : (Nat → Int32)} {mho : (Nat → Int32)} {mnow : (Nat → Int32)} {mrd : (Nat → Int32)} {mrh : (Nat → Int32)} {mrf : Int32} {mtx : (Nat → Int32)} {mlen : Int32} {mat : Int32} {mfa : Int32} {mac : Int32} {mnx : Int32} {mrow : (Nat → Int32)} {msn : Int32} {mso : (Nat → Int32)} {msc : (Nat → Int32)} {msw : (Nat → Int32)} {mseed : Int64} {mik : (Nat → Int32)} {mkp : (Nat → Int32)} {rec61 : Int32 → Int32 → Int32 → Option (Int32)} {res : Int32} (hrec61 : ∀ (x5 : Int32) (x6 : Int32) (x7 : Int32), rec61 x5 x6 x7 = some res → Mx p l e ({ frames := 2, cells := 0, slots := 0, locals := 46 } : Room) s m args below meth c (MQ below (QI D (tyA cyI cyZ cyW) A (wMO cyI cyZ cyW md mflags mtubs mpegs mcl mws mho mnow mrd mrh mrf mtx mlen mat mfa mac mnx mrow msn mso msc msw mseed mik mkp) res) args s 0 0 A) 11 D A 0 0 (wMO cyI cyZ cyW md mflags mtubs mpegs mcl mws mho mnow mrd mrh mrf mtx mlen mat mfa mac mnx mrow msn mso msc msw mseed mik mkp) 61 [(0, .ref (md 0)), (1, .int x1), (2, .int x2), (3, .int x3), (4, .int (b2i x4)), (5, .int x5), (6, .int x6), (7, .int x7)] []) : ∀ (n : Nat) (x8 : Int32) (x9 : Int32) (x10 : Int32), fX10_dry_78 rec61 x1 x2 x3 x4 x5 x6 x7 mnow n x8 x9 x10 = some res → Mx p l e ({ frames := 2, cells := 0, slots := 0, locals := 46 } : Room) s m args below meth c (MQ below (QI D (tyA cyI cyZ cyW) A (wMO cyI cyZ cyW md mflags mtubs mpegs mcl mws mho mnow mrd mrh mrf mtx mlen mat mfa mac mnx mrow msn mso msc msw mseed mik mkp) res) args s 0 0 A) 11 D A 0 0 (wMO cyI cyZ cyW md mflags mtubs mpegs mcl mws mho mnow mrd mrh mrf mtx mlen mat mfa mac mnx mrow msn mso msc msw mseed mik mkp) 78 [(0, .ref (md 0)), (1, .int x1), (2, .int x2), (3, .int x3), (4, .int (b2i x4)), (5, .int x5), (6, .int x6), (7, .int x7), (8, .int x8), (9, .int x9), (10, .int x10)] [] := by
  intro n
  induction n with
  | zero => intro x8 x9 x10 h; cases h
  | succ n ih => intro x8 x9 x10 h; exact LGX10_dry_78 C hrec61 ih h
set_option maxHeartbeats 4000000 in
set_option maxRecDepth 100000 in
theorem LGX10_dry_61 {p : Program} {l : Launch} {e : Env} {s : State} {m : MethodId} {args : Array Value} {below : List Frame} {meth : Method} {c : Code} {D : va_G} {cyI cyZ cyW : ClassId} {zW zO : Nat} {A : Nat → Prop} (C : Cx p s m args meth c cX10_dry RX10 "dry" wsX10_dry (some .int) 11 D (tyA cyI cyZ cyW) zW zO A) {md : Nat → Nat} {mflags : Int32} {mtubs : Int32} {mpegs : Int32} {mcl : (Nat → Int32)} {mws : (Nat → Int32)} {mho : (Nat → Int32)} {mnow : (Nat → Int32)} {mrd : (Nat → Int32)} {mrh : (Nat → Int32)} {mrf : Int32} {mtx : (Nat → Int32)} {mlen : Int32} {mat : Int32} {mfa : Int32} {mac : Int32} {mnx : Int32} {mrow : (Nat → Int32)} {msn : Int32} {mso : (Nat → Int32)} {msc : (Nat → Int32)} {msw : (Nat → Int32)} {mseed : Int64} {mik : (Nat → Int32)} {mkp : (Nat → Int32)} {x1 : Int32} {x2 : Int32} {x3 : Int32} {x4 : Bool} {x5 : Int32} {x6 : Int32} {x7 : Int32} {rec61 : Int32 → Int32 → Int32 → Option (Int32)} {res : Int32} (hrec61 : ∀ (x5 : Int32) (x6 : Int32) (x7 : Int32), rec61 x5 x6 x7 = some res → Mx p l e ({ frames := 2, cells := 0, slots := 0, locals := 46 } : Room) s m args below meth c (MQ below (QI D (tyA cyI cyZ cyW) A (wMO cyI cyZ cyW md mflags mtubs mpegs mcl mws mho mnow mrd mrh mrf mtx mlen mat mfa mac mnx mrow msn mso msc msw mseed mik mkp) res) args s 0 0 A) 11 D A 0 0 (wMO cyI cyZ cyW md mflags mtubs mpegs mcl mws mho mnow mrd mrh mrf mtx mlen mat mfa mac mnx mrow msn mso msc msw mseed mik mkp) 61 [(0, .ref (md 0)), (1, .int x1), (2, .int x2), (3, .int x3), (4, .int (b2i x4)), (5, .int x5), (6, .int x6), (7, .int x7)] []) (h : gX10_dry_61 rec61 x1 x2 x3 x4 x5 x6 x7 mnow = some res) : Mx p l e ({ frames := 2, cells := 0, slots := 0, locals := 46 } : Room) s m args below meth c (MQ below (QI D (tyA cyI cyZ cyW) A (wMO cyI cyZ cyW md mflags mtubs mpegs mcl mws mho mnow mrd mrh mrf mtx mlen mat mfa mac mnx mrow msn mso msc msw mseed mik mkp) res) args s 0 0 A) 11 D A 0 0 (wMO cyI cyZ cyW md mflags mtubs mpegs mcl mws mho mnow mrd mrh mrf mtx mlen mat mfa mac mnx mrow msn mso msc msw mseed mik mkp) 61 [(0, .ref (md 0)), (1, .int x1), (2, .int x2), (3, .int x3), (4, .int (b2i x4)), (5, .int x5), (6, .int x6), (7, .int x7)] [] := by
  unfold gX10_dry_61 at h
  refine r_iload C dX10_dry_61 7 rfl ?_
  refine r_iconst (v := 1) C dX10_dry_63 ic_1 ?_
  refine r_iload_n C dX10_dry_64 2 rfl rfl ?_
  refine r_ishl C dX10_dry_65 ?_
  refine r_icmp_ge (tgt := 171) C dX10_dry_66 (by decide) (fun c9 => ?_) (fun c9 => ?_)
  · replace h := ob_t h c9
    refine r_iload C dX10_dry_171 5 rfl ?_
    refine r_iload C dX10_dry_173 6 rfl ?_
    obtain ⟨u10, hu10, h⟩ := ob_bind h
    refine r_readSI (As := [.int x5, .int x6]) (rest := []) C (kX10_common   (x0 := x5) (x1 := x6) hu10) gX10_dry_X10_common rfl rfl rfl hd_X10_common ⟨by decide, by decide⟩ rfl [] (by decide) rfl rfl (Nat.le_of_ble_eq_true rfl) dX10_dry_175 ⟨Nat.zero_le _, Nat.zero_le _⟩ ?_
    refine r_istore (lv' := [(7, .int u10), (0, .ref (md 0)), (1, .int x1), (2, .int x2), (3, .int x3), (4, .int (b2i x4)), (5, .int x5), (6, .int x6)]) C dX10_dry_178 (by decide) rfl ?_
    refine r_iload C dX10_dry_180 5 rfl ?_
    refine r_ifb_eq (tgt := 193) C dX10_dry_182 (by decide) (fun c11 => ?_) (fun c11 => ?_)
    · replace h := ob_bf h c11
      refine r_iload C dX10_dry_193 7 rfl ?_
      refine r_iload C dX10_dry_195 0 rfl ?_
      obtain ⟨hu12, h⟩ := ob_ne h
      refine r_idiv C dX10_dry_197 hu12 ?_
      have h9 := Option.some.inj h
      subst h9
      exact r_iret C rfl dX10_dry_198
    · replace h := ob_t h c11
      refine r_iload C dX10_dry_185 6 rfl ?_
      refine r_iload C dX10_dry_187 0 rfl ?_
      obtain ⟨hu13, h⟩ := ob_ne h
      refine r_idiv C dX10_dry_189 hu13 ?_
      refine r_goto (tgt := 198) C dX10_dry_190 (by decide) ?_
      have h9 := Option.some.inj h
      subst h9
      exact r_iret C rfl dX10_dry_198
  · replace h := ob_f h c9
    refine r_iconst (v := 1) C dX10_dry_69 ic_1 ?_
    refine r_istore (lv' := [(8, .int (1 : Int32)), (0, .ref (md 0)), (1, .int x1), (2, .int x2), (3, .int x3), (4, .int (b2i x4)), (5, .int x5), (6, .int x6), (7, .int x7)]) C dX10_dry_70 (by decide) rfl ?_
    refine r_iconst (v := 0) C dX10_dry_72 ic_0 ?_
    refine r_istore (lv' := [(9, .int (0 : Int32)), (8, .int (1 : Int32)), (0, .ref (md 0)), (1, .int x1), (2, .int x2), (3, .int x3), (4, .int (b2i x4)), (5, .int x5), (6, .int x6), (7, .int x7)]) C dX10_dry_73 (by decide) rfl ?_
    refine r_iconst (v := 0) C dX10_dry_75 ic_0 ?_
    refine r_istore (lv' := [(10, .int (0 : Int32)), (9, .int (0 : Int32)), (8, .int (1 : Int32)), (0, .ref (md 0)), (1, .int x1), (2, .int x2), (3, .int x3), (4, .int (b2i x4)), (5, .int x5), (6, .int x6), (7, .int x7)]) C dX10_dry_76 (by decide) rfl ?_
    refine r_lv (lv' := [(0, .ref (md 0)), (1, .int x1), (2, .int x2), (3, .int x3), (4, .int (b2i x4)), (5, .int x5), (6, .int x6), (7, .int x7), (8, .int (1 : Int32)), (9, .int (0 : Int32)), (10, .int (0 : Int32))]) [3, 4, 5, 6, 7, 8, 9, 10, 2, 1, 0] rfl ?_
    exact LX10_dry_78 C (x1 := x1) (x2 := x2) (x3 := x3) (x4 := x4) (x5 := x5) (x6 := x6) (x7 := x7) (mflags := mflags) (mtubs := mtubs) (mpegs := mpegs) (mcl := mcl) (mws := mws) (mho := mho) (mnow := mnow) (mrd := mrd) (mrh := mrh) (mrf := mrf) (mtx := mtx) (mlen := mlen) (mat := mat) (mfa := mfa) (mac := mac) (mnx := mnx) (mrow := mrow) (msn := msn) (mso := mso) (msc := msc) (msw := msw) (mseed := mseed) (mik := mik) (mkp := mkp) hrec61 FU (1 : Int32) (0 : Int32) (0 : Int32) h
set_option maxHeartbeats 4000000 in
set_option maxRecDepth 100000 in
theorem LX10_dry_61 {p : Program} {l : Launch} {e : Env} {s : State} {m : MethodId} {args : Array Value} {below : List Frame} {meth : Method} {c : Code} {D : va_G} {cyI cyZ cyW : ClassId} {zW zO : Nat} {A : Nat → Prop} (C : Cx p s m args meth c cX10_dry RX10 "dry" wsX10_dry (some .int) 11 D (tyA cyI cyZ cyW) zW zO A) {md : Nat → Nat} {x1 : Int32} {x2 : Int32} {x3 : Int32} {x4 : Bool} {mflags : Int32} {mtubs : Int32} {mpegs : Int32} {mcl : (Nat → Int32)} {mws : (Nat → Int32)} {mho : (Nat → Int32)} {mnow : (Nat → Int32)} {mrd : (Nat → Int32)} {mrh : (Nat → Int32)} {mrf : Int32} {mtx : (Nat → Int32)} {mlen : Int32} {mat : Int32} {mfa : Int32} {mac : Int32} {mnx : Int32} {mrow : (Nat → Int32)} {msn : Int32} {mso : (Nat → Int32)} {msc : (Nat → Int32)} {msw : (Nat → Int32)} {mseed : Int64} {mik : (Nat → Int32)} {mkp : (Nat → Int32)}  {res : Int32}  : ∀ (n : Nat) (x5 : Int32) (x6 : Int32) (x7 : Int32), fX10_dry_61  x1 x2 x3 x4 mnow n x5 x6 x7 = some res → Mx p l e ({ frames := 2, cells := 0, slots := 0, locals := 46 } : Room) s m args below meth c (MQ below (QI D (tyA cyI cyZ cyW) A (wMO cyI cyZ cyW md mflags mtubs mpegs mcl mws mho mnow mrd mrh mrf mtx mlen mat mfa mac mnx mrow msn mso msc msw mseed mik mkp) res) args s 0 0 A) 11 D A 0 0 (wMO cyI cyZ cyW md mflags mtubs mpegs mcl mws mho mnow mrd mrh mrf mtx mlen mat mfa mac mnx mrow msn mso msc msw mseed mik mkp) 61 [(0, .ref (md 0)), (1, .int x1), (2, .int x2), (3, .int x3), (4, .int (b2i x4)), (5, .int x5), (6, .int x6), (7, .int x7)] [] := by
  intro n
  induction n with
  | zero => intro x5 x6 x7 h; cases h
  | succ n ih => intro x5 x6 x7 h; exact LGX10_dry_61 C ih h
set_option maxHeartbeats 4000000 in
set_option maxRecDepth 100000 in
theorem kX10_dry {l : Launch} {D : va_G} {cyI cyZ cyW : ClassId} {zW zO : Nat} {md : Nat → Nat} {mflags : Int32} {mtubs : Int32} {mpegs : Int32} {mcl : (Nat → Int32)} {mws : (Nat → Int32)} {mho : (Nat → Int32)} {mnow : (Nat → Int32)} {mrd : (Nat → Int32)} {mrh : (Nat → Int32)} {mrf : Int32} {mtx : (Nat → Int32)} {mlen : Int32} {mat : Int32} {mfa : Int32} {mac : Int32} {mnx : Int32} {mrow : (Nat → Int32)} {msn : Int32} {mso : (Nat → Int32)} {msc : (Nat → Int32)} {msw : (Nat → Int32)} {mseed : Int64} {mik : (Nat → Int32)} {mkp : (Nat → Int32)} {x1 : Int32} {x2 : Int32} {x3 : Int32} {x4 : Bool} {res : Int32} (h : fX10_dry x1 x2 x3 x4 mflags mnow = some res) : KI l yX10_dry wsX10_dry ({ frames := 2, cells := 0, slots := 0, locals := 46 } : Room) D (tyA cyI cyZ cyW) zW zO [.ref (md 0), .int x1, .int x2, .int x3, .int (b2i x4)] (wMO cyI cyZ cyW md mflags mtubs mpegs mcl mws mho mnow mrd mrh mrf mtx mlen mat mfa mac mnx mrow msn mso msc msw mseed mik mkp) (wMO cyI cyZ cyW md mflags mtubs mpegs mcl mws mho mnow mrd mrh mrf mtx mlen mat mfa mac mnx mrow msn mso msc msw mseed mik mkp) res := by
  refine enterI (cc := cX10_dry) (nL := 11) (ret := (some .int)) (by decide) rfl (Nat.le_of_ble_eq_true rfl) (fun p e s m below meth c A C => ?_)
  refine r_lv (lv' := [(0, .ref (md 0)), (1, .int x1), (2, .int x2), (3, .int x3), (4, .int (b2i x4))]) [0, 1, 2, 3, 4] rfl ?_
  unfold fX10_dry at h
  refine r_aload_n C dX10_dry_0 0 rfl rfl ?_
  refine r_iload_n C dX10_dry_1 1 rfl rfl ?_
  obtain ⟨u1, hu1, h⟩ := ob_bind h
  refine r_readVI (q0 := 0) (As := [.int x1]) (rest := []) C (kX10_isFlag (md := md) (mflags := mflags) (mtubs := mtubs) (mpegs := mpegs) (mcl := mcl) (mws := mws) (mho := mho) (mnow := mnow) (mrd := mrd) (mrh := mrh) (mrf := mrf) (mtx := mtx) (mlen := mlen) (mat := mat) (mfa := mfa) (mac := mac) (mnx := mnx) (mrow := mrow) (msn := msn) (mso := mso) (msc := msc) (msw := msw) (mseed := mseed) (mik := mik) (mkp := mkp) (x1 := x1) hu1) gX10_dry_X10_isFlag rfl rfl rfl ⟨rfl, hd_X10_isFlag⟩ ⟨by decide, by decide⟩ rfl rfl rfl rfl [0, 1, 2, 3, 4, 5, 6, 7, 8, 9, 10, 11, 12, 13] (by decide) in_76 rfl (Nat.le_of_ble_eq_true rfl) dX10_dry_2 ⟨Nat.zero_le _, Nat.zero_le _⟩ ?_
  refine r_ifb_ne (tgt := 10) C dX10_dry_5 (by decide) (fun c2 => ?_) (fun c2 => ?_)
  · replace h := ob_t h c2
    refine r_iload_n C dX10_dry_10 2 rfl rfl ?_
    refine r_i2l C dX10_dry_11 ?_
    refine r_lconst (v := 1) C dX10_dry_12 lc_1 ?_
    refine r_ldc2 (v := 6) C mX10_dry_1 dX10_dry_13 ?_
    obtain ⟨u3, hu3, h⟩ := ob_bind h
    refine r_readSI (As := [.long x2.toInt64, .long (1 : Int64), .long (6 : Int64)]) (rest := []) C (kX10_in   (x0 := x2.toInt64) (x2 := (1 : Int64)) (x4 := (6 : Int64)) hu3) gX10_dry_X10_in rfl rfl rfl hd_X10_in ⟨by decide, by decide⟩ rfl [] (by decide) rfl rfl (Nat.le_of_ble_eq_true rfl) dX10_dry_16 ⟨Nat.zero_le _, Nat.zero_le _⟩ ?_
    refine r_ifb_eq (tgt := 34) C dX10_dry_19 (by decide) (fun c4 => ?_) (fun c4 => ?_)
    · replace h := ob_bf h c4
      refine r_bipush (v := -2) C dX10_dry_34 bp_m2 ?_
      have h9 := Option.some.inj h
      subst h9
      exact r_iret C rfl dX10_dry_36
    · replace h := ob_t h c4
      refine r_iload_n C dX10_dry_22 3 rfl rfl ?_
      refine r_i2l C dX10_dry_23 ?_
      refine r_lconst (v := 0) C dX10_dry_24 lc_0 ?_
      refine r_ldc2 (v := 10) C mX10_dry_2 dX10_dry_25 ?_
      obtain ⟨u5, hu5, h⟩ := ob_bind h
      refine r_readSI (As := [.long x3.toInt64, .long (0 : Int64), .long (10 : Int64)]) (rest := []) C (kX10_in   (x0 := x3.toInt64) (x2 := (0 : Int64)) (x4 := (10 : Int64)) hu5) gX10_dry_X10_in rfl rfl rfl hd_X10_in ⟨by decide, by decide⟩ rfl [] (by decide) rfl rfl (Nat.le_of_ble_eq_true rfl) dX10_dry_28 ⟨Nat.zero_le _, Nat.zero_le _⟩ ?_
      refine r_ifb_ne (tgt := 37) C dX10_dry_31 (by decide) (fun c6 => ?_) (fun c6 => ?_)
      · replace h := ob_t h c6
        refine r_aload_n C dX10_dry_37 0 rfl rfl ?_
        refine r_get (ci := 7) (CC := RX10) (T := TX10) (N := 24) (v := .ref (md 4)) C hinX10_dry_X10 0 rfl rfl 6 (by decide) mX10_dry_3 rfl rfl dX10_dry_38 ?_
        refine r_iconst (v := 5) C dX10_dry_41 ic_5 ?_
        refine r_iload_n C dX10_dry_42 1 rfl rfl ?_
        refine r_iadd C dX10_dry_43 ?_
        obtain ⟨hu7, h⟩ := ob_if h
        refine r_iald C 4 0 rfl rfl (inb_vp hu7) dX10_dry_44 ?_
        refine r_iconst (v := 2) C dX10_dry_45 ic_2 ?_
        refine r_icmp_eq (tgt := 52) C dX10_dry_46 (by decide) (fun c8 => ?_) (fun c8 => ?_)
        · replace h := ob_t h c8
          refine r_iconst (v := 0) C dX10_dry_52 ic_0 ?_
          refine r_istore (lv' := [(5, .int (0 : Int32)), (0, .ref (md 0)), (1, .int x1), (2, .int x2), (3, .int x3), (4, .int (b2i x4))]) C dX10_dry_53 (by decide) rfl ?_
          refine r_iconst (v := 0) C dX10_dry_55 ic_0 ?_
          refine r_istore (lv' := [(6, .int (0 : Int32)), (5, .int (0 : Int32)), (0, .ref (md 0)), (1, .int x1), (2, .int x2), (3, .int x3), (4, .int (b2i x4))]) C dX10_dry_56 (by decide) rfl ?_
          refine r_iconst (v := 0) C dX10_dry_58 ic_0 ?_
          refine r_istore (lv' := [(7, .int (0 : Int32)), (6, .int (0 : Int32)), (5, .int (0 : Int32)), (0, .ref (md 0)), (1, .int x1), (2, .int x2), (3, .int x3), (4, .int (b2i x4))]) C dX10_dry_59 (by decide) rfl ?_
          refine r_lv (lv' := [(0, .ref (md 0)), (1, .int x1), (2, .int x2), (3, .int x3), (4, .int (b2i x4)), (5, .int (0 : Int32)), (6, .int (0 : Int32)), (7, .int (0 : Int32))]) [3, 4, 5, 6, 7, 2, 1, 0] rfl ?_
          exact LX10_dry_61 C (x1 := x1) (x2 := x2) (x3 := x3) (x4 := x4) (mflags := mflags) (mtubs := mtubs) (mpegs := mpegs) (mcl := mcl) (mws := mws) (mho := mho) (mnow := mnow) (mrd := mrd) (mrh := mrh) (mrf := mrf) (mtx := mtx) (mlen := mlen) (mat := mat) (mfa := mfa) (mac := mac) (mnx := mnx) (mrow := mrow) (msn := msn) (mso := mso) (msc := msc) (msw := msw) (mseed := mseed) (mik := mik) (mkp := mkp)  FU (0 : Int32) (0 : Int32) (0 : Int32) h
        · replace h := ob_f h c8
          refine r_bipush (v := -3) C dX10_dry_49 bp_m3 ?_
          have h9 := Option.some.inj h
          subst h9
          exact r_iret C rfl dX10_dry_51
      · replace h := ob_bf h c6
        refine r_bipush (v := -2) C dX10_dry_34 bp_m2 ?_
        have h9 := Option.some.inj h
        subst h9
        exact r_iret C rfl dX10_dry_36
  · replace h := ob_bf h c2
    refine r_iconst (v := -1) C dX10_dry_8 ic_m1 ?_
    have h9 := Option.some.inj h
    subst h9
    exact r_iret C rfl dX10_dry_9

/-! ===== FlagWashModel.seed ===== -/
def fX10_seed  (x1 : Int64) (mseed : Int64) : Option (Int64 × Int64) :=
 (some (mseed, x1))
theorem hinX10_seed_X10 : ∀ w ∈ u_ws RX10 TX10 24, w ∈ wsX10_seed := fun w h => List.mem_cons_of_mem _ (List.mem_append_right _ h)
theorem mX10_seed_1 : Cond.fieldLink RX10 197 "FlagWashModel" "seed" "J" ∈ wsX10_seed := List.mem_of_getElem? (i := 1) rfl
theorem hd_X10_seed : yX10_seed.cls ≠ "java/lang/invoke/MethodHandle" ∧ yX10_seed.cls ≠ "java/lang/invoke/VarHandle" ∧ (parseMethodDescriptor yX10_seed.desc).map (fun d => d.parameters.length) = some 1 := by decide +kernel
set_option maxHeartbeats 4000000 in
set_option maxRecDepth 100000 in
theorem kX10_seed {l : Launch} {D : va_G} {cyI cyZ cyW : ClassId} {zW zO : Nat} {md : Nat → Nat} {mflags : Int32} {mtubs : Int32} {mpegs : Int32} {mcl : (Nat → Int32)} {mws : (Nat → Int32)} {mho : (Nat → Int32)} {mnow : (Nat → Int32)} {mrd : (Nat → Int32)} {mrh : (Nat → Int32)} {mrf : Int32} {mtx : (Nat → Int32)} {mlen : Int32} {mat : Int32} {mfa : Int32} {mac : Int32} {mnx : Int32} {mrow : (Nat → Int32)} {msn : Int32} {mso : (Nat → Int32)} {msc : (Nat → Int32)} {msw : (Nat → Int32)} {mseed : Int64} {mik : (Nat → Int32)} {mkp : (Nat → Int32)} {x1 : Int64} {res : Int64 × Int64} (h : fX10_seed x1 mseed = some res) : KL l yX10_seed wsX10_seed ({ frames := 0, cells := 0, slots := 0, locals := 0 } : Room) D (tyA cyI cyZ cyW) zW zO [.ref (md 0), .long x1] (wMO cyI cyZ cyW md mflags mtubs mpegs mcl mws mho mnow mrd mrh mrf mtx mlen mat mfa mac mnx mrow msn mso msc msw mseed mik mkp) (wMO cyI cyZ cyW md mflags mtubs mpegs mcl mws mho mnow mrd mrh mrf mtx mlen mat mfa mac mnx mrow msn mso msc msw res.2 mik mkp) res.1 := by
  refine enterL (cc := cX10_seed) (nL := 5) (ret := (some .long)) (by decide) rfl (Nat.le_of_ble_eq_true rfl) (fun p e s m below meth c A C => ?_)
  refine r_lv (lv' := [(0, .ref (md 0)), (1, .long x1)]) [0, 1] rfl ?_
  unfold fX10_seed at h
  refine r_aload_n C dX10_seed_0 0 rfl rfl ?_
  refine r_get (ci := 7) (CC := RX10) (T := TX10) (N := 24) (v := .long mseed) C hinX10_seed_X10 0 rfl rfl 21 (by decide) mX10_seed_1 rfl rfl dX10_seed_1 ?_
  refine r_lstore_n (lv' := [(3, .long mseed), (0, .ref (md 0)), (1, .long x1)]) C dX10_seed_4 rfl (by decide) rfl ?_
  refine r_aload_n C dX10_seed_5 1 rfl rfl ?_
  refine r_lload_n C dX10_seed_6 2 rfl rfl ?_
  refine r_put (ci := 7) (CC := RX10) (T := TX10) (N := 24) (v := .long x1) (ws1 := (wMO cyI cyZ cyW md mflags mtubs mpegs mcl mws mho mnow mrd mrh mrf mtx mlen mat mfa mac mnx mrow msn mso msc msw x1 mik mkp)) (ty := .long) C hinX10_seed_X10 tyX10 tyX10_ok nmX10 0 rfl rfl 21 (by decide) mX10_seed_1 rfl rfl rfl rfl rfl (Nat.le_of_ble_eq_true rfl) rfl dX10_seed_7 ?_
  refine r_lload_n C dX10_seed_10 0 rfl rfl ?_
  have h9 := Option.some.inj h
  subst h9
  exact r_lret C rfl dX10_seed_11
