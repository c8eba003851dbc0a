/-! ===== FlagWashModel.cover ===== -/
def fX10_cover_72 (rec12 : Int32 → Int32 → Option (Int32)) (x1 : Int32) (x3 : Int32) (y0 : Int32) (mflags : Int32) (mho : (Nat → Int32)) : Option (Int32) :=
 (rec12 y0 (x3 + (1 : Int32)))
def fX10_cover_71 (rec12 : Int32 → Int32 → Option (Int32)) (x1 : Int32) (x2 : Int32) (x3 : Int32) (mflags : Int32) (mho : (Nat → Int32)) : Option (Int32) :=
 (fX10_cover_72 rec12 x1 x3 x2 mflags mho)
def fX10_cover_40 (rec12 : Int32 → Int32 → Option (Int32)) (x1 : Int32) (x2 : Int32) (x3 : Int32) (y0 : Bool) (mflags : Int32) (mho : (Nat → Int32)) : Option (Int32) :=
 (if y0 = true then (if (x3 &&& (x1 ^^^ (-1 : Int32))) = 0 then ((fX10_fights (x1 &&& (x3 ^^^ (-1 : Int32))) mflags mho).bind fun u9 => (if u9 = 0 then (fX10_cover_72 rec12 x1 x3 x3 mflags mho)
 else (fX10_cover_71 rec12 x1 x2 x3 mflags mho)))
 else (fX10_cover_71 rec12 x1 x2 x3 mflags mho))
 else (fX10_cover_71 rec12 x1 x2 x3 mflags mho))
def fX10_cover_35 (rec12 : Int32 → Int32 → Option (Int32)) (x1 : Int32) (x2 : Int32) (x3 : Int32) (mflags : Int32) (mho : (Nat → Int32)) : Option (Int32) :=
 (fX10_cover_40 rec12 x1 x2 x3 true mflags mho)
def gX10_cover_12 (rec12 : Int32 → Int32 → Option (Int32)) (x1 : Int32) (x2 : Int32) (x3 : Int32) (mflags : Int32) (mho : (Nat → Int32)) : Option (Int32) :=
 (if (32 : Int32) ≤ x3 then (some x2)
 else (if x2 = (-9 : Int32) then (fX10_cover_35 rec12 x1 x2 x3 mflags mho)
 else ((fX10_ones x3).bind fun u4 => ((fX10_ones x2).bind fun u5 => (if u5 ≤ u4 then (fX10_cover_40 rec12 x1 x2 x3 false mflags mho)
 else (fX10_cover_35 rec12 x1 x2 x3 mflags mho))))))
def fX10_cover_12  (x1 : Int32) (mflags : Int32) (mho : (Nat → Int32)) : Nat → Int32 → Int32 → Option (Int32)
  | 0 => fun _ _ => none
  | n + 1 => fun x2 x3 => gX10_cover_12 (fX10_cover_12  x1 mflags mho n) x1 x2 x3 mflags mho
def fX10_cover  (mflags : Int32) (mho : (Nat → Int32)) (mnow : (Nat → Int32)) : Option (Int32) :=
 ((fX10_areIn (0 : Int32) (0 : Int32) mflags mnow).bind fun u1 => (fX10_cover_12  u1 mflags mho FU (-9 : Int32) (0 : Int32)))
theorem hd_X10_cover : yX10_cover.cls ≠ "java/lang/invoke/MethodHandle" ∧ yX10_cover.cls ≠ "java/lang/invoke/VarHandle" ∧ (parseMethodDescriptor yX10_cover.desc).map (fun d => d.parameters.length) = some 0 := by decide +kernel
set_option maxHeartbeats 4000000 in
set_option maxRecDepth 100000 in
theorem LX10_cover_72 {p : Program} {l : Launch} {e : Env} {s : State} {m : MethodId} {args : Array Value} {below : List Frame} {meth : Method} {c : Code} {D : va_G} {cyI cyZ cyW : ClassId} {zW zO : Nat} {A : Nat → Prop} (C : Cx p s m args meth c cX10_cover RX10 "cover" wsX10_cover (some .int) 5 D (tyA cyI cyZ cyW) zW zO A) {md : Nat → Nat} {mflags : Int32} {mtubs : Int32} {mpegs : Int32} {mcl : (Nat → Int32)} {mws : (Nat → Int32)} {mho : (Nat → Int32)} {mnow : (Nat → Int32)} {mrd : (Nat → Int32)} {mrh : (Nat → Int32)} {mrf : Int32} {mtx : (Nat → Int32)} {mlen : Int32} {mat : Int32} {mfa : Int32} {mac : Int32} {mnx : Int32} {mrow : (Nat → Int32)} {msn : Int32} {mso : (Nat → Int32)} {msc : (Nat → Int32)} {msw : (Nat → Int32)} {mseed : Int64} {mik : (Nat → Int32)} {mkp : (Nat → Int32)} {x1 : Int32} {x3 : Int32} {y0 : Int32} {rec12 : Int32 → Int32 → Option (Int32)} {res : Int32} (hrec12 : ∀ (x2 : Int32) (x3 : Int32), rec12 x2 x3 = some res → Mx p l e ({ frames := 2, cells := 0, slots := 0, locals := 45 } : Room) s m args below meth c (MQ below (QI D (tyA cyI cyZ cyW) A (wMO cyI cyZ cyW md mflags mtubs mpegs mcl mws mho mnow mrd mrh mrf mtx mlen mat mfa mac mnx mrow msn mso msc msw mseed mik mkp) res) args s 0 0 A) 5 D A 0 0 (wMO cyI cyZ cyW md mflags mtubs mpegs mcl mws mho mnow mrd mrh mrf mtx mlen mat mfa mac mnx mrow msn mso msc msw mseed mik mkp) 12 [(0, .ref (md 0)), (1, .int x1), (2, .int x2), (3, .int x3)] []) (h : fX10_cover_72 rec12 x1 x3 y0 mflags mho = some res) : Mx p l e ({ frames := 2, cells := 0, slots := 0, locals := 45 } : Room) s m args below meth c (MQ below (QI D (tyA cyI cyZ cyW) A (wMO cyI cyZ cyW md mflags mtubs mpegs mcl mws mho mnow mrd mrh mrf mtx mlen mat mfa mac mnx mrow msn mso msc msw mseed mik mkp) res) args s 0 0 A) 5 D A 0 0 (wMO cyI cyZ cyW md mflags mtubs mpegs mcl mws mho mnow mrd mrh mrf mtx mlen mat mfa mac mnx mrow msn mso msc msw mseed mik mkp) 72 [(0, .ref (md 0)), (1, .int x1), (3, .int x3)] [.int y0] := by
  unfold fX10_cover_72 at h
  refine r_istore_n (lv' := [(2, .int y0), (0, .ref (md 0)), (1, .int x1), (3, .int x3)]) C dX10_cover_72 rfl (by decide) rfl ?_
  refine r_iinc (v := 1) (lv' := [(3, .int (x3 + (1 : Int32))), (2, .int y0), (0, .ref (md 0)), (1, .int x1)]) C dX10_cover_73 3 rfl ic_1 (by decide) rfl ?_
  refine r_goto (tgt := 12) C dX10_cover_76 (by decide) ?_
  refine r_lv (lv' := [(0, .ref (md 0)), (1, .int x1), (2, .int y0), (3, .int (x3 + (1 : Int32)))]) [2, 3, 1, 0] rfl ?_
  exact hrec12 y0 (x3 + (1 : Int32)) h
set_option maxHeartbeats 4000000 in
set_option maxRecDepth 100000 in
theorem LX10_cover_71 {p : Program} {l : Launch} {e : Env} {s : State} {m : MethodId} {args : Array Value} {below : List Frame} {meth : Method} {c : Code} {D : va_G} {cyI cyZ cyW : ClassId} {zW zO : Nat} {A : Nat → Prop} (C : Cx p s m args meth c cX10_cover RX10 "cover" wsX10_cover (some .int) 5 D (tyA cyI cyZ cyW) zW zO A) {md : Nat → Nat} {mflags : Int32} {mtubs : Int32} {mpegs : Int32} {mcl : (Nat → Int32)} {mws : (Nat → Int32)} {mho : (Nat → Int32)} {mnow : (Nat → Int32)} {mrd : (Nat → Int32)} {mrh : (Nat → Int32)} {mrf : Int32} {mtx : (Nat → Int32)} {mlen : Int32} {mat : Int32} {mfa : Int32} {mac : Int32} {mnx : Int32} {mrow : (Nat → Int32)} {msn : Int32} {mso : (Nat → Int32)} {msc : (Nat → Int32)} {msw : (Nat → Int32)} {mseed : Int64} {mik : (Nat → Int32)} {mkp : (Nat → Int32)} {x1 : Int32} {x2 : Int32} {x3 : Int32} {rec12 : Int32 → Int32 → Option (Int32)} {res : Int32} (hrec12 : ∀ (x2 : Int32) (x3 : Int32), rec12 x2 x3 = some res → Mx p l e ({ frames := 2, cells := 0, slots := 0, locals := 45 } : Room) s m args below meth c (MQ below (QI D (tyA cyI cyZ cyW) A (wMO cyI cyZ cyW md mflags mtubs mpegs mcl mws mho mnow mrd mrh mrf mtx mlen mat mfa mac mnx mrow msn mso msc msw mseed mik mkp) res) args s 0 0 A) 5 D A 0 0 (wMO cyI cyZ cyW md mflags mtubs mpegs mcl mws mho mnow mrd mrh mrf mtx mlen mat mfa mac mnx mrow msn mso msc msw mseed mik mkp) 12 [(0, .ref (md 0)), (1, .int x1), (2, .int x2), (3, .int x3)] []) (h : fX10_cover_71 rec12 x1 x2 x3 mflags mho = some res) : Mx p l e ({ frames := 2, cells := 0, slots := 0, locals := 45 } : Room) s m args below meth c (MQ below (QI D (tyA cyI cyZ cyW) A (wMO cyI cyZ cyW md mflags mtubs mpegs mcl mws mho mnow mrd mrh mrf mtx mlen mat mfa mac mnx mrow msn mso msc msw mseed mik mkp) res) args s 0 0 A) 5 D A 0 0 (wMO cyI cyZ cyW md mflags mtubs mpegs mcl mws mho mnow mrd mrh mrf mtx mlen mat mfa mac mnx mrow msn mso msc msw mseed mik mkp) 71 [(0, .ref (md 0)), (1, .int x1), (2, .int x2), (3, .int x3)] [] := by
  unfold fX10_cover_71 at h
  refine r_iload_n C dX10_cover_71 2 rfl rfl ?_
  refine r_lv (lv' := [(0, .ref (md 0)), (1, .int x1), (3, .int x3)]) [0, 1, 3] rfl ?_
  exact LX10_cover_72 C (x1 := x1) (x3 := x3) (y0 := x2) (mflags := mflags) (mtubs := mtubs) (mpegs := mpegs) (mcl := mcl) (mws := mws) (mho := mho) (mnow := mnow) (mrd := mrd) (mrh := mrh) (mrf := mrf) (mtx := mtx) (mlen := mlen) (mat := mat) (mfa := mfa) (mac := mac) (mnx := mnx) (mrow := mrow) (msn := msn) (mso := mso) (msc := msc) (msw := msw) (mseed := mseed) (mik := mik) (mkp := mkp) hrec12 h
set_option maxHeartbeats 4000000 in
set_option maxRecDepth 100000 in
theorem LX10_cover_40 {p : Program} {l : Launch} {e : Env} {s : State} {m : MethodId} {args : Array Value} {below : List Frame} {meth : Method} {c : Code} {D : va_G} {cyI cyZ cyW : ClassId} {zW zO : Nat} {A : Nat → Prop} (C : Cx p s m args meth c cX10_cover RX10 "cover" wsX10_cover (some .int) 5 D (tyA cyI cyZ cyW) zW zO A) {md : Nat → Nat} {mflags : Int32} {mtubs : Int32} {mpegs : Int32} {mcl : (Nat → Int32)} {mws : (Nat → Int32)} {mho : (Nat → Int32)} {mnow : (Nat → Int32)} {mrd : (Nat → Int32)} {mrh : (Nat → Int32)} {mrf : Int32} {mtx : (Nat → Int32)} {mlen : Int32} {mat : Int32} {mfa : Int32} {mac : Int32} {mnx : Int32} {mrow : (Nat → Int32)} {msn : Int32} {mso : (Nat → Int32)} {msc : (Nat → Int32)} {msw : (Nat → Int32)} {mseed : Int64} {mik : (Nat → Int32)} {mkp : (Nat → Int32)} {x1 : Int32} {x2 : Int32} {x3 : Int32} {y0 : Bool} {rec12 : Int32 → Int32 → Option (Int32)} {res : Int32} (hrec12 : ∀ (x2 : Int32) (x3 : Int32), rec12 x2 x3 = some res → Mx p l e ({ frames := 2, cells := 0, slots := 0, locals := 45 } : Room) s m args below meth c (MQ below (QI D (tyA cyI cyZ cyW) A (wMO cyI cyZ cyW md mflags mtubs mpegs mcl mws mho mnow mrd mrh mrf mtx mlen mat mfa mac mnx mrow msn mso msc msw mseed mik mkp) res) args s 0 0 A) 5 D A 0 0 (wMO cyI cyZ cyW md mflags mtubs mpegs mcl mws mho mnow mrd mrh mrf mtx mlen mat mfa mac mnx mrow msn mso msc msw mseed mik mkp) 12 [(0, .ref (md 0)), (1, .int x1), (2, .int x2), (3, .int x3)] []) (h : fX10_cover_40 rec12 x1 x2 x3 y0 mflags mho = some res) : Mx p l e ({ frames := 2, cells := 0, slots := 0, locals := 45 } : Room) s m args below meth c (MQ below (QI D (tyA cyI cyZ cyW) A (wMO cyI cyZ cyW md mflags mtubs mpegs mcl mws mho mnow mrd mrh mrf mtx mlen mat mfa mac mnx mrow msn mso msc msw mseed mik mkp) res) args s 0 0 A) 5 D A 0 0 (wMO cyI cyZ cyW md mflags mtubs mpegs mcl mws mho mnow mrd mrh mrf mtx mlen mat mfa mac mnx mrow msn mso msc msw mseed mik mkp) 40 [(0, .ref (md 0)), (1, .int x1), (2, .int x2), (3, .int x3)] [.int (b2i y0)] := by
  unfold fX10_cover_40 at h
  refine r_istore (lv' := [(4, .int (b2i y0)), (0, .ref (md 0)), (1, .int x1), (2, .int x2), (3, .int x3)]) C dX10_cover_40 (by decide) rfl ?_
  refine r_iload C dX10_cover_42 0 rfl ?_
  refine r_ifb_eq (tgt := 71) C dX10_cover_44 (by decide) (fun c7 => ?_) (fun c7 => ?_)
  · replace h := ob_bf h c7
    refine r_lv (lv' := [(0, .ref (md 0)), (1, .int x1), (2, .int x2), (3, .int x3)]) [1, 2, 3, 4] rfl ?_
    exact LX10_cover_71 C (x1 := x1) (x2 := x2) (x3 := x3) (mflags := mflags) (mtubs := mtubs) (mpegs := mpegs) (mcl := mcl) (mws := mws) (mho := mho) (mnow := mnow) (mrd := mrd) (mrh := mrh) (mrf := mrf) (mtx := mtx) (mlen := mlen) (mat := mat) (mfa := mfa) (mac := mac) (mnx := mnx) (mrow := mrow) (msn := msn) (mso := mso) (msc := msc) (msw := msw) (mseed := mseed) (mik := mik) (mkp := mkp) hrec12 h
  · replace h := ob_t h c7
    refine r_iload_n C dX10_cover_47 4 rfl rfl ?_
    refine r_iload_n C dX10_cover_48 2 rfl rfl ?_
    refine r_iconst (v := -1) C dX10_cover_49 ic_m1 ?_
    refine r_ixor C dX10_cover_50 ?_
    refine r_iand C dX10_cover_51 ?_
    refine r_if_ne (tgt := 71) C dX10_cover_52 (by decide) (fun c8 => ?_) (fun c8 => ?_)
    · replace h := ob_f h c8
      refine r_lv (lv' := [(0, .ref (md 0)), (1, .int x1), (2, .int x2), (3, .int x3)]) [1, 2, 3, 4] rfl ?_
      exact LX10_cover_71 C (x1 := x1) (x2 := x2) (x3 := x3) (mflags := mflags) (mtubs := mtubs) (mpegs := mpegs) (mcl := mcl) (mws := mws) (mho := mho) (mnow := mnow) (mrd := mrd) (mrh := mrh) (mrf := mrf) (mtx := mtx) (mlen := mlen) (mat := mat) (mfa := mfa) (mac := mac) (mnx := mnx) (mrow := mrow) (msn := msn) (mso := mso) (msc := msc) (msw := msw) (mseed := mseed) (mik := mik) (mkp := mkp) hrec12 h
    · replace h := ob_t h c8
      refine r_aload_n C dX10_cover_55 1 rfl rfl ?_
      refine r_iload_n C dX10_cover_56 2 rfl rfl ?_
      refine r_iload_n C dX10_cover_57 4 rfl rfl ?_
      refine r_iconst (v := -1) C dX10_cover_58 ic_m1 ?_
      refine r_ixor C dX10_cover_59 ?_
      refine r_iand C dX10_cover_60 ?_
      obtain ⟨u9, hu9, h⟩ := ob_bind h
      refine r_readVI (q0 := 0) (As := [.int (x1 &&& (x3 ^^^ (-1 : Int32)))]) (rest := []) C (kX10_fights (md := md) (mflags := mflags) (mtubs := mtubs) (mpegs := mpegs) (mcl := mcl) (mws := mws) (mho := mho) (mnow := mnow) (mrd := mrd) (mrh := mrh) (mrf := mrf) (mtx := mtx) (mlen := mlen) (mat := mat) (mfa := mfa) (mac := mac) (mnx := mnx) (mrow := mrow) (msn := msn) (mso := mso) (msc := msc) (msw := msw) (mseed := mseed) (mik := mik) (mkp := mkp) (x1 := (x1 &&& (x3 ^^^ (-1 : Int32)))) hu9) gX10_cover_X10_fights rfl rfl rfl ⟨rfl, hd_X10_fights⟩ ⟨by decide, by decide⟩ rfl rfl rfl rfl [0, 1, 2, 3, 4, 5, 6, 7, 8, 9, 10, 11, 12, 13] (by decide) in_76 rfl (Nat.le_of_ble_eq_true rfl) dX10_cover_61 ⟨Nat.zero_le _, Nat.zero_le _⟩ ?_
      refine r_if_ne (tgt := 71) C dX10_cover_64 (by decide) (fun c10 => ?_) (fun c10 => ?_)
      · replace h := ob_f h c10
        refine r_lv (lv' := [(0, .ref (md 0)), (1, .int x1), (2, .int x2), (3, .int x3)]) [1, 2, 3, 4] rfl ?_
        exact LX10_cover_71 C (x1 := x1) (x2 := x2) (x3 := x3) (mflags := mflags) (mtubs := mtubs) (mpegs := mpegs) (mcl := mcl) (mws := mws) (mho := mho) (mnow := mnow) (mrd := mrd) (mrh := mrh) (mrf := mrf) (mtx := mtx) (mlen := mlen) (mat := mat) (mfa := mfa) (mac := mac) (mnx := mnx) (mrow := mrow) (msn := msn) (mso := mso) (msc := msc) (msw := msw) (mseed := mseed) (mik := mik) (mkp := mkp) hrec12 h
      · replace h := ob_t h c10
        refine r_iload_n C dX10_cover_67 4 rfl rfl ?_
        refine r_goto (tgt := 72) C dX10_cover_68 (by decide) ?_
        refine r_lv (lv' := [(0, .ref (md 0)), (1, .int x1), (3, .int x3)]) [1, 2, 4] rfl ?_
        exact LX10_cover_72 C (x1 := x1) (x3 := x3) (y0 := x3) (mflags := mflags) (mtubs := mtubs) (mpegs := mpegs) (mcl := mcl) (mws := mws) (mho := mho) (mnow := mnow) (mrd := mrd) (mrh := mrh) (mrf := mrf) (mtx := mtx) (mlen := mlen) (mat := mat) (mfa := mfa) (mac := mac) (mnx := mnx) (mrow := mrow) (msn := msn) (mso := mso) (msc := msc) (msw := msw) (mseed := mseed) (mik := mik) (mkp := mkp) hrec12 h
set_option maxHeartbeats 4000000 in
set_option maxRecDepth 100000 in
theorem LX10_cover_35 {p : Program} {l : Launch} {e : Env} {s : State} {m : MethodId} {args : Array Value} {below : List Frame} {meth : Method} {c : Code} {D : va_G} {cyI cyZ cyW : ClassId} {zW zO : Nat} {A : Nat → Prop} (C : Cx p s m args meth c cX10_cover RX10 "cover" wsX10_cover (some .int) 5 D (tyA cyI cyZ cyW) zW zO A) {md : Nat → Nat} {mflags : Int32} {mtubs : Int32} {mpegs : Int32} {mcl : (Nat → Int32)} {mws : (Nat → Int32)} {mho : (Nat → Int32)} {mnow : (Nat → Int32)} {mrd : (Nat → Int32)} {mrh : (Nat → Int32)} {mrf : Int32} {mtx : (Nat → Int32)} {mlen : Int32} {mat : Int32} {mfa : Int32} {mac : Int32} {mnx : Int32} {mrow : (Nat → Int32)} {msn : Int32} {mso : (Nat → Int32)} {msc : (Nat → Int32)} {msw : (Nat → Int32)} {mseed : Int64} {mik : (Nat → Int32)} {mkp : (Nat → Int32)} {x1 : Int32} {x2 : Int32} {x3 : Int32} {rec12 : Int32 → Int32 → Option (Int32)} {res : Int32} (hrec12 : ∀ (x2 : Int32) (x3 : Int32), rec12 x2 x3 = some res → Mx p l e ({ frames := 2, cells := 0, slots := 0, locals := 45 } : Room) s m args below meth c (MQ below (QI D (tyA cyI cyZ cyW) A (wMO cyI cyZ cyW md mflags mtubs mpegs mcl mws mho mnow mrd mrh mrf mtx mlen mat mfa mac mnx mrow msn mso msc msw mseed mik mkp) res) args s 0 0 A) 5 D A 0 0 (wMO cyI cyZ cyW md mflags mtubs mpegs mcl mws mho mnow mrd mrh mrf mtx mlen mat mfa mac mnx mrow msn mso msc msw mseed mik mkp) 12 [(0, .ref (md 0)), (1, .int x1), (2, .int x2), (3, .int x3)] []) (h : fX10_cover_35 rec12 x1 x2 x3 mflags mho = some res) : Mx p l e ({ frames := 2, cells := 0, slots := 0, locals := 45 } : Room) s m args below meth c (MQ below (QI D (tyA cyI cyZ cyW) A (wMO cyI cyZ cyW md mflags mtubs mpegs mcl mws mho mnow mrd mrh mrf mtx mlen mat mfa mac mnx mrow msn mso msc msw mseed mik mkp) res) args s 0 0 A) 5 D A 0 0 (wMO cyI cyZ cyW md mflags mtubs mpegs mcl mws mho mnow mrd mrh mrf mtx mlen mat mfa mac mnx mrow msn mso msc msw mseed mik mkp) 35 [(0, .ref (md 0)), (1, .int x1), (2, .int x2), (3, .int x3)] [] := by
  unfold fX10_cover_35 at h
  refine r_iconst (v := 1) C dX10_cover_35 ic_1 ?_
  refine r_goto (tgt := 40) C dX10_cover_36 (by decide) ?_
  refine r_lv (lv' := [(0, .ref (md 0)), (1, .int x1), (2, .int x2), (3, .int x3)]) [0, 1, 2, 3] rfl ?_
  exact LX10_cover_40 C (x1 := x1) (x2 := x2) (x3 := x3) (y0 := true) (mflags := mflags) (mtubs := mtubs) (mpegs := mpegs) (mcl := mcl) (mws := mws) (mho := mho) (mnow := mnow) (mrd := mrd) (mrh := mrh) (mrf := mrf) (mtx := mtx) (mlen := mlen) (mat := mat) (mfa := mfa) (mac := mac) (mnx := mnx) (mrow := mrow) (msn := msn) (mso := mso) (msc := msc) (msw := msw) (mseed := mseed) (mik := mik) (mkp := mkp) hrec12 h
set_option maxHeartbeats 4000000 in
set_option maxRecDepth 100000 in
theorem LGX10_cover_12 {p : Program} {l : Launch} {e : Env} {s : State} {m : MethodId} {args : Array Value} {below : List Frame} {meth : Method} {c : Code} {D : va_G} {cyI cyZ cyW : ClassId} {zW zO : Nat} {A : Nat → Prop} (C : Cx p s m args meth c cX10_cover RX10 "cover" wsX10_cover (some .int) 5 D (tyA cyI cyZ cyW) zW zO A) {md : Nat → Nat} {mflags : Int32} {mtubs : Int32} {mpegs : Int32} {mcl : (Nat → Int32)} {mws : (Nat → Int32)} {mho : (Nat → Int32)} {mnow : (Nat → Int32)} {mrd : (Nat → Int32)} {mrh : (Nat → Int32)} {mrf : Int32} {mtx : (Nat → Int32)} {mlen : Int32} {mat : Int32} {mfa : Int32} {mac : Int32} {mnx : Int32} {mrow : (Nat → Int32)} {msn : Int32} {mso : (Nat → Int32)} {msc : (Nat → Int32)} {msw : (Nat → Int32)} {mseed : Int64} {mik : (Nat → Int32)} {mkp : (Nat → Int32)} {x1 : Int32} {x2 : Int32} {x3 : Int32} {rec12 : Int32 → Int32 → Option (Int32)} {res : Int32} (hrec12 : ∀ (x2 : Int32) (x3 : Int32), rec12 x2 x3 = some res → Mx p l e ({ frames := 2, cells := 0, slots := 0, locals := 45 } : Room) s m args below meth c (MQ below (QI D (tyA cyI cyZ cyW) A (wMO cyI cyZ cyW md mflags mtubs mpegs mcl mws mho mnow mrd mrh mrf mtx mlen mat mfa mac mnx mrow msn mso msc msw mseed mik mkp) res) args s 0 0 A) 5 D A 0 0 (wMO cyI cyZ cyW md mflags mtubs mpegs mcl mws mho mnow mrd mrh mrf mtx mlen mat mfa mac mnx mrow msn mso msc msw mseed mik mkp) 12 [(0, .ref (md 0)), (1, .int x1), (2, .int x2), (3, .int x3)] []) (h : gX10_cover_12 rec12 x1 x2 x3 mflags mho = some res) : Mx p l e ({ frames := 2, cells := 0, slots := 0, locals := 45 } : Room) s m args below meth c (MQ below (QI D (tyA cyI cyZ cyW) A (wMO cyI cyZ cyW md mflags mtubs mpegs mcl mws mho mnow mrd mrh mrf mtx mlen mat mfa mac mnx mrow msn mso msc msw mseed mik mkp) res) args s 0 0 A) 5 D A 0 0 (wMO cyI cyZ cyW md mflags mtubs mpegs mcl mws mho mnow mrd mrh mrf mtx mlen mat mfa mac mnx mrow msn mso msc msw mseed mik mkp) 12 [(0, .ref (md 0)), (1, .int x1), (2, .int x2), (3, .int x3)] [] := by
  unfold gX10_cover_12 at h
  refine r_iload_n C dX10_cover_12 3 rfl rfl ?_
  refine r_bipush (v := 32) C dX10_cover_13 bp_32 ?_
  refine r_icmp_ge (tgt := 79) C dX10_cover_15 (by decide) (fun c2 => ?_) (fun c2 => ?_)
  · replace h := ob_t h c2
    refine r_iload_n C dX10_cover_79 2 rfl rfl ?_
    have h9 := Option.some.inj h
    subst h9
    exact r_iret C rfl dX10_cover_80
  · replace h := ob_f h c2
    refine r_iload_n C dX10_cover_18 2 rfl rfl ?_
    refine r_bipush (v := -9) C dX10_cover_19 bp_m9 ?_
    refine r_icmp_eq (tgt := 35) C dX10_cover_21 (by decide) (fun c3 => ?_) (fun c3 => ?_)
    · replace h := ob_t h c3
      refine r_lv (lv' := [(0, .ref (md 0)), (1, .int x1), (2, .int x2), (3, .int x3)]) [0, 1, 2, 3] rfl ?_
      exact LX10_cover_35 C (x1 := x1) (x2 := x2) (x3 := x3) (mflags := mflags) (mtubs := mtubs) (mpegs := mpegs) (mcl := mcl) (mws := mws) (mho := mho) (mnow := mnow) (mrd := mrd) (mrh := mrh) (mrf := mrf) (mtx := mtx) (mlen := mlen) (mat := mat) (mfa := mfa) (mac := mac) (mnx := mnx) (mrow := mrow) (msn := msn) (mso := mso) (msc := msc) (msw := msw) (mseed := mseed) (mik := mik) (mkp := mkp) hrec12 h
    · replace h := ob_f h c3
      refine r_iload_n C dX10_cover_24 3 rfl rfl ?_
      obtain ⟨u4, hu4, h⟩ := ob_bind h
      refine r_readSI (As := [.int x3]) (rest := []) C (kX10_ones   (x0 := x3) hu4) gX10_cover_X10_ones rfl rfl rfl hd_X10_ones ⟨by decide, by decide⟩ rfl [] (by decide) rfl rfl (Nat.le_of_ble_eq_true rfl) dX10_cover_25 ⟨Nat.zero_le _, Nat.zero_le _⟩ ?_
      refine r_iload_n C dX10_cover_28 2 rfl rfl ?_
      obtain ⟨u5, hu5, h⟩ := ob_bind h
      refine r_readSI (As := [.int x2]) (rest := [.int u4]) C (kX10_ones   (x0 := x2) hu5) gX10_cover_X10_ones rfl rfl rfl hd_X10_ones ⟨by decide, by decide⟩ rfl [] (by decide) rfl rfl (Nat.le_of_ble_eq_true rfl) dX10_cover_29 ⟨Nat.zero_le _, Nat.zero_le _⟩ ?_
      refine r_icmp_ge (tgt := 39) C dX10_cover_32 (by decide) (fun c6 => ?_) (fun c6 => ?_)
      · replace h := ob_t h c6
        refine r_iconst (v := 0) C dX10_cover_39 ic_0 ?_
        refine r_lv (lv' := [(0, .ref (md 0)), (1, .int x1), (2, .int x2), (3, .int x3)]) [0, 1, 2, 3] rfl ?_
        exact LX10_cover_40 C (x1 := x1) (x2 := x2) (x3 := x3) (y0 := false) (mflags := mflags) (mtubs := mtubs) (mpegs := mpegs) (mcl := mcl) (mws := mws) (mho := mho) (mnow := mnow) (mrd := mrd) (mrh := mrh) (mrf := mrf) (mtx := mtx) (mlen := mlen) (mat := mat) (mfa := mfa) (mac := mac) (mnx := mnx) (mrow := mrow) (msn := msn) (mso := mso) (msc := msc) (msw := msw) (mseed := mseed) (mik := mik) (mkp := mkp) hrec12 h
      · replace h := ob_f h c6
        refine r_lv (lv' := [(0, .ref (md 0)), (1, .int x1), (2, .int x2), (3, .int x3)]) [0, 1, 2, 3] rfl ?_
        exact LX10_cover_35 C (x1 := x1) (x2 := x2) (x3 := x3) (mflags := mflags) (mtubs := mtubs) (mpegs := mpegs) (mcl := mcl) (mws := mws) (mho := mho) (mnow := mnow) (mrd := mrd) (mrh := mrh) (mrf := mrf) (mtx := mtx) (mlen := mlen) (mat := mat) (mfa := mfa) (mac := mac) (mnx := mnx) (mrow := mrow) (msn := msn) (mso := mso) (msc := msc) (msw := msw) (mseed := mseed) (mik := mik) (mkp := mkp) hrec12 h
set_option maxHeartbeats 4000000 in
set_option maxRecDepth 100000 in
theorem LX10_cover_12 {p : Program} {l : Launch} {e : Env} {s : State} {m : MethodId} {args : Array Value} {below : List Frame} {meth : Method} {c : Code} {D : va_G} {cyI cyZ cyW : ClassId} {zW zO : Nat} {A : Nat → Prop} (C : Cx p s m args meth c cX10_cover RX10 "cover" wsX10_cover (some .int) 5 D (tyA cyI cyZ cyW) zW zO A) {md : Nat → Nat} {x1 : Int32} {mflags : Int32} {mtubs : Int32} {mpegs : Int32} {mcl : (Nat → Int32)} {mws : (Nat → Int32)} {mho : (Nat → Int32)} {mnow : (Nat → Int32)} {mrd : (Nat → Int32)} {mrh : (Nat → Int32)} {mrf : Int32} {mtx : (Nat → Int32)} {mlen : Int32} {mat : Int32} {mfa : Int32} {mac : Int32} {mnx : Int32} {mrow : (Nat → Int32)} {msn : Int32} {mso : (Nat → Int32)} {msc : (Nat → Int32)} {msw : (Nat → Int32)} {mseed : Int64} {mik : (Nat → Int32)} {mkp : (Nat → Int32)}  {res : Int32}  : ∀ (n : Nat) (x2 : Int32) (x3 : Int32), fX10_cover_12  x1 mflags mho n x2 x3 = some res → Mx p l e ({ frames := 2, cells := 0, slots := 0, locals := 45 } : Room) s m args below meth c (MQ below (QI D (tyA cyI cyZ cyW) A (wMO cyI cyZ cyW md mflags mtubs mpegs mcl mws mho mnow mrd mrh mrf mtx mlen mat mfa mac mnx mrow msn mso msc msw mseed mik mkp) res) args s 0 0 A) 5 D A 0 0 (wMO cyI cyZ cyW md mflags mtubs mpegs mcl mws mho mnow mrd mrh mrf mtx mlen mat mfa mac mnx mrow msn mso msc msw mseed mik mkp) 12 [(0, .ref (md 0)), (1, .int x1), (2, .int x2), (3, .int x3)] [] := by
  intro n
  induction n with
  | zero => intro x2 x3 h; cases h
  | succ n ih => intro x2 x3 h; exact LGX10_cover_12 C ih h
set_option maxHeartbeats 4000000 in
set_option maxRecDepth 100000 in
theorem kX10_cover {l : Launch} {D : va_G} {cyI cyZ cyW : ClassId} {zW zO : Nat} {md : Nat → Nat} {mflags : Int32} {mtubs : Int32} {mpegs : Int32} {mcl : (Nat → Int32)} {mws : (Nat → Int32)} {mho : (Nat → Int32)} {mnow : (Nat → Int32)} {mrd : (Nat → Int32)} {mrh : (Nat → Int32)} {mrf : Int32} {mtx : (Nat → Int32)} {mlen : Int32} {mat : Int32} {mfa : Int32} {mac : Int32} {mnx : Int32} {mrow : (Nat → Int32)} {msn : Int32} {mso : (Nat → Int32)} {msc : (Nat → Int32)} {msw : (Nat → Int32)} {mseed : Int64} {mik : (Nat → Int32)} {mkp : (Nat → Int32)}  {res : Int32} (h : fX10_cover mflags mho mnow = some res) : KI l yX10_cover wsX10_cover ({ frames := 2, cells := 0, slots := 0, locals := 45 } : Room) D (tyA cyI cyZ cyW) zW zO [.ref (md 0)] (wMO cyI cyZ cyW md mflags mtubs mpegs mcl mws mho mnow mrd mrh mrf mtx mlen mat mfa mac mnx mrow msn mso msc msw mseed mik mkp) (wMO cyI cyZ cyW md mflags mtubs mpegs mcl mws mho mnow mrd mrh mrf mtx mlen mat mfa mac mnx mrow msn mso msc msw mseed mik mkp) res := by
  refine enterI (cc := cX10_cover) (nL := 5) (ret := (some .int)) (by decide) rfl (Nat.le_of_ble_eq_true rfl) (fun p e s m below meth c A C => ?_)
  refine r_lv (lv' := [(0, .ref (md 0))]) [0] rfl ?_
  unfold fX10_cover at h
  refine r_aload_n C dX10_cover_0 0 rfl rfl ?_
  refine r_iconst (v := 0) C dX10_cover_1 ic_0 ?_
  refine r_iconst (v := 0) C dX10_cover_2 ic_0 ?_
  obtain ⟨u1, hu1, h⟩ := ob_bind h
  refine r_readVI (q0 := 0) (As := [.int (0 : Int32), .int (0 : Int32)]) (rest := []) C (kX10_areIn (md := md) (mflags := mflags) (mtubs := mtubs) (mpegs := mpegs) (mcl := mcl) (mws := mws) (mho := mho) (mnow := mnow) (mrd := mrd) (mrh := mrh) (mrf := mrf) (mtx := mtx) (mlen := mlen) (mat := mat) (mfa := mfa) (mac := mac) (mnx := mnx) (mrow := mrow) (msn := msn) (mso := mso) (msc := msc) (msw := msw) (mseed := mseed) (mik := mik) (mkp := mkp) (x1 := (0 : Int32)) (x2 := (0 : Int32)) hu1) gX10_cover_X10_areIn rfl rfl rfl ⟨rfl, hd_X10_areIn⟩ ⟨by decide, by decide⟩ rfl rfl rfl rfl [0, 1, 2, 3, 4, 5, 6, 7, 8, 9, 10, 11, 12, 13] (by decide) in_76 rfl (Nat.le_of_ble_eq_true rfl) dX10_cover_3 ⟨Nat.zero_le _, Nat.zero_le _⟩ ?_
  refine r_istore_n (lv' := [(1, .int u1), (0, .ref (md 0))]) C dX10_cover_6 rfl (by decide) rfl ?_
  refine r_bipush (v := -9) C dX10_cover_7 bp_m9 ?_
  refine r_istore_n (lv' := [(2, .int (-9 : Int32)), (1, .int u1), (0, .ref (md 0))]) C dX10_cover_9 rfl (by decide) rfl ?_
  refine r_iconst (v := 0) C dX10_cover_10 ic_0 ?_
  refine r_istore_n (lv' := [(3, .int (0 : Int32)), (2, .int (-9 : Int32)), (1, .int u1), (0, .ref (md 0))]) C dX10_cover_11 rfl (by decide) rfl ?_
  refine r_lv (lv' := [(0, .ref (md 0)), (1, .int u1), (2, .int (-9 : Int32)), (3, .int (0 : Int32))]) [3, 2, 1, 0] rfl ?_
  exact LX10_cover_12 C (x1 := u1) (mflags := mflags) (mtubs := mtubs) (mpegs := mpegs) (mcl := mcl) (mws := mws) (mho := mho) (mnow := mnow) (mrd := mrd) (mrh := mrh) (mrf := mrf) (mtx := mtx) (mlen := mlen) (mat := mat) (mfa := mfa) (mac := mac) (mnx := mnx) (mrow := mrow) (msn := msn) (mso := mso) (msc := msc) (msw := msw) (mseed := mseed) (mik := mik) (mkp := mkp)  FU (-9 : Int32) (0 : Int32) h

/-! ===== FlagWashModel.ran ===== -/
def fX10_ran_105 (rec31 : Int32 → Int32 → Option (Int32)) (x1 : Int32) (x2 : Int32) (x4 : Int32) (y0 : Int32) (mflags : Int32) (mnow : (Nat → Int32)) : Option (Int32) :=
 (rec31 y0 (x4 + (1 : Int32)))
def fX10_ran_104 (rec31 : Int32 → Int32 → Option (Int32)) (x1 : Int32) (x2 : Int32) (x3 : Int32) (x4 : Int32) (mflags : Int32) (mnow : (Nat → Int32)) : Option (Int32) :=
 (fX10_ran_105 rec31 x1 x2 x4 x3 mflags mnow)
def fX10_ran_74 (rec31 : Int32 → Int32 → Option (Int32)) (x1 : Int32) (x2 : Int32) (x3 : Int32) (x4 : Int32) (y0 : Bool) (mflags : Int32) (mnow : (Nat → Int32)) : Option (Int32) :=
 (if y0 = true then ((fX10_coloursOf (0 : Int32) x4 mflags mnow).bind fun u13 => (if inb x1 34 = true then (if (u13 ||| (mnow x1.toNatClampNeg)) = x2 then (fX10_ran_105 rec31 x1 x2 x4 x4 mflags mnow)
 else (fX10_ran_104 rec31 x1 x2 x3 x4 mflags mnow)) else none))
 else (fX10_ran_104 rec31 x1 x2 x3 x4 mflags mnow))
def fX10_ran_73 (rec31 : Int32 → Int32 → Option (Int32)) (x1 : Int32) (x2 : Int32) (x3 : Int32) (x4 : Int32) (mflags : Int32) (mnow : (Nat → Int32)) : Option (Int32) :=
 (fX10_ran_74 rec31 x1 x2 x3 x4 false mflags mnow)
def fX10_ran_69 (rec31 : Int32 → Int32 → Option (Int32)) (x1 : Int32) (x2 : Int32) (x3 : Int32) (x4 : Int32) (mflags : Int32) (mnow : (Nat → Int32)) : Option (Int32) :=
 (fX10_ran_74 rec31 x1 x2 x3 x4 true mflags mnow)
def gX10_ran_31 (rec31 : Int32 → Int32 → Option (Int32)) (x1 : Int32) (x2 : Int32) (x3 : Int32) (x4 : Int32) (mflags : Int32) (mnow : (Nat → Int32)) : Option (Int32) :=
 (if ((1 : Int32) <<< (mflags &&& 31)) ≤ x4 then (some x3)
 else ((fX10_has x4 x1).bind fun u6 => (if u6 = true then (fX10_ran_73 rec31 x1 x2 x3 x4 mflags mnow)
 else (if x3 = (-9 : Int32) then (fX10_ran_69 rec31 x1 x2 x3 x4 mflags mnow)
 else ((fX10_ones x4).bind fun u9 => ((fX10_ones x3).bind fun u10 => (if u10 ≤ u9 then (fX10_ran_73 rec31 x1 x2 x3 x4 mflags mnow)
 else (fX10_ran_69 rec31 x1 x2 x3 x4 mflags mnow))))))))
def fX10_ran_31  (x1 : Int32) (x2 : Int32) (mflags : Int32) (mnow : (Nat → Int32)) : Nat → Int32 → Int32 → Option (Int32)
  | 0 => fun _ _ => none
  | n + 1 => fun x3 x4 => gX10_ran_31 (fX10_ran_31  x1 x2 mflags mnow n) x1 x2 x3 x4 mflags mnow
def fX10_ran  (x1 : Int32) (x2 : Int32) (mflags : Int32) (mnow : (Nat → Int32)) : Option (Int32) :=
 ((fX10_isFlag x1 mflags).bind fun u1 => (if u1 = true then ((fX10_in x2.toInt64 (0 : Int64) (15 : Int64)).bind fun u3 => (if u3 = true then (fX10_ran_31  x1 x2 mflags mnow FU (-9 : Int32) (0 : Int32))
 else (some (-2 : Int32))))
 else (some (-1 : Int32))))
theorem mX10_ran_1 : Cond.constantLong RX10 72 (15) ∈ wsX10_ran := List.mem_of_getElem? (i := 1) rfl
theorem hinX10_ran_X10 : ∀ w ∈ u_ws RX10 TX10 24, w ∈ wsX10_ran := fun w h => List.mem_cons_of_mem _ (List.mem_append_right _ h)
theorem mX10_ran_2 : Cond.fieldLink RX10 101 "FlagWashModel" "flags" "I" ∈ wsX10_ran := List.mem_of_getElem? (i := 2) rfl
theorem mX10_ran_3 : Cond.fieldLink RX10 19 "FlagWashModel" "now" "[I" ∈ wsX10_ran := List.mem_of_getElem? (i := 3) rfl
theorem hd_X10_ran : yX10_ran.cls ≠ "java/lang/invoke/MethodHandle" ∧ yX10_ran.cls ≠ "java/lang/invoke/VarHandle" ∧ (parseMethodDescriptor yX10_ran.desc).map (fun d => d.parameters.length) = some 2 := by decide +kernel
set_option maxHeartbeats 4000000 in
set_option maxRecDepth 100000 in
theorem LX10_ran_105 {p : Program} {l : Launch} {e : Env} {s : State} {m : MethodId} {args : Array Value} {below : List Frame} {meth : Method} {c : Code} {D : va_G} {cyI cyZ cyW : ClassId} {zW zO : Nat} {A : Nat → Prop} (C : Cx p s m args meth c cX10_ran RX10 "ran" wsX10_ran (some .int) 6 D (tyA cyI cyZ cyW) zW zO A) {md : Nat → Nat} {mflags : Int32} {mtubs : Int32} {mpegs : Int32} {mcl : (Nat → Int32)} {mws : (Nat → Int32)} {mho : (Nat → Int32)} {mnow : (Nat → Int32)} {mrd : (Nat → Int32)} {mrh : (Nat → Int32)} {mrf : Int32} {mtx : (Nat → Int32)} {mlen : Int32} {mat : Int32} {mfa : Int32} {mac : Int32} {mnx : Int32} {mrow : (Nat → Int32)} {msn : Int32} {mso : (Nat → Int32)} {msc : (Nat → Int32)} {msw : (Nat → Int32)} {mseed : Int64} {mik : (Nat → Int32)} {mkp : (Nat → Int32)} {x1 : Int32} {x2 : Int32} {x4 : Int32} {y0 : Int32} {rec31 : Int32 → Int32 → Option (Int32)} {res : Int32} (hrec31 : ∀ (x3 : Int32) (x4 : Int32), rec31 x3 x4 = some res → Mx p l e ({ frames := 2, cells := 0, slots := 0, locals := 46 } : Room) s m args below meth c (MQ below (QI D (tyA cyI cyZ cyW) A (wMO cyI cyZ cyW md mflags mtubs mpegs mcl mws mho mnow mrd mrh mrf mtx mlen mat mfa mac mnx mrow msn mso msc msw mseed mik mkp) res) args s 0 0 A) 6 D A 0 0 (wMO cyI cyZ cyW md mflags mtubs mpegs mcl mws mho mnow mrd mrh mrf mtx mlen mat mfa mac mnx mrow msn mso msc msw mseed mik mkp) 31 [(0, .ref (md 0)), (1, .int x1), (2, .int x2), (3, .int x3), (4, .int x4)] []) (h : fX10_ran_105 rec31 x1 x2 x4 y0 mflags mnow = some res) : Mx p l e ({ frames := 2, cells := 0, slots := 0, locals := 46 } : Room) s m args below meth c (MQ below (QI D (tyA cyI cyZ cyW) A (wMO cyI cyZ cyW md mflags mtubs mpegs mcl mws mho mnow mrd mrh mrf mtx mlen mat mfa mac mnx mrow msn mso msc msw mseed mik mkp) res) args s 0 0 A) 6 D A 0 0 (wMO cyI cyZ cyW md mflags mtubs mpegs mcl mws mho mnow mrd mrh mrf mtx mlen mat mfa mac mnx mrow msn mso msc msw mseed mik mkp) 105 [(0, .ref (md 0)), (1, .int x1), (2, .int x2), (4, .int x4)] [.int y0] := by
  unfold fX10_ran_105 at h
  refine r_istore_n (lv' := [(3, .int y0), (0, .ref (md 0)), (1, .int x1), (2, .int x2), (4, .int x4)]) C dX10_ran_105 rfl (by decide) rfl ?_
  refine r_iinc (v := 1) (lv' := [(4, .int (x4 + (1 : Int32))), (3, .int y0), (0, .ref (md 0)), (1, .int x1), (2, .int x2)]) C dX10_ran_106 4 rfl ic_1 (by decide) rfl ?_
  refine r_goto (tgt := 31) C dX10_ran_109 (by decide) ?_
  refine r_lv (lv' := [(0, .ref (md 0)), (1, .int x1), (2, .int x2), (3, .int y0), (4, .int (x4 + (1 : Int32)))]) [2, 3, 4, 1, 0] rfl ?_
  exact hrec31 y0 (x4 + (1 : Int32)) h
set_option maxHeartbeats 4000000 in
set_option maxRecDepth 100000 in
theorem LX10_ran_104 {p : Program} {l : Launch} {e : Env} {s : State} {m : MethodId} {args : Array Value} {below : List Frame} {meth : Method} {c : Code} {D : va_G} {cyI cyZ cyW : ClassId} {zW zO : Nat} {A : Nat → Prop} (C : Cx p s m args meth c cX10_ran RX10 "ran" wsX10_ran (some .int) 6 D (tyA cyI cyZ cyW) zW zO A) {md : Nat → Nat} {mflags : Int32} {mtubs : Int32} {mpegs : Int32} {mcl : (Nat → Int32)} {mws : (Nat → Int32)} {mho : (Nat → Int32)} {mnow : (Nat → Int32)} {mrd : (Nat → Int32)} {mrh : (Nat → Int32)} {mrf : Int32} {mtx : (Nat → Int32)} {mlen : Int32} {mat : Int32} {mfa : Int32} {mac : Int32} {mnx : Int32} {mrow : (Nat → Int32)} {msn : Int32} {mso : (Nat → Int32)} {msc : (Nat → Int32)} {msw : (Nat → Int32)} {mseed : Int64} {mik : (Nat → Int32)} {mkp : (Nat → Int32)} {x1 : Int32} {x2 : Int32} {x3 : Int32} {x4 : Int32} {rec31 : Int32 → Int32 → Option (Int32)} {res : Int32} (hrec31 : ∀ (x3 : Int32) (x4 : Int32), rec31 x3 x4 = some res → Mx p l e ({ frames := 2, cells := 0, slots := 0, locals := 46 } : Room) s m args below meth c (MQ below (QI D (tyA cyI cyZ cyW) A (wMO cyI cyZ cyW md mflags mtubs mpegs mcl mws mho mnow mrd mrh mrf mtx mlen mat mfa mac mnx mrow msn mso msc msw mseed mik mkp) res) args s 0 0 A) 6 D A 0 0 (wMO cyI cyZ cyW md mflags mtubs mpegs mcl mws mho mnow mrd mrh mrf mtx mlen mat mfa mac mnx mrow msn mso msc msw mseed mik mkp) 31 [(0, .ref (md 0)), (1, .int x1), (2, .int x2), (3, .int x3), (4, .int x4)] []) (h : fX10_ran_104 rec31 x1 x2 x3 x4 mflags mnow = some res) : Mx p l e ({ frames := 2, cells := 0, slots := 0, locals := 46 } : Room) s m args below meth c (MQ below (QI D (tyA cyI cyZ cyW) A (wMO cyI cyZ cyW md mflags mtubs mpegs mcl mws mho mnow mrd mrh mrf mtx mlen mat mfa mac mnx mrow msn mso msc msw mseed mik mkp) res) args s 0 0 A) 6 D A 0 0 (wMO cyI cyZ cyW md mflags mtubs mpegs mcl mws mho mnow mrd mrh mrf mtx mlen mat mfa mac mnx mrow msn mso msc msw mseed mik mkp) 104 [(0, .ref (md 0)), (1, .int x1), (2, .int x2), (3, .int x3), (4, .int x4)] [] := by
  unfold fX10_ran_104 at h
  refine r_iload_n C dX10_ran_104 3 rfl rfl ?_
  refine r_lv (lv' := [(0, .ref (md 0)), (1, .int x1), (2, .int x2), (4, .int x4)]) [0, 1, 2, 4] rfl ?_
  exact LX10_ran_105 C (x1 := x1) (x2 := x2) (x4 := x4) (y0 := x3) (mflags := mflags) (mtubs := mtubs) (mpegs := mpegs) (mcl := mcl) (mws := mws) (mho := mho) (mnow := mnow) (mrd := mrd) (mrh := mrh) (mrf := mrf) (mtx := mtx) (mlen := mlen) (mat := mat) (mfa := mfa) (mac := mac) (mnx := mnx) (mrow := mrow) (msn := msn) (mso := mso) (msc := msc) (msw := msw) (mseed := mseed) (mik := mik) (mkp := mkp) hrec31 h
set_option maxHeartbeats 4000000 in
set_option maxRecDepth 100000 in
theorem LX10_ran_74 {p : Program} {l : Launch} {e : Env} {s : State} {m : MethodId} {args : Array Value} {below : List Frame} {meth : Method} {c : Code} {D : va_G} {cyI cyZ cyW : ClassId} {zW zO : Nat} {A : Nat → Prop} (C : Cx p s m args meth c cX10_ran RX10 "ran" wsX10_ran (some .int) 6 D (tyA cyI cyZ cyW) zW zO A) {md : Nat → Nat} {mflags : Int32} {mtubs : Int32} {mpegs : Int32} {mcl : (Nat → Int32)} {mws : (Nat → Int32)} {mho : (Nat → Int32)} {mnow : (Nat → Int32)} {mrd : (Nat → Int32)} {mrh : (Nat → Int32)} {mrf : Int32} {mtx : (Nat → Int32)} {mlen : Int32} {mat : Int32} {mfa : Int32} {mac : Int32} {mnx : Int32} {mrow : (Nat → Int32)} {msn : Int32} {mso : (Nat → Int32)} {msc : (Nat → Int32)} {msw : (Nat → Int32)} {mseed : Int64} {mik : (Nat → Int32)} {mkp : (Nat → Int32)} {x1 : Int32} {x2 : Int32} {x3 : Int32} {x4 : Int32} {y0 : Bool} {rec31 : Int32 → Int32 → Option (Int32)} {res : Int32} (hrec31 : ∀ (x3 : Int32) (x4 : Int32), rec31 x3 x4 = some res → Mx p l e ({ frames := 2, cells := 0, slots := 0, locals := 46 } : Room) s m args below meth c (MQ below (QI D (tyA cyI cyZ cyW) A (wMO cyI cyZ cyW md mflags mtubs mpegs mcl mws mho mnow mrd mrh mrf mtx mlen mat mfa mac mnx mrow msn mso msc msw mseed mik mkp) res) args s 0 0 A) 6 D A 0 0 (wMO cyI cyZ cyW md mflags mtubs mpegs mcl mws mho mnow mrd mrh mrf mtx mlen mat mfa mac mnx mrow msn mso msc msw mseed mik mkp) 31 [(0, .ref (md 0)), (1, .int x1), (2, .int x2), (3, .int x3), (4, .int x4)] []) (h : fX10_ran_74 rec31 x1 x2 x3 x4 y0 mflags mnow = some res) : Mx p l e ({ frames := 2, cells := 0, slots := 0, locals := 46 } : Room) s m args below meth c (MQ below (QI D (tyA cyI cyZ cyW) A (wMO cyI cyZ cyW md mflags mtubs mpegs mcl mws mho mnow mrd mrh mrf mtx mlen mat mfa mac mnx mrow msn mso msc msw mseed mik mkp) res) args s 0 0 A) 6 D A 0 0 (wMO cyI cyZ cyW md mflags mtubs mpegs mcl mws mho mnow mrd mrh mrf mtx mlen mat mfa mac mnx mrow msn mso msc msw mseed mik mkp) 74 [(0, .ref (md 0)), (1, .int x1), (2, .int x2), (3, .int x3), (4, .int x4)] [.int (b2i y0)] := by
  unfold fX10_ran_74 at h
  refine r_istore (lv' := [(5, .int (b2i y0)), (0, .ref (md 0)), (1, .int x1), (2, .int x2), (3, .int x3), (4, .int x4)]) C dX10_ran_74 (by decide) rfl ?_
  refine r_iload C dX10_ran_76 0 rfl ?_
  refine r_ifb_eq (tgt := 104) C dX10_ran_78 (by decide) (fun c12 => ?_) (fun c12 => ?_)
  · replace h := ob_bf h c12
    refine r_lv (lv' := [(0, .ref (md 0)), (1, .int x1), (2, .int x2), (3, .int x3), (4, .int x4)]) [1, 2, 3, 4, 5] rfl ?_
    exact LX10_ran_104 C (x1 := x1) (x2 := x2) (x3 := x3) (x4 := x4) (mflags := mflags) (mtubs := mtubs) (mpegs := mpegs) (mcl := mcl) (mws := mws) (mho := mho) (mnow := mnow) (mrd := mrd) (mrh := mrh) (mrf := mrf) (mtx := mtx) (mlen := mlen) (mat := mat) (mfa := mfa) (mac := mac) (mnx := mnx) (mrow := mrow) (msn := msn) (mso := mso) (msc := msc) (msw := msw) (mseed := mseed) (mik := mik) (mkp := mkp) hrec31 h
  · replace h := ob_t h c12
    refine r_aload_n C dX10_ran_81 1 rfl rfl ?_
    refine r_iconst (v := 0) C dX10_ran_82 ic_0 ?_
    refine r_iload C dX10_ran_83 5 rfl ?_
    obtain ⟨u13, hu13, h⟩ := ob_bind h
    refine r_readVI (q0 := 0) (As := [.int (0 : Int32), .int x4]) (rest := []) C (kX10_coloursOf (md := md) (mflags := mflags) (mtubs := mtubs) (mpegs := mpegs) (mcl := mcl) (mws := mws) (mho := mho) (mnow := mnow) (mrd := mrd) (mrh := mrh) (mrf := mrf) (mtx := mtx) (mlen := mlen) (mat := mat) (mfa := mfa) (mac := mac) (mnx := mnx) (mrow := mrow) (msn := msn) (mso := mso) (msc := msc) (msw := msw) (mseed := mseed) (mik := mik) (mkp := mkp) (x1 := (0 : Int32)) (x2 := x4) hu13) gX10_ran_X10_coloursOf rfl rfl rfl ⟨rfl, hd_X10_coloursOf⟩ ⟨by decide, by decide⟩ rfl rfl rfl rfl [0, 1, 2, 3, 4, 5, 6, 7, 8, 9, 10, 11, 12, 13] (by decide) in_76 rfl (Nat.le_of_ble_eq_true rfl) dX10_ran_85 ⟨Nat.zero_le _, Nat.zero_le _⟩ ?_
    refine r_aload_n C dX10_ran_88 1 rfl rfl ?_
    refine r_get (ci := 7) (CC := RX10) (T := TX10) (N := 24) (v := .ref (md 4)) C hinX10_ran_X10 0 rfl rfl 6 (by decide) mX10_ran_3 rfl rfl dX10_ran_89 ?_
    refine r_iload_n C dX10_ran_92 2 rfl rfl ?_
    obtain ⟨hu14, h⟩ := ob_if h
    refine r_iald C 4 0 rfl rfl (inb_vp hu14) dX10_ran_93 ?_
    refine r_ior C dX10_ran_94 ?_
    refine r_iload_n C dX10_ran_95 3 rfl rfl ?_
    refine r_icmp_ne (tgt := 104) C dX10_ran_96 (by decide) (fun c15 => ?_) (fun c15 => ?_)
    · replace h := ob_f h c15
      refine r_lv (lv' := [(0, .ref (md 0)), (1, .int x1), (2, .int x2), (3, .int x3), (4, .int x4)]) [1, 2, 3, 4, 5] rfl ?_
      exact LX10_ran_104 C (x1 := x1) (x2 := x2) (x3 := x3) (x4 := x4) (mflags := mflags) (mtubs := mtubs) (mpegs := mpegs) (mcl := mcl) (mws := mws) (mho := mho) (mnow := mnow) (mrd := mrd) (mrh := mrh) (mrf := mrf) (mtx := mtx) (mlen := mlen) (mat := mat) (mfa := mfa) (mac := mac) (mnx := mnx) (mrow := mrow) (msn := msn) (mso := mso) (msc := msc) (msw := msw) (mseed := mseed) (mik := mik) (mkp := mkp) hrec31 h
    · replace h := ob_t h c15
      refine r_iload C dX10_ran_99 5 rfl ?_
      refine r_goto (tgt := 105) C dX10_ran_101 (by decide) ?_
      refine r_lv (lv' := [(0, .ref (md 0)), (1, .int x1), (2, .int x2), (4, .int x4)]) [1, 2, 3, 5] rfl ?_
      exact LX10_ran_105 C (x1 := x1) (x2 := x2) (x4 := x4) (y0 := x4) (mflags := mflags) (mtubs := mtubs) (mpegs := mpegs) (mcl := mcl) (mws := mws) (mho := mho) (mnow := mnow) (mrd := mrd) (mrh := mrh) (mrf := mrf) (mtx := mtx) (mlen := mlen) (mat := mat) (mfa := mfa) (mac := mac) (mnx := mnx) (mrow := mrow) (msn := msn) (mso := mso) (msc := msc) (msw := msw) (mseed := mseed) (mik := mik) (mkp := mkp) hrec31 h
set_option maxHeartbeats 4000000 in
set_option maxRecDepth 100000 in
theorem LX10_ran_73 {p : Program} {l : Launch} {e : Env} {s : State} {m : MethodId} {args : Array Value} {below : List Frame} {meth : Method} {c : Code} {D : va_G} {cyI cyZ cyW : ClassId} {zW zO : Nat} {A : Nat → Prop} (C : Cx p s m args meth c cX10_ran RX10 "ran" wsX10_ran (some .int) 6 D (tyA cyI cyZ cyW) zW zO A) {md : Nat → Nat} {mflags : Int32} {mtubs : Int32} {mpegs : Int32} {mcl : (Nat → Int32)} {mws : (Nat → Int32)} {mho : (Nat → Int32)} {mnow : (Nat → Int32)} {mrd : (Nat → Int32)} {mrh : (Nat → Int32)} {mrf : Int32} {mtx : (Nat → Int32)} {mlen : Int32} {mat : Int32} {mfa : Int32} {mac : Int32} {mnx : Int32} {mrow : (Nat → Int32)} {msn : Int32} {mso : (Nat → Int32)} {msc : (Nat → Int32)} {msw : (Nat → Int32)} {mseed : Int64} {mik : (Nat → Int32)} {mkp : (Nat → Int32)} {x1 : Int32} {x2 : Int32} {x3 : Int32} {x4 : Int32} {rec31 : Int32 → Int32 → Option (Int32)} {res : Int32} (hrec31 : ∀ (x3 : Int32) (x4 : Int32), rec31 x3 x4 = some res → Mx p l e ({ frames := 2, cells := 0, slots := 0, locals := 46 } : Room) s m args below meth c (MQ below (QI D (tyA cyI cyZ cyW) A (wMO cyI cyZ cyW md mflags mtubs mpegs mcl mws mho mnow mrd mrh mrf mtx mlen mat mfa mac mnx mrow msn mso msc msw mseed mik mkp) res) args s 0 0 A) 6 D A 0 0 (wMO cyI cyZ cyW md mflags mtubs mpegs mcl mws mho mnow mrd mrh mrf mtx mlen mat mfa mac mnx mrow msn mso msc msw mseed mik mkp) 31 [(0, .ref (md 0)), (1, .int x1), (2, .int x2), (3, .int x3), (4, .int x4)] []) (h : fX10_ran_73 rec31 x1 x2 x3 x4 mflags mnow = some res) : Mx p l e ({ frames := 2, cells := 0, slots := 0, locals := 46 } : Room) s m args below meth c (MQ below (QI D (tyA cyI cyZ cyW) A (wMO cyI cyZ cyW md mflags mtubs mpegs mcl mws mho mnow mrd mrh mrf mtx mlen mat mfa mac mnx mrow msn mso msc msw mseed mik mkp) res) args s 0 0 A) 6 D A 0 0 (wMO cyI cyZ cyW md mflags mtubs mpegs mcl mws mho mnow mrd mrh mrf mtx mlen mat mfa mac mnx mrow msn mso msc msw mseed mik mkp) 73 [(0, .ref (md 0)), (1, .int x1), (2, .int x2), (3, .int x3), (4, .int x4)] [] := by
  unfold fX10_ran_73 at h
  refine r_iconst (v := 0) C dX10_ran_73 ic_0 ?_
  refine r_lv (lv' := [(0, .ref (md 0)), (1, .int x1), (2, .int x2), (3, .int x3), (4, .int x4)]) [0, 1, 2, 3, 4] rfl ?_
  exact LX10_ran_74 C (x1 := x1) (x2 := x2) (x3 := x3) (x4 := x4) (y0 := false) (mflags := mflags) (mtubs := mtubs) (mpegs := mpegs) (mcl := mcl) (mws := mws) (mho := mho) (mnow := mnow) (mrd := mrd) (mrh := mrh) (mrf := mrf) (mtx := mtx) (mlen := mlen) (mat := mat) (mfa := mfa) (mac := mac) (mnx := mnx) (mrow := mrow) (msn := msn) (mso := mso) (msc := msc) (msw := msw) (mseed := mseed) (mik := mik) (mkp := mkp) hrec31 h
set_option maxHeartbeats 4000000 in
set_option maxRecDepth 100000 in
theorem LX10_ran_69 {p : Program} {l : Launch} {e : Env} {s : State} {m : MethodId} {args : Array Value} {below : List Frame} {meth : Method} {c : Code} {D : va_G} {cyI cyZ cyW : ClassId} {zW zO : Nat} {A : Nat → Prop} (C : Cx p s m args meth c cX10_ran RX10 "ran" wsX10_ran (some .int) 6 D (tyA cyI cyZ cyW) zW zO A) {md : Nat → Nat} {mflags : Int32} {mtubs : Int32} {mpegs : Int32} {mcl : (Nat → Int32)} {mws : (Nat → Int32)} {mho : (Nat → Int32)} {mnow : (Nat → Int32)} {mrd : (Nat → Int32)} {mrh : (Nat → Int32)} {mrf : Int32} {mtx : (Nat → Int32)} {mlen : Int32} {mat : Int32} {mfa : Int32} {mac : Int32} {mnx : Int32} {mrow : (Nat → Int32)} {msn : Int32} {mso : (Nat → Int32)} {msc : (Nat → Int32)} {msw : (Nat → Int32)} {mseed : Int64} {mik : (Nat → Int32)} {mkp : (Nat → Int32)} {x1 : Int32} {x2 : Int32} {x3 : Int32} {x4 : Int32} {rec31 : Int32 → Int32 → Option (Int32)} {res : Int32} (hrec31 : ∀ (x3 : Int32) (x4 : Int32), rec31 x3 x4 = some res → Mx p l e ({ frames := 2, cells := 0, slots := 0, locals := 46 } : Room) s m args below meth c (MQ below (QI D (tyA cyI cyZ cyW) A (wMO cyI cyZ cyW md mflags mtubs mpegs mcl mws mho mnow mrd mrh mrf mtx mlen mat mfa mac mnx mrow msn mso msc msw mseed mik mkp) res) args s 0 0 A) 6 D A 0 0 (wMO cyI cyZ cyW md mflags mtubs mpegs mcl mws mho mnow mrd mrh mrf mtx mlen mat mfa mac mnx mrow msn mso msc msw mseed mik mkp) 31 [(0, .ref (md 0)), (1, .int x1), (2, .int x2), (3, .int x3), (4, .int x4)] []) (h : fX10_ran_69 rec31 x1 x2 x3 x4 mflags mnow = some res) : Mx p l e ({ frames := 2, cells := 0, slots := 0, locals := 46 } : Room) s m args below meth c (MQ below (QI D (tyA cyI cyZ cyW) A (wMO cyI cyZ cyW md mflags mtubs mpegs mcl mws mho mnow mrd mrh mrf mtx mlen mat mfa mac mnx mrow msn mso msc msw mseed mik mkp) res) args s 0 0 A) 6 D A 0 0 (wMO cyI cyZ cyW md mflags mtubs mpegs mcl mws mho mnow mrd mrh mrf mtx mlen mat mfa mac mnx mrow msn mso msc msw mseed mik mkp) 69 [(0, .ref (md 0)), (1, .int x1), (2, .int x2), (3, .int x3), (4, .int x4)] [] := by
  unfold fX10_ran_69 at h
  refine r_iconst (v := 1) C dX10_ran_69 ic_1 ?_
  refine r_goto (tgt := 74) C dX10_ran_70 (by decide) ?_
  refine r_lv (lv' := [(0, .ref (md 0)), (1, .int x1), (2, .int x2), (3, .int x3), (4, .int x4)]) [0, 1, 2, 3, 4] rfl ?_
  exact LX10_ran_74 C (x1 := x1) (x2 := x2) (x3 := x3) (x4 := x4) (y0 := true) (mflags := mflags) (mtubs := mtubs) (mpegs := mpegs) (mcl := mcl) (mws := mws) (mho := mho) (mnow := mnow) (mrd := mrd) (mrh := mrh) (mrf := mrf) (mtx := mtx) (mlen := mlen) (mat := mat) (mfa := mfa) (mac := mac) (mnx := mnx) (mrow := mrow) (msn := msn) (mso := mso) (msc := msc) (msw := msw) (mseed := mseed) (mik := mik) (mkp := mkp) hrec31 h
set_option maxHeartbeats 4000000 in
set_option maxRecDepth 100000 in
theorem LGX10_ran_31 {p : Program} {l : Launch} {e : Env} {s : State} {m : MethodId} {args : Array Value} {below : List Frame} {meth : Method} {c : Code} {D : va_G} {cyI cyZ cyW : ClassId} {zW zO : Nat} {A : Nat → Prop} (C : Cx p s m args meth c cX10_ran RX10 "ran" wsX10_ran (some .int) 6 D (tyA cyI cyZ cyW) zW zO A) {md : Nat → Nat} {mflags : Int32} {mtubs : Int32} {mpegs : Int32} {mcl : (Nat → Int32)} {mws : (Nat → Int32)} {mho : (Nat → Int32)} {mnow : (Nat → Int32)} {mrd : (Nat → Int32)} {mrh : (Nat → Int32)} {mrf : Int32} {mtx : (Nat → Int32)} {mlen : Int32} {mat : Int32} {mfa : Int32} {mac : Int32} {mnx : Int32} {mrow : (Nat → Int32)} {msn : Int32} {mso : (Nat → Int32)} {msc : (Nat → Int32)} {msw : (Nat → Int32)} {mseed : Int64} {mik : (Nat → Int32)} {mkp : (Nat → Int32)} {x1 : Int32} {x2 : Int32} {x3 : Int32} {x4 : Int32} {rec31 : Int32 → Int32 → Option (Int32)} {res : Int32} (hrec31 : ∀ (x3 : Int32) (x4 : Int32), rec31 x3 x4 = some res → Mx p l e ({ frames := 2, cells := 0, slots := 0, locals := 46 } : Room) s m args below meth c (MQ below (QI D (tyA cyI cyZ cyW) A (wMO cyI cyZ cyW md mflags mtubs mpegs mcl mws mho mnow mrd mrh mrf mtx mlen mat mfa mac mnx mrow msn mso msc msw mseed mik mkp) res) args s 0 0 A) 6 D A 0 0 (wMO cyI cyZ cyW md mflags mtubs mpegs mcl mws mho mnow mrd mrh mrf mtx mlen mat mfa mac mnx mrow msn mso msc msw mseed mik mkp) 31 [(0, .ref (md 0)), (1, .int x1), (2, .int x2), (3, .int x3), (4, .int x4)] []) (h : gX10_ran_31 rec31 x1 x2 x3 x4 mflags mnow = some res) : Mx p l e ({ frames := 2, cells := 0, slots := 0, locals := 46 } : Room) s m args below meth c (MQ below (QI D (tyA cyI cyZ cyW) A (wMO cyI cyZ cyW md mflags mtubs mpegs mcl mws mho mnow mrd mrh mrf mtx mlen mat mfa mac mnx mrow msn mso msc msw mseed mik mkp) res) args s 0 0 A) 6 D A 0 0 (wMO cyI cyZ cyW md mflags mtubs mpegs mcl mws mho mnow mrd mrh mrf mtx mlen mat mfa mac mnx mrow msn mso msc msw mseed mik mkp) 31 [(0, .ref (md 0)), (1, .int x1), (2, .int x2), (3, .int x3), (4, .int x4)] [] := by
  unfold gX10_ran_31 at h
  refine r_iload C dX10_ran_31 4 rfl ?_
  refine r_iconst (v := 1) C dX10_ran_33 ic_1 ?_
  refine r_aload_n C dX10_ran_34 0 rfl rfl ?_
  refine r_get (ci := 7) (CC := RX10) (T := TX10) (N := 24) (v := .int mflags) C hinX10_ran_X10 0 rfl rfl 0 (by decide) mX10_ran_2 rfl rfl dX10_ran_35 ?_
  refine r_ishl C dX10_ran_38 ?_
  refine r_icmp_ge (tgt := 112) C dX10_ran_39 (by decide) (fun c5 => ?_) (fun c5 => ?_)
  · replace h := ob_t h c5
    refine r_iload_n C dX10_ran_112 3 rfl rfl ?_
    have h9 := Option.some.inj h
    subst h9
    exact r_iret C rfl dX10_ran_113
  · replace h := ob_f h c5
    refine r_iload C dX10_ran_42 4 rfl ?_
    refine r_iload_n C dX10_ran_44 1 rfl rfl ?_
    obtain ⟨u6, hu6, h⟩ := ob_bind h
    refine r_readSI (As := [.int x4, .int x1]) (rest := []) C (kX10_has   (x0 := x4) (x1 := x1) hu6) gX10_ran_X10_has rfl rfl rfl hd_X10_has ⟨by decide, by decide⟩ rfl [] (by decide) rfl rfl (Nat.le_of_ble_eq_true rfl) dX10_ran_45 ⟨Nat.zero_le _, Nat.zero_le _⟩ ?_
    refine r_ifb_ne (tgt := 73) C dX10_ran_48 (by decide) (fun c7 => ?_) (fun c7 => ?_)
    · replace h := ob_t h c7
      refine r_lv (lv' := [(0, .ref (md 0)), (1, .int x1), (2, .int x2), (3, .int x3), (4, .int x4)]) [0, 1, 2, 3, 4] rfl ?_
      exact LX10_ran_73 C (x1 := x1) (x2 := x2) (x3 := x3) (x4 := x4) (mflags := mflags) (mtubs := mtubs) (mpegs := mpegs) (mcl := mcl) (mws := mws) (mho := mho) (mnow := mnow) (mrd := mrd) (mrh := mrh) (mrf := mrf) (mtx := mtx) (mlen := mlen) (mat := mat) (mfa := mfa) (mac := mac) (mnx := mnx) (mrow := mrow) (msn := msn) (mso := mso) (msc := msc) (msw := msw) (mseed := mseed) (mik := mik) (mkp := mkp) hrec31 h
    · replace h := ob_bf h c7
      refine r_iload_n C dX10_ran_51 3 rfl rfl ?_
      refine r_bipush (v := -9) C dX10_ran_52 bp_m9 ?_
      refine r_icmp_eq (tgt := 69) C dX10_ran_54 (by decide) (fun c8 => ?_) (fun c8 => ?_)
      · replace h := ob_t h c8
        refine r_lv (lv' := [(0, .ref (md 0)), (1, .int x1), (2, .int x2), (3, .int x3), (4, .int x4)]) [0, 1, 2, 3, 4] rfl ?_
        exact LX10_ran_69 C (x1 := x1) (x2 := x2) (x3 := x3) (x4 := x4) (mflags := mflags) (mtubs := mtubs) (mpegs := mpegs) (mcl := mcl) (mws := mws) (mho := mho) (mnow := mnow) (mrd := mrd) (mrh := mrh) (mrf := mrf) (mtx := mtx) (mlen := mlen) (mat := mat) (mfa := mfa) (mac := mac) (mnx := mnx) (mrow := mrow) (msn := msn) (mso := mso) (msc := msc) (msw := msw) (mseed := mseed) (mik := mik) (mkp := mkp) hrec31 h
      · replace h := ob_f h c8
        refine r_iload C dX10_ran_57 4 rfl ?_
        obtain ⟨u9, hu9, h⟩ := ob_bind h
        refine r_readSI (As := [.int x4]) (rest := []) C (kX10_ones   (x0 := x4) hu9) gX10_ran_X10_ones rfl rfl rfl hd_X10_ones ⟨by decide, by decide⟩ rfl [] (by decide) rfl rfl (Nat.le_of_ble_eq_true rfl) dX10_ran_59 ⟨Nat.zero_le _, Nat.zero_le _⟩ ?_
        refine r_iload_n C dX10_ran_62 3 rfl rfl ?_
        obtain ⟨u10, hu10, h⟩ := ob_bind h
        refine r_readSI (As := [.int x3]) (rest := [.int u9]) C (kX10_ones   (x0 := x3) hu10) gX10_ran_X10_ones rfl rfl rfl hd_X10_ones ⟨by decide, by decide⟩ rfl [] (by decide) rfl rfl (Nat.le_of_ble_eq_true rfl) dX10_ran_63 ⟨Nat.zero_le _, Nat.zero_le _⟩ ?_
        refine r_icmp_ge (tgt := 73) C dX10_ran_66 (by decide) (fun c11 => ?_) (fun c11 => ?_)
        · replace h := ob_t h c11
          refine r_lv (lv' := [(0, .ref (md 0)), (1, .int x1), (2, .int x2), (3, .int x3), (4, .int x4)]) [0, 1, 2, 3, 4] rfl ?_
          exact LX10_ran_73 C (x1 := x1) (x2 := x2) (x3 := x3) (x4 := x4) (mflags := mflags) (mtubs := mtubs) (mpegs := mpegs) (mcl := mcl) (mws := mws) (mho := mho) (mnow := mnow) (mrd := mrd) (mrh := mrh) (mrf := mrf) (mtx := mtx) (mlen := mlen) (mat := mat) (mfa := mfa) (mac := mac) (mnx := mnx) (mrow := mrow) (msn := msn) (mso := mso) (msc := msc) (msw := msw) (mseed := mseed) (mik := mik) (mkp := mkp) hrec31 h
        · replace h := ob_f h c11
          refine r_lv (lv' := [(0, .ref (md 0)), (1, .int x1), (2, .int x2), (3, .int x3), (4, .int x4)]) [0, 1, 2, 3, 4] rfl ?_
          exact LX10_ran_69 C (x1 := x1) (x2 := x2) (x3 := x3) (x4 := x4) (mflags := mflags) (mtubs := mtubs) (mpegs := mpegs) (mcl := mcl) (mws := mws) (mho := mho) (mnow := mnow) (mrd := mrd) (mrh := mrh) (mrf := mrf) (mtx := mtx) (mlen := mlen) (mat := mat) (mfa := mfa) (mac := mac) (mnx := mnx) (mrow := mrow) (msn := msn) (mso := mso) (msc := msc) (msw := msw) (mseed := mseed) (mik := mik) (mkp := mkp) hrec31 h
set_option maxHeartbeats 4000000 in
set_option maxRecDepth 100000 in
theorem LX10_ran_31 {p : Program} {l : Launch} {e : Env} {s : State} {m : MethodId} {args : Array Value} {below : List Frame} {meth : Method} {c : Code} {D : va_G} {cyI cyZ cyW : ClassId} {zW zO : Nat} {A : Nat → Prop} (C : Cx p s m args meth c cX10_ran RX10 "ran" wsX10_ran (some .int) 6 D (tyA cyI cyZ cyW) zW zO A) {md : Nat → Nat} {x1 : Int32} {x2 : Int32} {mflags : Int32} {mtubs : Int32} {mpegs : Int32} {mcl : (Nat → Int32)} {mws : (Nat → Int32)} {mho : (Nat → Int32)} {mnow : (Nat → Int32)} {mrd : (Nat → Int32)} {mrh : (Nat → Int32)} {mrf : Int32} {mtx : (Nat → Int32)} {mlen : Int32} {mat : Int32} {mfa : Int32} {mac : Int32} {mnx : Int32} {mrow : (Nat → Int32)} {msn : Int32} {mso : (Nat → Int32)} {msc : (Nat → Int32)} {msw : (Nat → Int32)} {mseed : Int64} {mik : (Nat → Int32)} {mkp : (Nat → Int32)}  {res : Int32}  : ∀ (n : Nat) (x3 : Int32) (x4 : Int32), fX10_ran_31  x1 x2 mflags mnow n x3 x4 = some res → Mx p l e ({ frames := 2, cells := 0, slots := 0, locals := 46 } : Room) s m args below meth c (MQ below (QI D (tyA cyI cyZ cyW) A (wMO cyI cyZ cyW md mflags mtubs mpegs mcl mws mho mnow mrd mrh mrf mtx mlen mat mfa mac mnx mrow msn mso msc msw mseed mik mkp) res) args s 0 0 A) 6 D A 0 0 (wMO cyI cyZ cyW md mflags mtubs mpegs mcl mws mho mnow mrd mrh mrf mtx mlen mat mfa mac mnx mrow msn mso msc msw mseed mik mkp) 31 [(0, .ref (md 0)), (1, .int x1), (2, .int x2), (3, .int x3), (4, .int x4)] [] := by
  intro n
  induction n with
  | zero => intro x3 x4 h; cases h
  | succ n ih => intro x3 x4 h; exact LGX10_ran_31 C ih h
set_option maxHeartbeats 4000000 in
set_option maxRecDepth 100000 in
theorem kX10_ran {l : Launch} {D : va_G} {cyI cyZ cyW : ClassId} {zW zO : Nat} {md : Nat → Nat} {mflags : Int32} {mtubs : Int32} {mpegs : Int32} {mcl : (Nat → Int32)} {mws : (Nat → Int32)} {mho : (Nat → Int32)} {mnow : (Nat → Int32)} {mrd : (Nat → Int32)} {mrh : (Nat → Int32)} {mrf : Int32} {mtx : (Nat → Int32)} {mlen : Int32} {mat : Int32} {mfa : Int32} {mac : Int32} {mnx : Int32} {mrow : (Nat → Int32)} {msn : Int32} {mso : (Nat → Int32)} {msc : (Nat → Int32)} {msw : (Nat → Int32)} {mseed : Int64} {mik : (Nat → Int32)} {mkp : (Nat → Int32)} {x1 : Int32} {x2 : Int32} {res : Int32} (h : fX10_ran x1 x2 mflags mnow = some res) : KI l yX10_ran wsX10_ran ({ frames := 2, cells := 0, slots := 0, locals := 46 } : Room) D (tyA cyI cyZ cyW) zW zO [.ref (md 0), .int x1, .int x2] (wMO cyI cyZ cyW md mflags mtubs mpegs mcl mws mho mnow mrd mrh mrf mtx mlen mat mfa mac mnx mrow msn mso msc msw mseed mik mkp) (wMO cyI cyZ cyW md mflags mtubs mpegs mcl mws mho mnow mrd mrh mrf mtx mlen mat mfa mac mnx mrow msn mso msc msw mseed mik mkp) res := by
  refine enterI (cc := cX10_ran) (nL := 6) (ret := (some .int)) (by decide) rfl (Nat.le_of_ble_eq_true rfl) (fun p e s m below meth c A C => ?_)
  refine r_lv (lv' := [(0, .ref (md 0)), (1, .int x1), (2, .int x2)]) [0, 1, 2] rfl ?_
  unfold fX10_ran at h
  refine r_aload_n C dX10_ran_0 0 rfl rfl ?_
  refine r_iload_n C dX10_ran_1 1 rfl rfl ?_
  obtain ⟨u1, hu1, h⟩ := ob_bind h
  refine r_readVI (q0 := 0) (As := [.int x1]) (rest := []) C (kX10_isFlag (md := md) (mflags := mflags) (mtubs := mtubs) (mpegs := mpegs) (mcl := mcl) (mws := mws) (mho := mho) (mnow := mnow) (mrd := mrd) (mrh := mrh) (mrf := mrf) (mtx := mtx) (mlen := mlen) (mat := mat) (mfa := mfa) (mac := mac) (mnx := mnx) (mrow := mrow) (msn := msn) (mso := mso) (msc := msc) (msw := msw) (mseed := mseed) (mik := mik) (mkp := mkp) (x1 := x1) hu1) gX10_ran_X10_isFlag rfl rfl rfl ⟨rfl, hd_X10_isFlag⟩ ⟨by decide, by decide⟩ rfl rfl rfl rfl [0, 1, 2, 3, 4, 5, 6, 7, 8, 9, 10, 11, 12, 13] (by decide) in_76 rfl (Nat.le_of_ble_eq_true rfl) dX10_ran_2 ⟨Nat.zero_le _, Nat.zero_le _⟩ ?_
  refine r_ifb_ne (tgt := 10) C dX10_ran_5 (by decide) (fun c2 => ?_) (fun c2 => ?_)
  · replace h := ob_t h c2
    refine r_iload_n C dX10_ran_10 2 rfl rfl ?_
    refine r_i2l C dX10_ran_11 ?_
    refine r_lconst (v := 0) C dX10_ran_12 lc_0 ?_
    refine r_ldc2 (v := 15) C mX10_ran_1 dX10_ran_13 ?_
    obtain ⟨u3, hu3, h⟩ := ob_bind h
    refine r_readSI (As := [.long x2.toInt64, .long (0 : Int64), .long (15 : Int64)]) (rest := []) C (kX10_in   (x0 := x2.toInt64) (x2 := (0 : Int64)) (x4 := (15 : Int64)) hu3) gX10_ran_X10_in rfl rfl rfl hd_X10_in ⟨by decide, by decide⟩ rfl [] (by decide) rfl rfl (Nat.le_of_ble_eq_true rfl) dX10_ran_16 ⟨Nat.zero_le _, Nat.zero_le _⟩ ?_
    refine r_ifb_ne (tgt := 25) C dX10_ran_19 (by decide) (fun c4 => ?_) (fun c4 => ?_)
    · replace h := ob_t h c4
      refine r_bipush (v := -9) C dX10_ran_25 bp_m9 ?_
      refine r_istore_n (lv' := [(3, .int (-9 : Int32)), (0, .ref (md 0)), (1, .int x1), (2, .int x2)]) C dX10_ran_27 rfl (by decide) rfl ?_
      refine r_iconst (v := 0) C dX10_ran_28 ic_0 ?_
      refine r_istore (lv' := [(4, .int (0 : Int32)), (3, .int (-9 : Int32)), (0, .ref (md 0)), (1, .int x1), (2, .int x2)]) C dX10_ran_29 (by decide) rfl ?_
      refine r_lv (lv' := [(0, .ref (md 0)), (1, .int x1), (2, .int x2), (3, .int (-9 : Int32)), (4, .int (0 : Int32))]) [2, 3, 4, 1, 0] rfl ?_
      exact LX10_ran_31 C (x1 := x1) (x2 := x2) (mflags := mflags) (mtubs := mtubs) (mpegs := mpegs) (mcl := mcl) (mws := mws) (mho := mho) (mnow := mnow) (mrd := mrd) (mrh := mrh) (mrf := mrf) (mtx := mtx) (mlen := mlen) (mat := mat) (mfa := mfa) (mac := mac) (mnx := mnx) (mrow := mrow) (msn := msn) (mso := mso) (msc := msc) (msw := msw) (mseed := mseed) (mik := mik) (mkp := mkp)  FU (-9 : Int32) (0 : Int32) h
    · replace h := ob_bf h c4
      refine r_bipush (v := -2) C dX10_ran_22 bp_m2 ?_
      have h9 := Option.some.inj h
      subst h9
      exact r_iret C rfl dX10_ran_24
  · replace h := ob_bf h c2
    refine r_iconst (v := -1) C dX10_ran_8 ic_m1 ?_
    have h9 := Option.some.inj h
    subst h9
    exact r_iret C rfl dX10_ran_9
