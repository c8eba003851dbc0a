/-! ===== FlagWashModel.weeks ===== -/
def fX10_weeks_120 (rec23 : Int32 → Int32 → (Nat → Int32) → Int64 → Option (Int32 × (Nat → Int32) × Int64)) (x1 : Int32) (x3 : Int32) (y0 : Bool) (y1 : Int32) (mflags : Int32) (mtubs : Int32) (mpegs : Int32) (mcl : (Nat → Int32)) (mws : (Nat → Int32)) (mho : (Nat → Int32)) (mnow : (Nat → Int32)) (mseed : Int64) : Option (Int32 × (Nat → Int32) × Int64) :=
 (rec23 (y1 + (b2i y0)) (x3 + (1 : Int32)) mnow mseed)
def fX10_weeks_101 (rec23 : Int32 → Int32 → (Nat → Int32) → Int64 → Option (Int32 × (Nat → Int32) × Int64)) (x1 : Int32) (x2 : Int32) (x3 : Int32) (mflags : Int32) (mtubs : Int32) (mpegs : Int32) (mcl : (Nat → Int32)) (mws : (Nat → Int32)) (mho : (Nat → Int32)) (mnow : (Nat → Int32)) (mseed : Int64) : Option (Int32 × (Nat → Int32) × Int64) :=
 ((fX10_areIn (1 : Int32) (0 : Int32) mflags mnow).bind fun u10 => ((fX10_fights u10 mflags mho).bind fun u11 => (if u11 ≤ 0 then (fX10_weeks_120 rec23 x1 x3 false x2 mflags mtubs mpegs mcl mws mho mnow mseed)
 else (fX10_weeks_120 rec23 x1 x3 true x2 mflags mtubs mpegs mcl mws mho mnow mseed))))
def fX10_weeks_58 (rec23 : Int32 → Int32 → (Nat → Int32) → Int64 → Option (Int32 × (Nat → Int32) × Int64)) (x1 : Int32) (x2 : Int32) (x3 : Int32) (x4 : Int32) (mflags : Int32) (mtubs : Int32) (mpegs : Int32) (mcl : (Nat → Int32)) (mws : (Nat → Int32)) (mho : (Nat → Int32)) (mnow : (Nat → Int32)) (mseed : Int64) : Option (Int32 × (Nat → Int32) × Int64) :=
 (if x4 ≤ (4 : Int32) then ((fX10_canSend (1 : Int32) x4 mflags mtubs mpegs mnow).bind fun u6 => (if u6 = true then ((fX10_sendOn (1 : Int32) x4 mws mnow).bind fun u8 => (fX10_weeks_101 rec23 x1 x2 x3 mflags mtubs mpegs mcl mws mho u8 mseed))
 else (fX10_weeks_101 rec23 x1 x2 x3 mflags mtubs mpegs mcl mws mho mnow mseed)))
 else ((fX10_passOn (1 : Int32) mflags mtubs mpegs mcl (upd mnow (32 : Int32).toNatClampNeg (jrem x4 (3 : Int32)))).bind fun u9 => (fX10_weeks_101 rec23 x1 x2 x3 mflags mtubs mpegs mcl mws mho u9.2 mseed)))
def gX10_weeks_23 (rec23 : Int32 → Int32 → (Nat → Int32) → Int64 → Option (Int32 × (Nat → Int32) × Int64)) (x1 : Int32) (x2 : Int32) (x3 : Int32) (mflags : Int32) (mtubs : Int32) (mpegs : Int32) (mcl : (Nat → Int32)) (mws : (Nat → Int32)) (mho : (Nat → Int32)) (mnow : (Nat → Int32)) (mseed : Int64) : Option (Int32 × (Nat → Int32) × Int64) :=
 (if x1 ≤ x3 then (some (x2, mnow, mseed))
 else (fX10_weeks_58 rec23 x1 x2 x3 (jremL (((mseed * (6364136223846793005 : Int64)) + (1442695040888963407 : Int64)).toUInt64 >>> ((33 : Int32).toInt64.toUInt64 &&& Int64.toUInt64 63)).toInt64 (10 : Int64)).toInt32 mflags mtubs mpegs mcl mws mho mnow ((mseed * (6364136223846793005 : Int64)) + (1442695040888963407 : Int64))))
def fX10_weeks_23  (x1 : Int32) (mflags : Int32) (mtubs : Int32) (mpegs : Int32) (mcl : (Nat → Int32)) (mws : (Nat → Int32)) (mho : (Nat → Int32)) : Nat → Int32 → Int32 → (Nat → Int32) → Int64 → Option (Int32 × (Nat → Int32) × Int64)
  | 0 => fun _ _ _ _ => none
  | n + 1 => fun x2 x3 mnow mseed => gX10_weeks_23 (fX10_weeks_23  x1 mflags mtubs mpegs mcl mws mho n) x1 x2 x3 mflags mtubs mpegs mcl mws mho mnow mseed
def fX10_weeks  (x1 : Int32) (mflags : Int32) (mtubs : Int32) (mpegs : Int32) (mcl : (Nat → Int32)) (mws : (Nat → Int32)) (mho : (Nat → Int32)) (mnow : (Nat → Int32)) (mseed : Int64) : Option (Int32 × (Nat → Int32) × Int64) :=
 ((fX10_in x1.toInt64 (1 : Int64) (30 : Int64)).bind fun u1 => (if u1 = true then ((fX10_layTrial mnow).bind fun u3 => (fX10_weeks_23  x1 mflags mtubs mpegs mcl mws mho FU (0 : Int32) (0 : Int32) u3 mseed))
 else (some ((-2 : Int32), mnow, mseed))))
theorem mX10_weeks_1 : Cond.constantLong RX10 201 (30) ∈ wsX10_weeks := List.mem_of_getElem? (i := 1) rfl
theorem hinX10_weeks_X10 : ∀ w ∈ u_ws RX10 TX10 24, w ∈ wsX10_weeks := fun w h => List.mem_cons_of_mem _ (List.mem_append_right _ h)
theorem mX10_weeks_2 : Cond.fieldLink RX10 197 "FlagWashModel" "seed" "J" ∈ wsX10_weeks := List.mem_of_getElem? (i := 2) rfl
theorem mX10_weeks_3 : Cond.constantLong RX10 203 (6364136223846793005) ∈ wsX10_weeks := List.mem_of_getElem? (i := 3) rfl
theorem mX10_weeks_4 : Cond.constantLong RX10 205 (1442695040888963407) ∈ wsX10_weeks := List.mem_of_getElem? (i := 4) rfl
theorem mX10_weeks_5 : Cond.constantLong RX10 195 (10) ∈ wsX10_weeks := List.mem_of_getElem? (i := 5) rfl
theorem mX10_weeks_6 : Cond.fieldLink RX10 19 "FlagWashModel" "now" "[I" ∈ wsX10_weeks := List.mem_of_getElem? (i := 6) rfl
theorem hd_X10_weeks : yX10_weeks.cls ≠ "java/lang/invoke/MethodHandle" ∧ yX10_weeks.cls ≠ "java/lang/invoke/VarHandle" ∧ (parseMethodDescriptor yX10_weeks.desc).map (fun d => d.parameters.length) = some 1 := by decide +kernel
set_option maxHeartbeats 4000000 in
set_option maxRecDepth 100000 in
theorem LX10_weeks_120 {p : Program} {l : Launch} {e : Env} {s : State} {m : MethodId} {args : Array Value} {below : List Frame} {meth : Method} {c : Code} {D : va_G} {cyI cyZ cyW : ClassId} {zW zO : Nat} {A : Nat → Prop} (C : Cx p s m args meth c cX10_weeks RX10 "weeks" wsX10_weeks (some .int) 5 D (tyA cyI cyZ cyW) zW zO A) {md : Nat → Nat} {mflags : Int32} {mtubs : Int32} {mpegs : Int32} {mcl : (Nat → Int32)} {mws : (Nat → Int32)} {mho : (Nat → Int32)} {mnow : (Nat → Int32)} {mrd : (Nat → Int32)} {mrh : (Nat → Int32)} {mrf : Int32} {mtx : (Nat → Int32)} {mlen : Int32} {mat : Int32} {mfa : Int32} {mac : Int32} {mnx : Int32} {mrow : (Nat → Int32)} {msn : Int32} {mso : (Nat → Int32)} {msc : (Nat → Int32)} {msw : (Nat → Int32)} {mseed : Int64} {mik : (Nat → Int32)} {mkp : (Nat → Int32)} {x1 : Int32} {x3 : Int32} {y0 : Bool} {y1 : Int32} {rec23 : Int32 → Int32 → (Nat → Int32) → Int64 → Option (Int32 × (Nat → Int32) × Int64)} {res : Int32 × (Nat → Int32) × Int64} (hrec23 : ∀ (x2 : Int32) (x3 : Int32) (mnow : (Nat → Int32)) (mseed : Int64), rec23 x2 x3 mnow mseed = some res → Mx p l e ({ frames := 4, cells := 0, slots := 0, locals := 95 } : Room) s m args below meth c (MQ below (QI D (tyA cyI cyZ cyW) A (wMO cyI cyZ cyW md mflags mtubs mpegs mcl mws mho res.2.1 mrd mrh mrf mtx mlen mat mfa mac mnx mrow msn mso msc msw res.2.2 mik mkp) res.1) args s 0 0 A) 5 D A 0 0 (wMO cyI cyZ cyW md mflags mtubs mpegs mcl mws mho mnow mrd mrh mrf mtx mlen mat mfa mac mnx mrow msn mso msc msw mseed mik mkp) 23 [(0, .ref (md 0)), (1, .int x1), (2, .int x2), (3, .int x3)] []) (h : fX10_weeks_120 rec23 x1 x3 y0 y1 mflags mtubs mpegs mcl mws mho mnow mseed = some res) : Mx p l e ({ frames := 4, cells := 0, slots := 0, locals := 95 } : Room) s m args below meth c (MQ below (QI D (tyA cyI cyZ cyW) A (wMO cyI cyZ cyW md mflags mtubs mpegs mcl mws mho res.2.1 mrd mrh mrf mtx mlen mat mfa mac mnx mrow msn mso msc msw res.2.2 mik mkp) res.1) args s 0 0 A) 5 D A 0 0 (wMO cyI cyZ cyW md mflags mtubs mpegs mcl mws mho mnow mrd mrh mrf mtx mlen mat mfa mac mnx mrow msn mso msc msw mseed mik mkp) 120 [(0, .ref (md 0)), (1, .int x1), (3, .int x3)] [.int (b2i y0), .int y1] := by
  unfold fX10_weeks_120 at h
  refine r_iadd C dX10_weeks_120 ?_
  refine r_istore_n (lv' := [(2, .int (y1 + (b2i y0))), (0, .ref (md 0)), (1, .int x1), (3, .int x3)]) C dX10_weeks_121 rfl (by decide) rfl ?_
  refine r_iinc (v := 1) (lv' := [(3, .int (x3 + (1 : Int32))), (2, .int (y1 + (b2i y0))), (0, .ref (md 0)), (1, .int x1)]) C dX10_weeks_122 3 rfl ic_1 (by decide) rfl ?_
  refine r_goto (tgt := 23) C dX10_weeks_125 (by decide) ?_
  refine r_lv (lv' := [(0, .ref (md 0)), (1, .int x1), (2, .int (y1 + (b2i y0))), (3, .int (x3 + (1 : Int32)))]) [2, 3, 1, 0] rfl ?_
  exact hrec23 (y1 + (b2i y0)) (x3 + (1 : Int32)) mnow mseed h
set_option maxHeartbeats 4000000 in
set_option maxRecDepth 100000 in
theorem LX10_weeks_101 {p : Program} {l : Launch} {e : Env} {s : State} {m : MethodId} {args : Array Value} {below : List Frame} {meth : Method} {c : Code} {D : va_G} {cyI cyZ cyW : ClassId} {zW zO : Nat} {A : Nat → Prop} (C : Cx p s m args meth c cX10_weeks RX10 "weeks" wsX10_weeks (some .int) 5 D (tyA cyI cyZ cyW) zW zO A) {md : Nat → Nat} {mflags : Int32} {mtubs : Int32} {mpegs : Int32} {mcl : (Nat → Int32)} {mws : (Nat → Int32)} {mho : (Nat → Int32)} {mnow : (Nat → Int32)} {mrd : (Nat → Int32)} {mrh : (Nat → Int32)} {mrf : Int32} {mtx : (Nat → Int32)} {mlen : Int32} {mat : Int32} {mfa : Int32} {mac : Int32} {mnx : Int32} {mrow : (Nat → Int32)} {msn : Int32} {mso : (Nat → Int32)} {msc : (Nat → Int32)} {msw : (Nat → Int32)} {mseed : Int64} {mik : (Nat → Int32)} {mkp : (Nat → Int32)} {x1 : Int32} {x2 : Int32} {x3 : Int32} {rec23 : Int32 → Int32 → (Nat → Int32) → Int64 → Option (Int32 × (Nat → Int32) × Int64)} {res : Int32 × (Nat → Int32) × Int64} (hrec23 : ∀ (x2 : Int32) (x3 : Int32) (mnow : (Nat → Int32)) (mseed : Int64), rec23 x2 x3 mnow mseed = some res → Mx p l e ({ frames := 4, cells := 0, slots := 0, locals := 95 } : Room) s m args below meth c (MQ below (QI D (tyA cyI cyZ cyW) A (wMO cyI cyZ cyW md mflags mtubs mpegs mcl mws mho res.2.1 mrd mrh mrf mtx mlen mat mfa mac mnx mrow msn mso msc msw res.2.2 mik mkp) res.1) args s 0 0 A) 5 D A 0 0 (wMO cyI cyZ cyW md mflags mtubs mpegs mcl mws mho mnow mrd mrh mrf mtx mlen mat mfa mac mnx mrow msn mso msc msw mseed mik mkp) 23 [(0, .ref (md 0)), (1, .int x1), (2, .int x2), (3, .int x3)] []) (h : fX10_weeks_101 rec23 x1 x2 x3 mflags mtubs mpegs mcl mws mho mnow mseed = some res) : Mx p l e ({ frames := 4, cells := 0, slots := 0, locals := 95 } : Room) s m args below meth c (MQ below (QI D (tyA cyI cyZ cyW) A (wMO cyI cyZ cyW md mflags mtubs mpegs mcl mws mho res.2.1 mrd mrh mrf mtx mlen mat mfa mac mnx mrow msn mso msc msw res.2.2 mik mkp) res.1) args s 0 0 A) 5 D A 0 0 (wMO cyI cyZ cyW md mflags mtubs mpegs mcl mws mho mnow mrd mrh mrf mtx mlen mat mfa mac mnx mrow msn mso msc msw mseed mik mkp) 101 [(0, .ref (md 0)), (1, .int x1), (2, .int x2), (3, .int x3)] [] := by
  unfold fX10_weeks_101 at h
  refine r_iload_n C dX10_weeks_101 2 rfl rfl ?_
  refine r_aload_n C dX10_weeks_102 0 rfl rfl ?_
  refine r_aload_n C dX10_weeks_103 0 rfl rfl ?_
  refine r_iconst (v := 1) C dX10_weeks_104 ic_1 ?_
  refine r_iconst (v := 0) C dX10_weeks_105 ic_0 ?_
  obtain ⟨u10, hu10, h⟩ := ob_bind h
  refine r_readVI (q0 := 0) (As := [.int (1 : Int32), .int (0 : Int32)]) (rest := [.ref (md 0), .int x2]) C (kX10_areIn (md := md) (mflags := mflags) (mtubs := mtubs) (mpegs := mpegs) (mcl := mcl) (mws := mws) (mho := mho) (mnow := mnow) (mrd := mrd) (mrh := mrh) (mrf := mrf) (mtx := mtx) (mlen := mlen) (mat := mat) (mfa := mfa) (mac := mac) (mnx := mnx) (mrow := mrow) (msn := msn) (mso := mso) (msc := msc) (msw := msw) (mseed := mseed) (mik := mik) (mkp := mkp) (x1 := (1 : Int32)) (x2 := (0 : Int32)) hu10) gX10_weeks_X10_areIn rfl rfl rfl ⟨rfl, hd_X10_areIn⟩ ⟨by decide, by decide⟩ rfl rfl rfl rfl [0, 1, 2, 3, 4, 5, 6, 7, 8, 9, 10, 11, 12, 13] (by decide) in_76 rfl (Nat.le_of_ble_eq_true rfl) dX10_weeks_106 ⟨Nat.zero_le _, Nat.zero_le _⟩ ?_
  obtain ⟨u11, hu11, h⟩ := ob_bind h
  refine r_readVI (q0 := 0) (As := [.int u10]) (rest := [.int x2]) C (kX10_fights (md := md) (mflags := mflags) (mtubs := mtubs) (mpegs := mpegs) (mcl := mcl) (mws := mws) (mho := mho) (mnow := mnow) (mrd := mrd) (mrh := mrh) (mrf := mrf) (mtx := mtx) (mlen := mlen) (mat := mat) (mfa := mfa) (mac := mac) (mnx := mnx) (mrow := mrow) (msn := msn) (mso := mso) (msc := msc) (msw := msw) (mseed := mseed) (mik := mik) (mkp := mkp) (x1 := u10) hu11) gX10_weeks_X10_fights rfl rfl rfl ⟨rfl, hd_X10_fights⟩ ⟨by decide, by decide⟩ rfl rfl rfl rfl [0, 1, 2, 3, 4, 5, 6, 7, 8, 9, 10, 11, 12, 13] (by decide) in_76 rfl (Nat.le_of_ble_eq_true rfl) dX10_weeks_109 ⟨Nat.zero_le _, Nat.zero_le _⟩ ?_
  refine r_if_le (tgt := 119) C dX10_weeks_112 (by decide) (fun c12 => ?_) (fun c12 => ?_)
  · replace h := ob_t h c12
    refine r_iconst (v := 0) C dX10_weeks_119 ic_0 ?_
    refine r_lv (lv' := [(0, .ref (md 0)), (1, .int x1), (3, .int x3)]) [0, 1, 3] rfl ?_
    exact LX10_weeks_120 C (x1 := x1) (x3 := x3) (y0 := false) (y1 := x2) (mflags := mflags) (mtubs := mtubs) (mpegs := mpegs) (mcl := mcl) (mws := mws) (mho := mho) (mnow := mnow) (mrd := mrd) (mrh := mrh) (mrf := mrf) (mtx := mtx) (mlen := mlen) (mat := mat) (mfa := mfa) (mac := mac) (mnx := mnx) (mrow := mrow) (msn := msn) (mso := mso) (msc := msc) (msw := msw) (mseed := mseed) (mik := mik) (mkp := mkp) hrec23 h
  · replace h := ob_f h c12
    refine r_iconst (v := 1) C dX10_weeks_115 ic_1 ?_
    refine r_goto (tgt := 120) C dX10_weeks_116 (by decide) ?_
    refine r_lv (lv' := [(0, .ref (md 0)), (1, .int x1), (3, .int x3)]) [0, 1, 3] rfl ?_
    exact LX10_weeks_120 C (x1 := x1) (x3 := x3) (y0 := true) (y1 := x2) (mflags := mflags) (mtubs := mtubs) (mpegs := mpegs) (mcl := mcl) (mws := mws) (mho := mho) (mnow := mnow) (mrd := mrd) (mrh := mrh) (mrf := mrf) (mtx := mtx) (mlen := mlen) (mat := mat) (mfa := mfa) (mac := mac) (mnx := mnx) (mrow := mrow) (msn := msn) (mso := mso) (msc := msc) (msw := msw) (mseed := mseed) (mik := mik) (mkp := mkp) hrec23 h
set_option maxHeartbeats 4000000 in
set_option maxRecDepth 100000 in
theorem LX10_weeks_58 {p : Program} {l : Launch} {e : Env} {s : State} {m : MethodId} {args : Array Value} {below : List Frame} {meth : Method} {c : Code} {D : va_G} {cyI cyZ cyW : ClassId} {zW zO : Nat} {A : Nat → Prop} (C : Cx p s m args meth c cX10_weeks RX10 "weeks" wsX10_weeks (some .int) 5 D (tyA cyI cyZ cyW) zW zO A) {md : Nat → Nat} {mflags : Int32} {mtubs : Int32} {mpegs : Int32} {mcl : (Nat → Int32)} {mws : (Nat → Int32)} {mho : (Nat → Int32)} {mnow : (Nat → Int32)} {mrd : (Nat → Int32)} {mrh : (Nat → Int32)} {mrf : Int32} {mtx : (Nat → Int32)} {mlen : Int32} {mat : Int32} {mfa : Int32} {mac : Int32} {mnx : Int32} {mrow : (Nat → Int32)} {msn : Int32} {mso : (Nat → Int32)} {msc : (Nat → Int32)} {msw : (Nat → Int32)} {mseed : Int64} {mik : (Nat → Int32)} {mkp : (Nat → Int32)} {x1 : Int32} {x2 : Int32} {x3 : Int32} {x4 : Int32} {rec23 : Int32 → Int32 → (Nat → Int32) → Int64 → Option (Int32 × (Nat → Int32) × Int64)} {res : Int32 × (Nat → Int32) × Int64} (hrec23 : ∀ (x2 : Int32) (x3 : Int32) (mnow : (Nat → Int32)) (mseed : Int64), rec23 x2 x3 mnow mseed = some res → Mx p l e ({ frames := 4, cells := 0, slots := 0, locals := 95 } : Room) s m args below meth c (MQ below (QI D (tyA cyI cyZ cyW) A (wMO cyI cyZ cyW md mflags mtubs mpegs mcl mws mho res.2.1 mrd mrh mrf mtx mlen mat mfa mac mnx mrow msn mso msc msw res.2.2 mik mkp) res.1) args s 0 0 A) 5 D A 0 0 (wMO cyI cyZ cyW md mflags mtubs mpegs mcl mws mho mnow mrd mrh mrf mtx mlen mat mfa mac mnx mrow msn mso msc msw mseed mik mkp) 23 [(0, .ref (md 0)), (1, .int x1), (2, .int x2), (3, .int x3)] []) (h : fX10_weeks_58 rec23 x1 x2 x3 x4 mflags mtubs mpegs mcl mws mho mnow mseed = some res) : Mx p l e ({ frames := 4, cells := 0, slots := 0, locals := 95 } : Room) s m args below meth c (MQ below (QI D (tyA cyI cyZ cyW) A (wMO cyI cyZ cyW md mflags mtubs mpegs mcl mws mho res.2.1 mrd mrh mrf mtx mlen mat mfa mac mnx mrow msn mso msc msw res.2.2 mik mkp) res.1) args s 0 0 A) 5 D A 0 0 (wMO cyI cyZ cyW md mflags mtubs mpegs mcl mws mho mnow mrd mrh mrf mtx mlen mat mfa mac mnx mrow msn mso msc msw mseed mik mkp) 58 [(0, .ref (md 0)), (1, .int x1), (2, .int x2), (3, .int x3), (4, .int x4)] [] := by
  unfold fX10_weeks_58 at h
  refine r_iload C dX10_weeks_58 4 rfl ?_
  refine r_iconst (v := 4) C dX10_weeks_60 ic_4 ?_
  refine r_icmp_le (tgt := 84) C dX10_weeks_61 (by decide) (fun c5 => ?_) (fun c5 => ?_)
  · replace h := ob_t h c5
    refine r_aload_n C dX10_weeks_84 0 rfl rfl ?_
    refine r_iconst (v := 1) C dX10_weeks_85 ic_1 ?_
    refine r_iload C dX10_weeks_86 4 rfl ?_
    obtain ⟨u6, hu6, h⟩ := ob_bind h
    refine r_readVI (q0 := 0) (As := [.int (1 : Int32), .int x4]) (rest := []) C (kX10_canSend (md := md) (mflags := mflags) (mtubs := mtubs) (mpegs := mpegs) (mcl := mcl) (mws := mws) (mho := mho) (mnow := mnow) (mrd := mrd) (mrh := mrh) (mrf := mrf) (mtx := mtx) (mlen := mlen) (mat := mat) (mfa := mfa) (mac := mac) (mnx := mnx) (mrow := mrow) (msn := msn) (mso := mso) (msc := msc) (msw := msw) (mseed := mseed) (mik := mik) (mkp := mkp) (x1 := (1 : Int32)) (x2 := x4) hu6) gX10_weeks_X10_canSend rfl rfl rfl ⟨rfl, hd_X10_canSend⟩ ⟨by decide, by decide⟩ rfl rfl rfl rfl [0, 1, 2, 3, 4, 5, 6, 7, 8, 9, 10, 11, 12, 13] (by decide) in_76 rfl (Nat.le_of_ble_eq_true rfl) dX10_weeks_88 ⟨Nat.zero_le _, Nat.zero_le _⟩ ?_
    refine r_ifb_eq (tgt := 101) C dX10_weeks_91 (by decide) (fun c7 => ?_) (fun c7 => ?_)
    · replace h := ob_bf h c7
      refine r_lv (lv' := [(0, .ref (md 0)), (1, .int x1), (2, .int x2), (3, .int x3)]) [0, 1, 2, 3] rfl ?_
      exact LX10_weeks_101 C (x1 := x1) (x2 := x2) (x3 := x3) (mflags := mflags) (mtubs := mtubs) (mpegs := mpegs) (mcl := mcl) (mws := mws) (mho := mho) (mnow := mnow) (mrd := mrd) (mrh := mrh) (mrf := mrf) (mtx := mtx) (mlen := mlen) (mat := mat) (mfa := mfa) (mac := mac) (mnx := mnx) (mrow := mrow) (msn := msn) (mso := mso) (msc := msc) (msw := msw) (mseed := mseed) (mik := mik) (mkp := mkp) hrec23 h
    · replace h := ob_t h c7
      refine r_aload_n C dX10_weeks_94 0 rfl rfl ?_
      refine r_iconst (v := 1) C dX10_weeks_95 ic_1 ?_
      refine r_iload C dX10_weeks_96 4 rfl ?_
      obtain ⟨u8, hu8, h⟩ := ob_bind h
      refine r_callVV (q0 := 0) (As := [.int (1 : Int32), .int x4]) (rest := []) (ws1 := (wMO cyI cyZ cyW md mflags mtubs mpegs mcl mws mho u8 mrd mrh mrf mtx mlen mat mfa mac mnx mrow msn mso msc msw mseed mik mkp)) C (kX10_sendOn (md := md) (mflags := mflags) (mtubs := mtubs) (mpegs := mpegs) (mcl := mcl) (mws := mws) (mho := mho) (mnow := mnow) (mrd := mrd) (mrh := mrh) (mrf := mrf) (mtx := mtx) (mlen := mlen) (mat := mat) (mfa := mfa) (mac := mac) (mnx := mnx) (mrow := mrow) (msn := msn) (mso := mso) (msc := msc) (msw := msw) (mseed := mseed) (mik := mik) (mkp := mkp) (x1 := (1 : Int32)) (x2 := x4) hu8) gX10_weeks_X10_sendOn rfl rfl rfl ⟨rfl, hd_X10_sendOn⟩ ⟨by decide, by decide⟩ rfl rfl rfl rfl [0, 1, 2, 3, 4, 5, 6, 7, 8, 9, 10, 11, 12, 13] (by decide) in_79 se_79 (adrMO.trans adrMO.symm) rfl (Nat.le_of_ble_eq_true rfl) dX10_weeks_98 ⟨Nat.zero_le _, Nat.zero_le _⟩ ?_
      refine r_lv (lv' := [(0, .ref (md 0)), (1, .int x1), (2, .int x2), (3, .int x3)]) [0, 1, 2, 3] rfl ?_
      exact LX10_weeks_101 C (x1 := x1) (x2 := x2) (x3 := x3) (mflags := mflags) (mtubs := mtubs) (mpegs := mpegs) (mcl := mcl) (mws := mws) (mho := mho) (mnow := u8) (mrd := mrd) (mrh := mrh) (mrf := mrf) (mtx := mtx) (mlen := mlen) (mat := mat) (mfa := mfa) (mac := mac) (mnx := mnx) (mrow := mrow) (msn := msn) (mso := mso) (msc := msc) (msw := msw) (mseed := mseed) (mik := mik) (mkp := mkp) hrec23 h
  · replace h := ob_f h c5
    refine r_aload_n C dX10_weeks_64 0 rfl rfl ?_
    refine r_get (ci := 7) (CC := RX10) (T := TX10) (N := 24) (v := .ref (md 4)) C hinX10_weeks_X10 0 rfl rfl 6 (by decide) mX10_weeks_6 rfl rfl dX10_weeks_65 ?_
    refine r_bipush (v := 32) C dX10_weeks_68 bp_32 ?_
    refine r_iload C dX10_weeks_70 4 rfl ?_
    refine r_iconst (v := 3) C dX10_weeks_72 ic_3 ?_
    refine r_irem C dX10_weeks_73 (by decide) ?_
    refine r_iast (ws1 := (wMO cyI cyZ cyW md mflags mtubs mpegs mcl mws mho (upd mnow (32 : Int32).toNatClampNeg (jrem x4 (3 : Int32))) mrd mrh mrf mtx mlen mat mfa mac mnx mrow msn mso msc msw mseed mik mkp)) C 4 0 rfl rfl (inb_vp (by decide)) rfl dX10_weeks_74 ?_
    refine r_aload_n C dX10_weeks_75 0 rfl rfl ?_
    refine r_iconst (v := 1) C dX10_weeks_76 ic_1 ?_
    obtain ⟨u9, hu9, h⟩ := ob_bind h
    refine r_callVI (q0 := 0) (As := [.int (1 : Int32)]) (rest := []) (ws1 := (wMO cyI cyZ cyW md mflags mtubs mpegs mcl mws mho u9.2 mrd mrh mrf mtx mlen mat mfa mac mnx mrow msn mso msc msw mseed mik mkp)) C (kX10_passOn (md := md) (mflags := mflags) (mtubs := mtubs) (mpegs := mpegs) (mcl := mcl) (mws := mws) (mho := mho) (mnow := (upd mnow (32 : Int32).toNatClampNeg (jrem x4 (3 : Int32)))) (mrd := mrd) (mrh := mrh) (mrf := mrf) (mtx := mtx) (mlen := mlen) (mat := mat) (mfa := mfa) (mac := mac) (mnx := mnx) (mrow := mrow) (msn := msn) (mso := mso) (msc := msc) (msw := msw) (mseed := mseed) (mik := mik) (mkp := mkp) (x1 := (1 : Int32)) hu9) gX10_weeks_X10_passOn rfl rfl rfl ⟨rfl, hd_X10_passOn⟩ ⟨by decide, by decide⟩ rfl rfl rfl rfl [0, 1, 2, 3, 4, 5, 6, 7, 8, 9, 10, 11, 12, 13] (by decide) in_79 se_79 (adrMO.trans adrMO.symm) rfl (Nat.le_of_ble_eq_true rfl) dX10_weeks_77 ⟨Nat.zero_le _, Nat.zero_le _⟩ ?_
    refine r_pop C dX10_weeks_80 rfl ?_
    refine r_goto (tgt := 101) C dX10_weeks_81 (by decide) ?_
    refine r_lv (lv' := [(0, .ref (md 0)), (1, .int x1), (2, .int x2), (3, .int x3)]) [0, 1, 2, 3] rfl ?_
    exact LX10_weeks_101 C (x1 := x1) (x2 := x2) (x3 := x3) (mflags := mflags) (mtubs := mtubs) (mpegs := mpegs) (mcl := mcl) (mws := mws) (mho := mho) (mnow := u9.2) (mrd := mrd) (mrh := mrh) (mrf := mrf) (mtx := mtx) (mlen := mlen) (mat := mat) (mfa := mfa) (mac := mac) (mnx := mnx) (mrow := mrow) (msn := msn) (mso := mso) (msc := msc) (msw := msw) (mseed := mseed) (mik := mik) (mkp := mkp) hrec23 h
set_option maxHeartbeats 4000000 in
set_option maxRecDepth 100000 in
theorem LGX10_weeks_23 {p : Program} {l : Launch} {e : Env} {s : State} {m : MethodId} {args : Array Value} {below : List Frame} {meth : Method} {c : Code} {D : va_G} {cyI cyZ cyW : ClassId} {zW zO : Nat} {A : Nat → Prop} (C : Cx p s m args meth c cX10_weeks RX10 "weeks" wsX10_weeks (some .int) 5 D (tyA cyI cyZ cyW) zW zO A) {md : Nat → Nat} {mflags : Int32} {mtubs : Int32} {mpegs : Int32} {mcl : (Nat → Int32)} {mws : (Nat → Int32)} {mho : (Nat → Int32)} {mnow : (Nat → Int32)} {mrd : (Nat → Int32)} {mrh : (Nat → Int32)} {mrf : Int32} {mtx : (Nat → Int32)} {mlen : Int32} {mat : Int32} {mfa : Int32} {mac : Int32} {mnx : Int32} {mrow : (Nat → Int32)} {msn : Int32} {mso : (Nat → Int32)} {msc : (Nat → Int32)} {msw : (Nat → Int32)} {mseed : Int64} {mik : (Nat → Int32)} {mkp : (Nat → Int32)} {x1 : Int32} {x2 : Int32} {x3 : Int32} {rec23 : Int32 → Int32 → (Nat → Int32) → Int64 → Option (Int32 × (Nat → Int32) × Int64)} {res : Int32 × (Nat → Int32) × Int64} (hrec23 : ∀ (x2 : Int32) (x3 : Int32) (mnow : (Nat → Int32)) (mseed : Int64), rec23 x2 x3 mnow mseed = some res → Mx p l e ({ frames := 4, cells := 0, slots := 0, locals := 95 } : Room) s m args below meth c (MQ below (QI D (tyA cyI cyZ cyW) A (wMO cyI cyZ cyW md mflags mtubs mpegs mcl mws mho res.2.1 mrd mrh mrf mtx mlen mat mfa mac mnx mrow msn mso msc msw res.2.2 mik mkp) res.1) args s 0 0 A) 5 D A 0 0 (wMO cyI cyZ cyW md mflags mtubs mpegs mcl mws mho mnow mrd mrh mrf mtx mlen mat mfa mac mnx mrow msn mso msc msw mseed mik mkp) 23 [(0, .ref (md 0)), (1, .int x1), (2, .int x2), (3, .int x3)] []) (h : gX10_weeks_23 rec23 x1 x2 x3 mflags mtubs mpegs mcl mws mho mnow mseed = some res) : Mx p l e ({ frames := 4, cells := 0, slots := 0, locals := 95 } : Room) s m args below meth c (MQ below (QI D (tyA cyI cyZ cyW) A (wMO cyI cyZ cyW md mflags mtubs mpegs mcl mws mho res.2.1 mrd mrh mrf mtx mlen mat mfa mac mnx mrow msn mso msc msw res.2.2 mik mkp) res.1) args s 0 0 A) 5 D A 0 0 (wMO cyI cyZ cyW md mflags mtubs mpegs mcl mws mho mnow mrd mrh mrf mtx mlen mat mfa mac mnx mrow msn mso msc msw mseed mik mkp) 23 [(0, .ref (md 0)), (1, .int x1), (2, .int x2), (3, .int x3)] [] := by
  unfold gX10_weeks_23 at h
  refine r_iload_n C dX10_weeks_23 3 rfl rfl ?_
  refine r_iload_n C dX10_weeks_24 1 rfl rfl ?_
  refine r_icmp_ge (tgt := 128) C dX10_weeks_25 (by decide) (fun c4 => ?_) (fun c4 => ?_)
  · replace h := ob_t h c4
    refine r_iload_n C dX10_weeks_128 2 rfl rfl ?_
    have h9 := Option.some.inj h
    subst h9
    exact r_iret C rfl dX10_weeks_129
  · replace h := ob_f h c4
    refine r_aload_n C dX10_weeks_28 0 rfl rfl ?_
    refine r_aload_n C dX10_weeks_29 0 rfl rfl ?_
    refine r_get (ci := 7) (CC := RX10) (T := TX10) (N := 24) (v := .long mseed) C hinX10_weeks_X10 0 rfl rfl 21 (by decide) mX10_weeks_2 rfl rfl dX10_weeks_30 ?_
    refine r_ldc2 (v := 6364136223846793005) C mX10_weeks_3 dX10_weeks_33 ?_
    refine r_lmul C dX10_weeks_36 ?_
    refine r_ldc2 (v := 1442695040888963407) C mX10_weeks_4 dX10_weeks_37 ?_
    refine r_ladd C dX10_weeks_40 ?_
    refine r_put (ci := 7) (CC := RX10) (T := TX10) (N := 24) (v := .long ((mseed * (6364136223846793005 : Int64)) + (1442695040888963407 : Int64))) (ws1 := (wMO cyI cyZ cyW md mflags mtubs mpegs mcl mws mho mnow mrd mrh mrf mtx mlen mat mfa mac mnx mrow msn mso msc msw ((mseed * (6364136223846793005 : Int64)) + (1442695040888963407 : Int64)) mik mkp)) (ty := .long) C hinX10_weeks_X10 tyX10 tyX10_ok nmX10 0 rfl rfl 21 (by decide) mX10_weeks_2 rfl rfl rfl rfl rfl (Nat.le_of_ble_eq_true rfl) rfl dX10_weeks_41 ?_
    refine r_aload_n C dX10_weeks_44 0 rfl rfl ?_
    refine r_get (ci := 7) (CC := RX10) (T := TX10) (N := 24) (v := .long ((mseed * (6364136223846793005 : Int64)) + (1442695040888963407 : Int64))) C hinX10_weeks_X10 0 rfl rfl 21 (by decide) mX10_weeks_2 rfl rfl dX10_weeks_45 ?_
    refine r_bipush (v := 33) C dX10_weeks_48 bp_33 ?_
    refine r_lushr C dX10_weeks_50 ?_
    refine r_ldc2 (v := 10) C mX10_weeks_5 dX10_weeks_51 ?_
    refine r_lrem C dX10_weeks_54 (by decide) ?_
    refine r_l2i C dX10_weeks_55 ?_
    refine r_istore (lv' := [(4, .int (jremL (((mseed * (6364136223846793005 : Int64)) + (1442695040888963407 : Int64)).toUInt64 >>> ((33 : Int32).toInt64.toUInt64 &&& Int64.toUInt64 63)).toInt64 (10 : Int64)).toInt32), (0, .ref (md 0)), (1, .int x1), (2, .int x2), (3, .int x3)]) C dX10_weeks_56 (by decide) rfl ?_
    refine r_lv (lv' := [(0, .ref (md 0)), (1, .int x1), (2, .int x2), (3, .int x3), (4, .int (jremL (((mseed * (6364136223846793005 : Int64)) + (1442695040888963407 : Int64)).toUInt64 >>> ((33 : Int32).toInt64.toUInt64 &&& Int64.toUInt64 63)).toInt64 (10 : Int64)).toInt32)]) [1, 2, 3, 4, 0] rfl ?_
    exact LX10_weeks_58 C (x1 := x1) (x2 := x2) (x3 := x3) (x4 := (jremL (((mseed * (6364136223846793005 : Int64)) + (1442695040888963407 : Int64)).toUInt64 >>> ((33 : Int32).toInt64.toUInt64 &&& Int64.toUInt64 63)).toInt64 (10 : Int64)).toInt32) (mflags := mflags) (mtubs := mtubs) (mpegs := mpegs) (mcl := mcl) (mws := mws) (mho := mho) (mnow := mnow) (mrd := mrd) (mrh := mrh) (mrf := mrf) (mtx := mtx) (mlen := mlen) (mat := mat) (mfa := mfa) (mac := mac) (mnx := mnx) (mrow := mrow) (msn := msn) (mso := mso) (msc := msc) (msw := msw) (mseed := ((mseed * (6364136223846793005 : Int64)) + (1442695040888963407 : Int64))) (mik := mik) (mkp := mkp) hrec23 h
set_option maxHeartbeats 4000000 in
set_option maxRecDepth 100000 in
theorem LX10_weeks_23 {p : Program} {l : Launch} {e : Env} {s : State} {m : MethodId} {args : Array Value} {below : List Frame} {meth : Method} {c : Code} {D : va_G} {cyI cyZ cyW : ClassId} {zW zO : Nat} {A : Nat → Prop} (C : Cx p s m args meth c cX10_weeks RX10 "weeks" wsX10_weeks (some .int) 5 D (tyA cyI cyZ cyW) zW zO A) {md : Nat → Nat} {x1 : Int32} {mflags : Int32} {mtubs : Int32} {mpegs : Int32} {mcl : (Nat → Int32)} {mws : (Nat → Int32)} {mho : (Nat → Int32)} {mrd : (Nat → Int32)} {mrh : (Nat → Int32)} {mrf : Int32} {mtx : (Nat → Int32)} {mlen : Int32} {mat : Int32} {mfa : Int32} {mac : Int32} {mnx : Int32} {mrow : (Nat → Int32)} {msn : Int32} {mso : (Nat → Int32)} {msc : (Nat → Int32)} {msw : (Nat → Int32)} {mik : (Nat → Int32)} {mkp : (Nat → Int32)}  {res : Int32 × (Nat → Int32) × Int64}  : ∀ (n : Nat) (x2 : Int32) (x3 : Int32) (mnow : (Nat → Int32)) (mseed : Int64), fX10_weeks_23  x1 mflags mtubs mpegs mcl mws mho n x2 x3 mnow mseed = some res → Mx p l e ({ frames := 4, cells := 0, slots := 0, locals := 95 } : Room) s m args below meth c (MQ below (QI D (tyA cyI cyZ cyW) A (wMO cyI cyZ cyW md mflags mtubs mpegs mcl mws mho res.2.1 mrd mrh mrf mtx mlen mat mfa mac mnx mrow msn mso msc msw res.2.2 mik mkp) res.1) args s 0 0 A) 5 D A 0 0 (wMO cyI cyZ cyW md mflags mtubs mpegs mcl mws mho mnow mrd mrh mrf mtx mlen mat mfa mac mnx mrow msn mso msc msw mseed mik mkp) 23 [(0, .ref (md 0)), (1, .int x1), (2, .int x2), (3, .int x3)] [] := by
  intro n
  induction n with
  | zero => intro x2 x3 mnow mseed h; cases h
  | succ n ih => intro x2 x3 mnow mseed h; exact LGX10_weeks_23 C ih h
set_option maxHeartbeats 4000000 in
set_option maxRecDepth 100000 in
theorem kX10_weeks {l : Launch} {D : va_G} {cyI cyZ cyW : ClassId} {zW zO : Nat} {md : Nat → Nat} {mflags : Int32} {mtubs : Int32} {mpegs : Int32} {mcl : (Nat → Int32)} {mws : (Nat → Int32)} {mho : (Nat → Int32)} {mnow : (Nat → Int32)} {mrd : (Nat → Int32)} {mrh : (Nat → Int32)} {mrf : Int32} {mtx : (Nat → Int32)} {mlen : Int32} {mat : Int32} {mfa : Int32} {mac : Int32} {mnx : Int32} {mrow : (Nat → Int32)} {msn : Int32} {mso : (Nat → Int32)} {msc : (Nat → Int32)} {msw : (Nat → Int32)} {mseed : Int64} {mik : (Nat → Int32)} {mkp : (Nat → Int32)} {x1 : Int32} {res : Int32 × (Nat → Int32) × Int64} (h : fX10_weeks x1 mflags mtubs mpegs mcl mws mho mnow mseed = some res) : KI l yX10_weeks wsX10_weeks ({ frames := 4, cells := 0, slots := 0, locals := 95 } : Room) D (tyA cyI cyZ cyW) zW zO [.ref (md 0), .int x1] (wMO cyI cyZ cyW md mflags mtubs mpegs mcl mws mho mnow mrd mrh mrf mtx mlen mat mfa mac mnx mrow msn mso msc msw mseed mik mkp) (wMO cyI cyZ cyW md mflags mtubs mpegs mcl mws mho res.2.1 mrd mrh mrf mtx mlen mat mfa mac mnx mrow msn mso msc msw res.2.2 mik mkp) res.1 := by
  refine enterI (cc := cX10_weeks) (nL := 5) (ret := (some .int)) (by decide) rfl (Nat.le_of_ble_eq_true rfl) (fun p e s m below meth c A C => ?_)
  refine r_lv (lv' := [(0, .ref (md 0)), (1, .int x1)]) [0, 1] rfl ?_
  unfold fX10_weeks at h
  refine r_iload_n C dX10_weeks_0 1 rfl rfl ?_
  refine r_i2l C dX10_weeks_1 ?_
  refine r_lconst (v := 1) C dX10_weeks_2 lc_1 ?_
  refine r_ldc2 (v := 30) C mX10_weeks_1 dX10_weeks_3 ?_
  obtain ⟨u1, hu1, h⟩ := ob_bind h
  refine r_readSI (As := [.long x1.toInt64, .long (1 : Int64), .long (30 : Int64)]) (rest := []) C (kX10_in   (x0 := x1.toInt64) (x2 := (1 : Int64)) (x4 := (30 : Int64)) hu1) gX10_weeks_X10_in rfl rfl rfl hd_X10_in ⟨by decide, by decide⟩ rfl [] (by decide) rfl rfl (Nat.le_of_ble_eq_true rfl) dX10_weeks_6 ⟨Nat.zero_le _, Nat.zero_le _⟩ ?_
  refine r_ifb_ne (tgt := 15) C dX10_weeks_9 (by decide) (fun c2 => ?_) (fun c2 => ?_)
  · replace h := ob_t h c2
    refine r_aload_n C dX10_weeks_15 0 rfl rfl ?_
    obtain ⟨u3, hu3, h⟩ := ob_bind h
    refine r_callVV (q0 := 0) (As := []) (rest := []) (ws1 := (wMO cyI cyZ cyW md mflags mtubs mpegs mcl mws mho u3 mrd mrh mrf mtx mlen mat mfa mac mnx mrow msn mso msc msw mseed mik mkp)) C (kX10_layTrial (md := md) (mflags := mflags) (mtubs := mtubs) (mpegs := mpegs) (mcl := mcl) (mws := mws) (mho := mho) (mnow := mnow) (mrd := mrd) (mrh := mrh) (mrf := mrf) (mtx := mtx) (mlen := mlen) (mat := mat) (mfa := mfa) (mac := mac) (mnx := mnx) (mrow := mrow) (msn := msn) (mso := mso) (msc := msc) (msw := msw) (mseed := mseed) (mik := mik) (mkp := mkp)  hu3) gX10_weeks_X10_layTrial rfl rfl rfl ⟨rfl, hd_X10_layTrial⟩ ⟨by decide, by decide⟩ rfl rfl rfl rfl [0, 1, 2, 3, 4, 5, 6, 7, 8, 9, 10, 11, 12, 13] (by decide) in_79 se_79 (adrMO.trans adrMO.symm) rfl (Nat.le_of_ble_eq_true rfl) dX10_weeks_16 ⟨Nat.zero_le _, Nat.zero_le _⟩ ?_
    refine r_iconst (v := 0) C dX10_weeks_19 ic_0 ?_
    refine r_istore_n (lv' := [(2, .int (0 : Int32)), (0, .ref (md 0)), (1, .int x1)]) C dX10_weeks_20 rfl (by decide) rfl ?_
    refine r_iconst (v := 0) C dX10_weeks_21 ic_0 ?_
    refine r_istore_n (lv' := [(3, .int (0 : Int32)), (2, .int (0 : Int32)), (0, .ref (md 0)), (1, .int x1)]) C dX10_weeks_22 rfl (by decide) rfl ?_
    refine r_lv (lv' := [(0, .ref (md 0)), (1, .int x1), (2, .int (0 : Int32)), (3, .int (0 : Int32))]) [2, 3, 1, 0] rfl ?_
    exact LX10_weeks_23 C (x1 := x1) (mflags := mflags) (mtubs := mtubs) (mpegs := mpegs) (mcl := mcl) (mws := mws) (mho := mho) (mrd := mrd) (mrh := mrh) (mrf := mrf) (mtx := mtx) (mlen := mlen) (mat := mat) (mfa := mfa) (mac := mac) (mnx := mnx) (mrow := mrow) (msn := msn) (mso := mso) (msc := msc) (msw := msw) (mik := mik) (mkp := mkp)  FU (0 : Int32) (0 : Int32) u3 mseed h
  · replace h := ob_bf h c2
    refine r_bipush (v := -2) C dX10_weeks_12 bp_m2 ?_
    have h9 := Option.some.inj h
    subst h9
    exact r_iret C rfl dX10_weeks_14

/-! ===== FlagWashModel.keep ===== -/
def gX10_keep_21 (rec21 : Int32 → (Nat → Int32) → Option (Int32 × (Nat → Int32) × (Nat → Int32))) (x1 : Int32) (x2 : Int32) (mnow : (Nat → Int32)) (mik : (Nat → Int32)) (mkp : (Nat → Int32)) : Option (Int32 × (Nat → Int32) × (Nat → Int32)) :=
 (if (17 : Int32) ≤ x2 then (some ((mnow (16 : Int32).toNatClampNeg), mik, mkp))
 else (if inb x2 34 = true then (if inb (((17 : Int32) * x1) + x2) 34 = true then (rec21 (x2 + (1 : Int32)) (upd mkp (((17 : Int32) * x1) + x2).toNatClampNeg (mnow x2.toNatClampNeg))) else none) else none))
def fX10_keep_21  (x1 : Int32) (mnow : (Nat → Int32)) (mik : (Nat → Int32)) : Nat → Int32 → (Nat → Int32) → Option (Int32 × (Nat → Int32) × (Nat → Int32))
  | 0 => fun _ _ => none
  | n + 1 => fun x2 mkp => gX10_keep_21 (fX10_keep_21  x1 mnow mik n) x1 x2 mnow mik mkp
def fX10_keep  (x1 : Int32) (mnow : (Nat → Int32)) (mik : (Nat → Int32)) (mkp : (Nat → Int32)) : Option (Int32 × (Nat → Int32) × (Nat → Int32)) :=
 ((fX10_in x1.toInt64 (0 : Int64) (1 : Int64)).bind fun u1 => (if u1 = true then (if inb x1 2 = true then (fX10_keep_21  x1 mnow (upd mik x1.toNatClampNeg (1 : Int32)) FU (0 : Int32) mkp) else none)
 else (some ((-1 : Int32), mik, mkp))))
theorem hinX10_keep_X10 : ∀ w ∈ u_ws RX10 TX10 24, w ∈ wsX10_keep := fun w h => List.mem_cons_of_mem _ (List.mem_append_right _ h)
theorem mX10_keep_1 : Cond.fieldLink RX10 43 "FlagWashModel" "isKept" "[Z" ∈ wsX10_keep := List.mem_of_getElem? (i := 1) rfl
theorem mX10_keep_3 : Cond.fieldLink RX10 19 "FlagWashModel" "now" "[I" ∈ wsX10_keep := List.mem_of_getElem? (i := 3) rfl
theorem mX10_keep_2 : Cond.fieldLink RX10 47 "FlagWashModel" "kept" "[I" ∈ wsX10_keep := List.mem_of_getElem? (i := 2) rfl
theorem hd_X10_keep : yX10_keep.cls ≠ "java/lang/invoke/MethodHandle" ∧ yX10_keep.cls ≠ "java/lang/invoke/VarHandle" ∧ (parseMethodDescriptor yX10_keep.desc).map (fun d => d.parameters.length) = some 1 := by decide +kernel
set_option maxHeartbeats 4000000 in
set_option maxRecDepth 100000 in
theorem LGX10_keep_21 {p : Program} {l : Launch} {e : Env} {s : State} {m : MethodId} {args : Array Value} {below : List Frame} {meth : Method} {c : Code} {D : va_G} {cyI cyZ cyW : ClassId} {zW zO : Nat} {A : Nat → Prop} (C : Cx p s m args meth c cX10_keep RX10 "keep" wsX10_keep (some .int) 3 D (tyA cyI cyZ cyW) zW zO A) {md : Nat → Nat} {mflags : Int32} {mtubs : Int32} {mpegs : Int32} {mcl : (Nat → Int32)} {mws : (Nat → Int32)} {mho : (Nat → Int32)} {mnow : (Nat → Int32)} {mrd : (Nat → Int32)} {mrh : (Nat → Int32)} {mrf : Int32} {mtx : (Nat → Int32)} {mlen : Int32} {mat : Int32} {mfa : Int32} {mac : Int32} {mnx : Int32} {mrow : (Nat → Int32)} {msn : Int32} {mso : (Nat → Int32)} {msc : (Nat → Int32)} {msw : (Nat → Int32)} {mseed : Int64} {mik : (Nat → Int32)} {mkp : (Nat → Int32)} {x1 : Int32} {x2 : Int32} {rec21 : Int32 → (Nat → Int32) → Option (Int32 × (Nat → Int32) × (Nat → Int32))} {res : Int32 × (Nat → Int32) × (Nat → Int32)} (hrec21 : ∀ (x2 : Int32) (mkp : (Nat → Int32)), rec21 x2 mkp = some res → Mx p l e ({ frames := 1, cells := 0, slots := 0, locals := 25 } : Room) s m args below meth c (MQ below (QI D (tyA cyI cyZ cyW) A (wMO cyI cyZ cyW md mflags mtubs mpegs mcl mws mho mnow mrd mrh mrf mtx mlen mat mfa mac mnx mrow msn mso msc msw mseed res.2.1 res.2.2) res.1) args s 0 0 A) 3 D A 0 0 (wMO cyI cyZ cyW md mflags mtubs mpegs mcl mws mho mnow mrd mrh mrf mtx mlen mat mfa mac mnx mrow msn mso msc msw mseed mik mkp) 21 [(0, .ref (md 0)), (1, .int x1), (2, .int x2)] []) (h : gX10_keep_21 rec21 x1 x2 mnow mik mkp = some res) : Mx p l e ({ frames := 1, cells := 0, slots := 0, locals := 25 } : Room) s m args below meth c (MQ below (QI D (tyA cyI cyZ cyW) A (wMO cyI cyZ cyW md mflags mtubs mpegs mcl mws mho mnow mrd mrh mrf mtx mlen mat mfa mac mnx mrow msn mso msc msw mseed res.2.1 res.2.2) res.1) args s 0 0 A) 3 D A 0 0 (wMO cyI cyZ cyW md mflags mtubs mpegs mcl mws mho mnow mrd mrh mrf mtx mlen mat mfa mac mnx mrow msn mso msc msw mseed mik mkp) 21 [(0, .ref (md 0)), (1, .int x1), (2, .int x2)] [] := by
  unfold gX10_keep_21 at h
  refine r_iload_n C dX10_keep_21 2 rfl rfl ?_
  refine r_bipush (v := 17) C dX10_keep_22 bp_17 ?_
  refine r_icmp_ge (tgt := 50) C dX10_keep_24 (by decide) (fun c4 => ?_) (fun c4 => ?_)
  · replace h := ob_t h c4
    refine r_aload_n C dX10_keep_50 0 rfl rfl ?_
    refine r_get (ci := 7) (CC := RX10) (T := TX10) (N := 24) (v := .ref (md 4)) C hinX10_keep_X10 0 rfl rfl 6 (by decide) mX10_keep_3 rfl rfl dX10_keep_51 ?_
    refine r_bipush (v := 16) C dX10_keep_54 bp_16 ?_
    refine r_iald C 4 0 rfl rfl (inb_vp (by decide)) dX10_keep_56 ?_
    have h9 := Option.some.inj h
    subst h9
    exact r_iret C rfl dX10_keep_57
  · replace h := ob_f h c4
    refine r_aload_n C dX10_keep_27 0 rfl rfl ?_
    refine r_get (ci := 7) (CC := RX10) (T := TX10) (N := 24) (v := .ref (md 13)) C hinX10_keep_X10 0 rfl rfl 23 (by decide) mX10_keep_2 rfl rfl dX10_keep_28 ?_
    refine r_bipush (v := 17) C dX10_keep_31 bp_17 ?_
    refine r_iload_n C dX10_keep_33 1 rfl rfl ?_
    refine r_imul C dX10_keep_34 ?_
    refine r_iload_n C dX10_keep_35 2 rfl rfl ?_
    refine r_iadd C dX10_keep_36 ?_
    refine r_aload_n C dX10_keep_37 0 rfl rfl ?_
    refine r_get (ci := 7) (CC := RX10) (T := TX10) (N := 24) (v := .ref (md 4)) C hinX10_keep_X10 0 rfl rfl 6 (by decide) mX10_keep_3 rfl rfl dX10_keep_38 ?_
    refine r_iload_n C dX10_keep_41 2 rfl rfl ?_
    obtain ⟨hu5, h⟩ := ob_if h
    refine r_iald C 4 0 rfl rfl (inb_vp hu5) dX10_keep_42 ?_
    obtain ⟨hu6, h⟩ := ob_if h
    refine r_iast (ws1 := (wMO cyI cyZ cyW md mflags mtubs mpegs mcl mws mho mnow mrd mrh mrf mtx mlen mat mfa mac mnx mrow msn mso msc msw mseed mik (upd mkp (((17 : Int32) * x1) + x2).toNatClampNeg (mnow x2.toNatClampNeg)))) C 13 0 rfl rfl (inb_vp hu6) rfl dX10_keep_43 ?_
    refine r_iinc (v := 1) (lv' := [(2, .int (x2 + (1 : Int32))), (0, .ref (md 0)), (1, .int x1)]) C dX10_keep_44 2 rfl ic_1 (by decide) rfl ?_
    refine r_goto (tgt := 21) C dX10_keep_47 (by decide) ?_
    refine r_lv (lv' := [(0, .ref (md 0)), (1, .int x1), (2, .int (x2 + (1 : Int32)))]) [1, 2, 0] rfl ?_
    exact hrec21 (x2 + (1 : Int32)) (upd mkp (((17 : Int32) * x1) + x2).toNatClampNeg (mnow x2.toNatClampNeg)) h
set_option maxHeartbeats 4000000 in
set_option maxRecDepth 100000 in
theorem LX10_keep_21 {p : Program} {l : Launch} {e : Env} {s : State} {m : MethodId} {args : Array Value} {below : List Frame} {meth : Method} {c : Code} {D : va_G} {cyI cyZ cyW : ClassId} {zW zO : Nat} {A : Nat → Prop} (C : Cx p s m args meth c cX10_keep RX10 "keep" wsX10_keep (some .int) 3 D (tyA cyI cyZ cyW) zW zO A) {md : Nat → Nat} {x1 : Int32} {mflags : Int32} {mtubs : Int32} {mpegs : Int32} {mcl : (Nat → Int32)} {mws : (Nat → Int32)} {mho : (Nat → Int32)} {mnow : (Nat → Int32)} {mrd : (Nat → Int32)} {mrh : (Nat → Int32)} {mrf : Int32} {mtx : (Nat → Int32)} {mlen : Int32} {mat : Int32} {mfa : Int32} {mac : Int32} {mnx : Int32} {mrow : (Nat → Int32)} {msn : Int32} {mso : (Nat → Int32)} {msc : (Nat → Int32)} {msw : (Nat → Int32)} {mseed : Int64} {mik : (Nat → Int32)}  {res : Int32 × (Nat → Int32) × (Nat → Int32)}  : ∀ (n : Nat) (x2 : Int32) (mkp : (Nat → Int32)), fX10_keep_21  x1 mnow mik n x2 mkp = some res → Mx p l e ({ frames := 1, cells := 0, slots := 0, locals := 25 } : Room) s m args below meth c (MQ below (QI D (tyA cyI cyZ cyW) A (wMO cyI cyZ cyW md mflags mtubs mpegs mcl mws mho mnow mrd mrh mrf mtx mlen mat mfa mac mnx mrow msn mso msc msw mseed res.2.1 res.2.2) res.1) args s 0 0 A) 3 D A 0 0 (wMO cyI cyZ cyW md mflags mtubs mpegs mcl mws mho mnow mrd mrh mrf mtx mlen mat mfa mac mnx mrow msn mso msc msw mseed mik mkp) 21 [(0, .ref (md 0)), (1, .int x1), (2, .int x2)] [] := by
  intro n
  induction n with
  | zero => intro x2 mkp h; cases h
  | succ n ih => intro x2 mkp h; exact LGX10_keep_21 C ih h
set_option maxHeartbeats 4000000 in
set_option maxRecDepth 100000 in
theorem kX10_keep {l : Launch} {D : va_G} {cyI cyZ cyW : ClassId} {zW zO : Nat} {md : Nat → Nat} {mflags : Int32} {mtubs : Int32} {mpegs : Int32} {mcl : (Nat → Int32)} {mws : (Nat → Int32)} {mho : (Nat → Int32)} {mnow : (Nat → Int32)} {mrd : (Nat → Int32)} {mrh : (Nat → Int32)} {mrf : Int32} {mtx : (Nat → Int32)} {mlen : Int32} {mat : Int32} {mfa : Int32} {mac : Int32} {mnx : Int32} {mrow : (Nat → Int32)} {msn : Int32} {mso : (Nat → Int32)} {msc : (Nat → Int32)} {msw : (Nat → Int32)} {mseed : Int64} {mik : (Nat → Int32)} {mkp : (Nat → Int32)} {x1 : Int32} {res : Int32 × (Nat → Int32) × (Nat → Int32)} (h : fX10_keep x1 mnow mik mkp = some res) : KI l yX10_keep wsX10_keep ({ frames := 1, cells := 0, slots := 0, locals := 25 } : Room) D (tyA cyI cyZ cyW) zW zO [.ref (md 0), .int x1] (wMO cyI cyZ cyW md mflags mtubs mpegs mcl mws mho mnow mrd mrh mrf mtx mlen mat mfa mac mnx mrow msn mso msc msw mseed mik mkp) (wMO cyI cyZ cyW md mflags mtubs mpegs mcl mws mho mnow mrd mrh mrf mtx mlen mat mfa mac mnx mrow msn mso msc msw mseed res.2.1 res.2.2) res.1 := by
  refine enterI (cc := cX10_keep) (nL := 3) (ret := (some .int)) (by decide) rfl (Nat.le_of_ble_eq_true rfl) (fun p e s m below meth c A C => ?_)
  refine r_lv (lv' := [(0, .ref (md 0)), (1, .int x1)]) [0, 1] rfl ?_
  unfold fX10_keep at h
  refine r_iload_n C dX10_keep_0 1 rfl rfl ?_
  refine r_i2l C dX10_keep_1 ?_
  refine r_lconst (v := 0) C dX10_keep_2 lc_0 ?_
  refine r_lconst (v := 1) C dX10_keep_3 lc_1 ?_
  obtain ⟨u1, hu1, h⟩ := ob_bind h
  refine r_readSI (As := [.long x1.toInt64, .long (0 : Int64), .long (1 : Int64)]) (rest := []) C (kX10_in   (x0 := x1.toInt64) (x2 := (0 : Int64)) (x4 := (1 : Int64)) hu1) gX10_keep_X10_in rfl rfl rfl hd_X10_in ⟨by decide, by decide⟩ rfl [] (by decide) rfl rfl (Nat.le_of_ble_eq_true rfl) dX10_keep_4 ⟨Nat.zero_le _, Nat.zero_le _⟩ ?_
  refine r_ifb_ne (tgt := 12) C dX10_keep_7 (by decide) (fun c2 => ?_) (fun c2 => ?_)
  · replace h := ob_t h c2
    refine r_aload_n C dX10_keep_12 0 rfl rfl ?_
    refine r_get (ci := 7) (CC := RX10) (T := TX10) (N := 24) (v := .ref (md 12)) C hinX10_keep_X10 0 rfl rfl 22 (by decide) mX10_keep_1 rfl rfl dX10_keep_13 ?_
    refine r_iload_n C dX10_keep_16 1 rfl rfl ?_
    refine r_iconst (v := 1) C dX10_keep_17 ic_1 ?_
    obtain ⟨hu3, h⟩ := ob_if h
    refine r_zast (x1 := 1) (ws1 := (wMO cyI cyZ cyW md mflags mtubs mpegs mcl mws mho mnow mrd mrh mrf mtx mlen mat mfa mac mnx mrow msn mso msc msw mseed (upd mik x1.toNatClampNeg (1 : Int32)) mkp)) C 12 1 rfl rfl rfl (inb_vp hu3) rfl dX10_keep_18 ?_
    refine r_iconst (v := 0) C dX10_keep_19 ic_0 ?_
    refine r_istore_n (lv' := [(2, .int (0 : Int32)), (0, .ref (md 0)), (1, .int x1)]) C dX10_keep_20 rfl (by decide) rfl ?_
    refine r_lv (lv' := [(0, .ref (md 0)), (1, .int x1), (2, .int (0 : Int32))]) [1, 2, 0] rfl ?_
    exact LX10_keep_21 C (x1 := x1) (mflags := mflags) (mtubs := mtubs) (mpegs := mpegs) (mcl := mcl) (mws := mws) (mho := mho) (mnow := mnow) (mrd := mrd) (mrh := mrh) (mrf := mrf) (mtx := mtx) (mlen := mlen) (mat := mat) (mfa := mfa) (mac := mac) (mnx := mnx) (mrow := mrow) (msn := msn) (mso := mso) (msc := msc) (msw := msw) (mseed := mseed) (mik := (upd mik x1.toNatClampNeg (1 : Int32)))  FU (0 : Int32) mkp h
  · replace h := ob_bf h c2
    refine r_iconst (v := -1) C dX10_keep_10 ic_m1 ?_
    have h9 := Option.some.inj h
    subst h9
    exact r_iret C rfl dX10_keep_11

/-! ===== FlagWashModel.again ===== -/
def gX10_again_26 (rec26 : Int32 → (Nat → Int32) → Option (Int32 × (Nat → Int32) × Int32)) (x1 : Int32) (x2 : Int32) (mnow : (Nat → Int32)) (mkp : (Nat → Int32)) : Option (Int32 × (Nat → Int32) × Int32) :=
 (if (17 : Int32) ≤ x2 then (some ((mnow (16 : Int32).toNatClampNeg), mnow, (0 : Int32)))
 else (if inb (((17 : Int32) * x1) + x2) 34 = true then (if inb x2 34 = true then (rec26 (x2 + (1 : Int32)) (upd mnow x2.toNatClampNeg (mkp (((17 : Int32) * x1) + x2).toNatClampNeg))) else none) else none))
def fX10_again_26  (x1 : Int32) (mkp : (Nat → Int32)) : Nat → Int32 → (Nat → Int32) → Option (Int32 × (Nat → Int32) × Int32)
  | 0 => fun _ _ => none
  | n + 1 => fun x2 mnow => gX10_again_26 (fX10_again_26  x1 mkp n) x1 x2 mnow mkp
def fX10_again  (x1 : Int32) (mnow : (Nat → Int32)) (mac : Int32) (mik : (Nat → Int32)) (mkp : (Nat → Int32)) : Option (Int32 × (Nat → Int32) × Int32) :=
 ((fX10_in x1.toInt64 (0 : Int64) (1 : Int64)).bind fun u1 => (if u1 = true then (if inb x1 2 = true then (if (mik x1.toNatClampNeg) = 0 then (some ((-3 : Int32), mnow, mac))
 else (fX10_again_26  x1 mkp FU (0 : Int32) mnow)) else none)
 else (some ((-1 : Int32), mnow, mac))))
theorem hinX10_again_X10 : ∀ w ∈ u_ws RX10 TX10 24, w ∈ wsX10_again := fun w h => List.mem_cons_of_mem _ (List.mem_append_right _ h)
theorem mX10_again_1 : Cond.fieldLink RX10 43 "FlagWashModel" "isKept" "[Z" ∈ wsX10_again := List.mem_of_getElem? (i := 1) rfl
theorem mX10_again_4 : Cond.fieldLink RX10 104 "FlagWashModel" "acts" "I" ∈ wsX10_again := List.mem_of_getElem? (i := 4) rfl
theorem mX10_again_2 : Cond.fieldLink RX10 19 "FlagWashModel" "now" "[I" ∈ wsX10_again := List.mem_of_getElem? (i := 2) rfl
theorem mX10_again_3 : Cond.fieldLink RX10 47 "FlagWashModel" "kept" "[I" ∈ wsX10_again := List.mem_of_getElem? (i := 3) rfl
theorem hd_X10_again : yX10_again.cls ≠ "java/lang/invoke/MethodHandle" ∧ yX10_again.cls ≠ "java/lang/invoke/VarHandle" ∧ (parseMethodDescriptor yX10_again.desc).map (fun d => d.parameters.length) = some 1 := by decide +kernel
set_option maxHeartbeats 4000000 in
set_option maxRecDepth 100000 in
theorem LGX10_again_26 {p : Program} {l : Launch} {e : Env} {s : State} {m : MethodId} {args : Array Value} {below : List Frame} {meth : Method} {c : Code} {D : va_G} {cyI cyZ cyW : ClassId} {zW zO : Nat} {A : Nat → Prop} (C : Cx p s m args meth c cX10_again RX10 "again" wsX10_again (some .int) 3 D (tyA cyI cyZ cyW) zW zO A) {md : Nat → Nat} {mflags : Int32} {mtubs : Int32} {mpegs : Int32} {mcl : (Nat → Int32)} {mws : (Nat → Int32)} {mho : (Nat → Int32)} {mnow : (Nat → Int32)} {mrd : (Nat → Int32)} {mrh : (Nat → Int32)} {mrf : Int32} {mtx : (Nat → Int32)} {mlen : Int32} {mat : Int32} {mfa : Int32} {mac : Int32} {mnx : Int32} {mrow : (Nat → Int32)} {msn : Int32} {mso : (Nat → Int32)} {msc : (Nat → Int32)} {msw : (Nat → Int32)} {mseed : Int64} {mik : (Nat → Int32)} {mkp : (Nat → Int32)} {x1 : Int32} {x2 : Int32} {rec26 : Int32 → (Nat → Int32) → Option (Int32 × (Nat → Int32) × Int32)} {res : Int32 × (Nat → Int32) × Int32} (hrec26 : ∀ (x2 : Int32) (mnow : (Nat → Int32)), rec26 x2 mnow = some res → Mx p l e ({ frames := 1, cells := 0, slots := 0, locals := 25 } : Room) s m args below meth c (MQ below (QI D (tyA cyI cyZ cyW) A (wMO cyI cyZ cyW md mflags mtubs mpegs mcl mws mho res.2.1 mrd mrh mrf mtx mlen mat mfa res.2.2 mnx mrow msn mso msc msw mseed mik mkp) res.1) args s 0 0 A) 3 D A 0 0 (wMO cyI cyZ cyW md mflags mtubs mpegs mcl mws mho mnow mrd mrh mrf mtx mlen mat mfa mac mnx mrow msn mso msc msw mseed mik mkp) 26 [(0, .ref (md 0)), (1, .int x1), (2, .int x2)] []) (h : gX10_again_26 rec26 x1 x2 mnow mkp = some res) : Mx p l e ({ frames := 1, cells := 0, slots := 0, locals := 25 } : Room) s m args below meth c (MQ below (QI D (tyA cyI cyZ cyW) A (wMO cyI cyZ cyW md mflags mtubs mpegs mcl mws mho res.2.1 mrd mrh mrf mtx mlen mat mfa res.2.2 mnx mrow msn mso msc msw mseed mik mkp) res.1) args s 0 0 A) 3 D A 0 0 (wMO cyI cyZ cyW md mflags mtubs mpegs mcl mws mho mnow mrd mrh mrf mtx mlen mat mfa mac mnx mrow msn mso msc msw mseed mik mkp) 26 [(0, .ref (md 0)), (1, .int x1), (2, .int x2)] [] := by
  unfold gX10_again_26 at h
  refine r_iload_n C dX10_again_26 2 rfl rfl ?_
  refine r_bipush (v := 17) C dX10_again_27 bp_17 ?_
  refine r_icmp_ge (tgt := 55) C dX10_again_29 (by decide) (fun c5 => ?_) (fun c5 => ?_)
  · replace h := ob_t h c5
    refine r_aload_n C dX10_again_55 0 rfl rfl ?_
    refine r_iconst (v := 0) C dX10_again_56 ic_0 ?_
    refine r_put (ci := 7) (CC := RX10) (T := TX10) (N := 24) (v := .int (0 : Int32)) (ws1 := (wMO cyI cyZ cyW md mflags mtubs mpegs mcl mws mho mnow mrd mrh mrf mtx mlen mat mfa (0 : Int32) mnx mrow msn mso msc msw mseed mik mkp)) (ty := .int) C hinX10_again_X10 tyX10 tyX10_ok nmX10 0 rfl rfl 14 (by decide) mX10_again_4 rfl rfl rfl rfl rfl (Nat.le_of_ble_eq_true rfl) rfl dX10_again_57 ?_
    refine r_aload_n C dX10_again_60 0 rfl rfl ?_
    refine r_get (ci := 7) (CC := RX10) (T := TX10) (N := 24) (v := .ref (md 4)) C hinX10_again_X10 0 rfl rfl 6 (by decide) mX10_again_2 rfl rfl dX10_again_61 ?_
    refine r_bipush (v := 16) C dX10_again_64 bp_16 ?_
    refine r_iald C 4 0 rfl rfl (inb_vp (by decide)) dX10_again_66 ?_
    have h9 := Option.some.inj h
    subst h9
    exact r_iret C rfl dX10_again_67
  · replace h := ob_f h c5
    refine r_aload_n C dX10_again_32 0 rfl rfl ?_
    refine r_get (ci := 7) (CC := RX10) (T := TX10) (N := 24) (v := .ref (md 4)) C hinX10_again_X10 0 rfl rfl 6 (by decide) mX10_again_2 rfl rfl dX10_again_33 ?_
    refine r_iload_n C dX10_again_36 2 rfl rfl ?_
    refine r_aload_n C dX10_again_37 0 rfl rfl ?_
    refine r_get (ci := 7) (CC := RX10) (T := TX10) (N := 24) (v := .ref (md 13)) C hinX10_again_X10 0 rfl rfl 23 (by decide) mX10_again_3 rfl rfl dX10_again_38 ?_
    refine r_bipush (v := 17) C dX10_again_41 bp_17 ?_
    refine r_iload_n C dX10_again_43 1 rfl rfl ?_
    refine r_imul C dX10_again_44 ?_
    refine r_iload_n C dX10_again_45 2 rfl rfl ?_
    refine r_iadd C dX10_again_46 ?_
    obtain ⟨hu6, h⟩ := ob_if h
    refine r_iald C 13 0 rfl rfl (inb_vp hu6) dX10_again_47 ?_
    obtain ⟨hu7, h⟩ := ob_if h
    refine r_iast (ws1 := (wMO cyI cyZ cyW md mflags mtubs mpegs mcl mws mho (upd mnow x2.toNatClampNeg (mkp (((17 : Int32) * x1) + x2).toNatClampNeg)) mrd mrh mrf mtx mlen mat mfa mac mnx mrow msn mso msc msw mseed mik mkp)) C 4 0 rfl rfl (inb_vp hu7) rfl dX10_again_48 ?_
    refine r_iinc (v := 1) (lv' := [(2, .int (x2 + (1 : Int32))), (0, .ref (md 0)), (1, .int x1)]) C dX10_again_49 2 rfl ic_1 (by decide) rfl ?_
    refine r_goto (tgt := 26) C dX10_again_52 (by decide) ?_
    refine r_lv (lv' := [(0, .ref (md 0)), (1, .int x1), (2, .int (x2 + (1 : Int32)))]) [1, 2, 0] rfl ?_
    exact hrec26 (x2 + (1 : Int32)) (upd mnow x2.toNatClampNeg (mkp (((17 : Int32) * x1) + x2).toNatClampNeg)) h
set_option maxHeartbeats 4000000 in
set_option maxRecDepth 100000 in
theorem LX10_again_26 {p : Program} {l : Launch} {e : Env} {s : State} {m : MethodId} {args : Array Value} {below : List Frame} {meth : Method} {c : Code} {D : va_G} {cyI cyZ cyW : ClassId} {zW zO : Nat} {A : Nat → Prop} (C : Cx p s m args meth c cX10_again RX10 "again" wsX10_again (some .int) 3 D (tyA cyI cyZ cyW) zW zO A) {md : Nat → Nat} {x1 : Int32} {mflags : Int32} {mtubs : Int32} {mpegs : Int32} {mcl : (Nat → Int32)} {mws : (Nat → Int32)} {mho : (Nat → Int32)} {mrd : (Nat → Int32)} {mrh : (Nat → Int32)} {mrf : Int32} {mtx : (Nat → Int32)} {mlen : Int32} {mat : Int32} {mfa : Int32} {mac : Int32} {mnx : Int32} {mrow : (Nat → Int32)} {msn : Int32} {mso : (Nat → Int32)} {msc : (Nat → Int32)} {msw : (Nat → Int32)} {mseed : Int64} {mik : (Nat → Int32)} {mkp : (Nat → Int32)}  {res : Int32 × (Nat → Int32) × Int32}  : ∀ (n : Nat) (x2 : Int32) (mnow : (Nat → Int32)), fX10_again_26  x1 mkp n x2 mnow = some res → Mx p l e ({ frames := 1, cells := 0, slots := 0, locals := 25 } : Room) s m args below meth c (MQ below (QI D (tyA cyI cyZ cyW) A (wMO cyI cyZ cyW md mflags mtubs mpegs mcl mws mho res.2.1 mrd mrh mrf mtx mlen mat mfa res.2.2 mnx mrow msn mso msc msw mseed mik mkp) res.1) args s 0 0 A) 3 D A 0 0 (wMO cyI cyZ cyW md mflags mtubs mpegs mcl mws mho mnow mrd mrh mrf mtx mlen mat mfa mac mnx mrow msn mso msc msw mseed mik mkp) 26 [(0, .ref (md 0)), (1, .int x1), (2, .int x2)] [] := by
  intro n
  induction n with
  | zero => intro x2 mnow h; cases h
  | succ n ih => intro x2 mnow h; exact LGX10_again_26 C ih h
set_option maxHeartbeats 4000000 in
set_option maxRecDepth 100000 in
theorem kX10_again {l : Launch} {D : va_G} {cyI cyZ cyW : ClassId} {zW zO : Nat} {md : Nat → Nat} {mflags : Int32} {mtubs : Int32} {mpegs : Int32} {mcl : (Nat → Int32)} {mws : (Nat → Int32)} {mho : (Nat → Int32)} {mnow : (Nat → Int32)} {mrd : (Nat → Int32)} {mrh : (Nat → Int32)} {mrf : Int32} {mtx : (Nat → Int32)} {mlen : Int32} {mat : Int32} {mfa : Int32} {mac : Int32} {mnx : Int32} {mrow : (Nat → Int32)} {msn : Int32} {mso : (Nat → Int32)} {msc : (Nat → Int32)} {msw : (Nat → Int32)} {mseed : Int64} {mik : (Nat → Int32)} {mkp : (Nat → Int32)} {x1 : Int32} {res : Int32 × (Nat → Int32) × Int32} (h : fX10_again x1 mnow mac mik mkp = some res) : KI l yX10_again wsX10_again ({ frames := 1, cells := 0, slots := 0, locals := 25 } : Room) D (tyA cyI cyZ cyW) zW zO [.ref (md 0), .int x1] (wMO cyI cyZ cyW md mflags mtubs mpegs mcl mws mho mnow mrd mrh mrf mtx mlen mat mfa mac mnx mrow msn mso msc msw mseed mik mkp) (wMO cyI cyZ cyW md mflags mtubs mpegs mcl mws mho res.2.1 mrd mrh mrf mtx mlen mat mfa res.2.2 mnx mrow msn mso msc msw mseed mik mkp) res.1 := by
  refine enterI (cc := cX10_again) (nL := 3) (ret := (some .int)) (by decide) rfl (Nat.le_of_ble_eq_true rfl) (fun p e s m below meth c A C => ?_)
  refine r_lv (lv' := [(0, .ref (md 0)), (1, .int x1)]) [0, 1] rfl ?_
  unfold fX10_again at h
  refine r_iload_n C dX10_again_0 1 rfl rfl ?_
  refine r_i2l C dX10_again_1 ?_
  refine r_lconst (v := 0) C dX10_again_2 lc_0 ?_
  refine r_lconst (v := 1) C dX10_again_3 lc_1 ?_
  obtain ⟨u1, hu1, h⟩ := ob_bind h
  refine r_readSI (As := [.long x1.toInt64, .long (0 : Int64), .long (1 : Int64)]) (rest := []) C (kX10_in   (x0 := x1.toInt64) (x2 := (0 : Int64)) (x4 := (1 : Int64)) hu1) gX10_again_X10_in rfl rfl rfl hd_X10_in ⟨by decide, by decide⟩ rfl [] (by decide) rfl rfl (Nat.le_of_ble_eq_true rfl) dX10_again_4 ⟨Nat.zero_le _, Nat.zero_le _⟩ ?_
  refine r_ifb_ne (tgt := 12) C dX10_again_7 (by decide) (fun c2 => ?_) (fun c2 => ?_)
  · replace h := ob_t h c2
    refine r_aload_n C dX10_again_12 0 rfl rfl ?_
    refine r_get (ci := 7) (CC := RX10) (T := TX10) (N := 24) (v := .ref (md 12)) C hinX10_again_X10 0 rfl rfl 22 (by decide) mX10_again_1 rfl rfl dX10_again_13 ?_
    refine r_iload_n C dX10_again_16 1 rfl rfl ?_
    obtain ⟨hu3, h⟩ := ob_if h
    refine r_zald C 12 1 rfl rfl (inb_vp hu3) dX10_again_17 ?_
    refine r_if_ne (tgt := 24) C dX10_again_18 (by decide) (fun c4 => ?_) (fun c4 => ?_)
    · replace h := ob_f h c4
      refine r_iconst (v := 0) C dX10_again_24 ic_0 ?_
      refine r_istore_n (lv' := [(2, .int (0 : Int32)), (0, .ref (md 0)), (1, .int x1)]) C dX10_again_25 rfl (by decide) rfl ?_
      refine r_lv (lv' := [(0, .ref (md 0)), (1, .int x1), (2, .int (0 : Int32))]) [1, 2, 0] rfl ?_
      exact LX10_again_26 C (x1 := x1) (mflags := mflags) (mtubs := mtubs) (mpegs := mpegs) (mcl := mcl) (mws := mws) (mho := mho) (mrd := mrd) (mrh := mrh) (mrf := mrf) (mtx := mtx) (mlen := mlen) (mat := mat) (mfa := mfa) (mac := mac) (mnx := mnx) (mrow := mrow) (msn := msn) (mso := mso) (msc := msc) (msw := msw) (mseed := mseed) (mik := mik) (mkp := mkp)  FU (0 : Int32) mnow h
    · replace h := ob_t h c4
      refine r_bipush (v := -3) C dX10_again_21 bp_m3 ?_
      have h9 := Option.some.inj h
      subst h9
      exact r_iret C rfl dX10_again_23
  · replace h := ob_bf h c2
    refine r_iconst (v := -1) C dX10_again_10 ic_m1 ?_
    have h9 := Option.some.inj h
    subst h9
    exact r_iret C rfl dX10_again_11
