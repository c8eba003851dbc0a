/-! ===== FlagWashModel.rests ===== -/
def fX10_rests_96 (rec46 : Int32 → Int32 → Int32 → Option (Int32)) (x1 : Int32) (x2 : Int32) (x3 : Int32) (x4 : Int32) (x5 : Int32) (x6 : Int32) (mws : (Nat → Int32)) (mho : (Nat → Int32)) : Option (Int32) :=
 (rec46 x4 x5 (x6 + (1 : Int32)))
def fX10_rests_91 (rec46 : Int32 → Int32 → Int32 → Option (Int32)) (x1 : Int32) (x2 : Int32) (x3 : Int32) (x4 : Int32) (x6 : Int32) (y0 : Int32) (mws : (Nat → Int32)) (mho : (Nat → Int32)) : Option (Int32) :=
 (fX10_rests_96 rec46 x1 x2 x3 (x4 + (1 : Int32)) y0 x6 mws mho)
def gX10_rests_46 (rec46 : Int32 → Int32 → Int32 → Option (Int32)) (x1 : Int32) (x2 : Int32) (x3 : Int32) (x4 : Int32) (x5 : Int32) (x6 : Int32) (mws : (Nat → Int32)) (mho : (Nat → Int32)) : Option (Int32) :=
 (if (4 : Int32) ≤ x6 then (if x3 = 0 then (some x4)
 else (some x5))
 else ((fX10_isRest x1 x2 (x6 / (2 : Int32)) (jrem x6 (2 : Int32)) mws mho).bind fun u10 => (if u10 = true then (if x4 = 0 then (fX10_rests_91 rec46 x1 x2 x3 x4 x6 (((10 : Int32) * (x6 / (2 : Int32))) + (jrem x6 (2 : Int32))) mws mho)
 else (fX10_rests_91 rec46 x1 x2 x3 x4 x6 x5 mws mho))
 else (fX10_rests_96 rec46 x1 x2 x3 x4 x5 x6 mws mho))))
def fX10_rests_46  (x1 : Int32) (x2 : Int32) (x3 : Int32) (mws : (Nat → Int32)) (mho : (Nat → Int32)) : Nat → Int32 → Int32 → Int32 → Option (Int32)
  | 0 => fun _ _ _ => none
  | n + 1 => fun x4 x5 x6 => gX10_rests_46 (fX10_rests_46  x1 x2 x3 mws mho n) x1 x2 x3 x4 x5 x6 mws mho
def fX10_rests  (x1 : Int32) (x2 : Int32) (x3 : Int32) (mflags : Int32) (mws : (Nat → Int32)) (mho : (Nat → Int32)) : Option (Int32) :=
 ((fX10_isFlag x1 mflags).bind fun u1 => (if u1 = true then ((fX10_isFlag x2 mflags).bind fun u3 => (if u3 = true then (if x1 = x2 then (some (-2 : Int32))
 else ((fX10_in x3.toInt64 (0 : Int64) (1 : Int64)).bind fun u6 => (if u6 = true then (fX10_rests_46  x1 x2 x3 mws mho FU (0 : Int32) (-9 : Int32) (0 : Int32))
 else (some (-2 : Int32)))))
 else (some (-1 : Int32))))
 else (some (-1 : Int32))))
theorem hd_X10_rests : yX10_rests.cls ≠ "java/lang/invoke/MethodHandle" ∧ yX10_rests.cls ≠ "java/lang/invoke/VarHandle" ∧ (parseMethodDescriptor yX10_rests.desc).map (fun d => d.parameters.length) = some 3 := by decide +kernel
set_option maxHeartbeats 4000000 in
set_option maxRecDepth 100000 in
theorem LX10_rests_96 {p : Program} {l : Launch} {e : Env} {s : State} {m : MethodId} {args : Array Value} {below : List Frame} {meth : Method} {c : Code} {D : va_G} {cyI cyZ cyW : ClassId} {zW zO : Nat} {A : Nat → Prop} (C : Cx p s m args meth c cX10_rests RX10 "rests" wsX10_rests (some .int) 7 D (tyA cyI cyZ cyW) zW zO A) {md : Nat → Nat} {mflags : Int32} {mtubs : Int32} {mpegs : Int32} {mcl : (Nat → Int32)} {mws : (Nat → Int32)} {mho : (Nat → Int32)} {mnow : (Nat → Int32)} {mrd : (Nat → Int32)} {mrh : (Nat → Int32)} {mrf : Int32} {mtx : (Nat → Int32)} {mlen : Int32} {mat : Int32} {mfa : Int32} {mac : Int32} {mnx : Int32} {mrow : (Nat → Int32)} {msn : Int32} {mso : (Nat → Int32)} {msc : (Nat → Int32)} {msw : (Nat → Int32)} {mseed : Int64} {mik : (Nat → Int32)} {mkp : (Nat → Int32)} {x1 : Int32} {x2 : Int32} {x3 : Int32} {x4 : Int32} {x5 : Int32} {x6 : Int32} {rec46 : Int32 → Int32 → Int32 → Option (Int32)} {res : Int32} (hrec46 : ∀ (x4 : Int32) (x5 : Int32) (x6 : Int32), rec46 x4 x5 x6 = some res → Mx p l e ({ frames := 3, cells := 0, slots := 0, locals := 69 } : Room) s m args below meth c (MQ below (QI D (tyA cyI cyZ cyW) A (wMO cyI cyZ cyW md mflags mtubs mpegs mcl mws mho mnow mrd mrh mrf mtx mlen mat mfa mac mnx mrow msn mso msc msw mseed mik mkp) res) args s 0 0 A) 7 D A 0 0 (wMO cyI cyZ cyW md mflags mtubs mpegs mcl mws mho mnow mrd mrh mrf mtx mlen mat mfa mac mnx mrow msn mso msc msw mseed mik mkp) 46 [(0, .ref (md 0)), (1, .int x1), (2, .int x2), (3, .int x3), (4, .int x4), (5, .int x5), (6, .int x6)] []) (h : fX10_rests_96 rec46 x1 x2 x3 x4 x5 x6 mws mho = some res) : Mx p l e ({ frames := 3, cells := 0, slots := 0, locals := 69 } : Room) s m args below meth c (MQ below (QI D (tyA cyI cyZ cyW) A (wMO cyI cyZ cyW md mflags mtubs mpegs mcl mws mho mnow mrd mrh mrf mtx mlen mat mfa mac mnx mrow msn mso msc msw mseed mik mkp) res) args s 0 0 A) 7 D A 0 0 (wMO cyI cyZ cyW md mflags mtubs mpegs mcl mws mho mnow mrd mrh mrf mtx mlen mat mfa mac mnx mrow msn mso msc msw mseed mik mkp) 96 [(0, .ref (md 0)), (1, .int x1), (2, .int x2), (3, .int x3), (4, .int x4), (5, .int x5), (6, .int x6)] [] := by
  unfold fX10_rests_96 at h
  refine r_iinc (v := 1) (lv' := [(6, .int (x6 + (1 : Int32))), (0, .ref (md 0)), (1, .int x1), (2, .int x2), (3, .int x3), (4, .int x4), (5, .int x5)]) C dX10_rests_96 6 rfl ic_1 (by decide) rfl ?_
  refine r_goto (tgt := 46) C dX10_rests_99 (by decide) ?_
  refine r_lv (lv' := [(0, .ref (md 0)), (1, .int x1), (2, .int x2), (3, .int x3), (4, .int x4), (5, .int x5), (6, .int (x6 + (1 : Int32)))]) [1, 2, 3, 4, 5, 6, 0] rfl ?_
  exact hrec46 x4 x5 (x6 + (1 : Int32)) h
set_option maxHeartbeats 4000000 in
set_option maxRecDepth 100000 in
theorem LX10_rests_91 {p : Program} {l : Launch} {e : Env} {s : State} {m : MethodId} {args : Array Value} {below : List Frame} {meth : Method} {c : Code} {D : va_G} {cyI cyZ cyW : ClassId} {zW zO : Nat} {A : Nat → Prop} (C : Cx p s m args meth c cX10_rests RX10 "rests" wsX10_rests (some .int) 7 D (tyA cyI cyZ cyW) zW zO A) {md : Nat → Nat} {mflags : Int32} {mtubs : Int32} {mpegs : Int32} {mcl : (Nat → Int32)} {mws : (Nat → Int32)} {mho : (Nat → Int32)} {mnow : (Nat → Int32)} {mrd : (Nat → Int32)} {mrh : (Nat → Int32)} {mrf : Int32} {mtx : (Nat → Int32)} {mlen : Int32} {mat : Int32} {mfa : Int32} {mac : Int32} {mnx : Int32} {mrow : (Nat → Int32)} {msn : Int32} {mso : (Nat → Int32)} {msc : (Nat → Int32)} {msw : (Nat → Int32)} {mseed : Int64} {mik : (Nat → Int32)} {mkp : (Nat → Int32)} {x1 : Int32} {x2 : Int32} {x3 : Int32} {x4 : Int32} {x6 : Int32} {y0 : Int32} {rec46 : Int32 → Int32 → Int32 → Option (Int32)} {res : Int32} (hrec46 : ∀ (x4 : Int32) (x5 : Int32) (x6 : Int32), rec46 x4 x5 x6 = some res → Mx p l e ({ frames := 3, cells := 0, slots := 0, locals := 69 } : Room) s m args below meth c (MQ below (QI D (tyA cyI cyZ cyW) A (wMO cyI cyZ cyW md mflags mtubs mpegs mcl mws mho mnow mrd mrh mrf mtx mlen mat mfa mac mnx mrow msn mso msc msw mseed mik mkp) res) args s 0 0 A) 7 D A 0 0 (wMO cyI cyZ cyW md mflags mtubs mpegs mcl mws mho mnow mrd mrh mrf mtx mlen mat mfa mac mnx mrow msn mso msc msw mseed mik mkp) 46 [(0, .ref (md 0)), (1, .int x1), (2, .int x2), (3, .int x3), (4, .int x4), (5, .int x5), (6, .int x6)] []) (h : fX10_rests_91 rec46 x1 x2 x3 x4 x6 y0 mws mho = some res) : Mx p l e ({ frames := 3, cells := 0, slots := 0, locals := 69 } : Room) s m args below meth c (MQ below (QI D (tyA cyI cyZ cyW) A (wMO cyI cyZ cyW md mflags mtubs mpegs mcl mws mho mnow mrd mrh mrf mtx mlen mat mfa mac mnx mrow msn mso msc msw mseed mik mkp) res) args s 0 0 A) 7 D A 0 0 (wMO cyI cyZ cyW md mflags mtubs mpegs mcl mws mho mnow mrd mrh mrf mtx mlen mat mfa mac mnx mrow msn mso msc msw mseed mik mkp) 91 [(0, .ref (md 0)), (1, .int x1), (2, .int x2), (3, .int x3), (4, .int x4), (6, .int x6)] [.int y0] := by
  unfold fX10_rests_91 at h
  refine r_istore (lv' := [(5, .int y0), (0, .ref (md 0)), (1, .int x1), (2, .int x2), (3, .int x3), (4, .int x4), (6, .int x6)]) C dX10_rests_91 (by decide) rfl ?_
  refine r_iinc (v := 1) (lv' := [(4, .int (x4 + (1 : Int32))), (5, .int y0), (0, .ref (md 0)), (1, .int x1), (2, .int x2), (3, .int x3), (6, .int x6)]) C dX10_rests_93 5 rfl ic_1 (by decide) rfl ?_
  refine r_lv (lv' := [(0, .ref (md 0)), (1, .int x1), (2, .int x2), (3, .int x3), (4, .int (x4 + (1 : Int32))), (5, .int y0), (6, .int x6)]) [2, 3, 4, 5, 0, 1, 6] rfl ?_
  exact LX10_rests_96 C (x1 := x1) (x2 := x2) (x3 := x3) (x4 := (x4 + (1 : Int32))) (x5 := y0) (x6 := x6) (mflags := mflags) (mtubs := mtubs) (mpegs := mpegs) (mcl := mcl) (mws := mws) (mho := mho) (mnow := mnow) (mrd := mrd) (mrh := mrh) (mrf := mrf) (mtx := mtx) (mlen := mlen) (mat := mat) (mfa := mfa) (mac := mac) (mnx := mnx) (mrow := mrow) (msn := msn) (mso := mso) (msc := msc) (msw := msw) (mseed := mseed) (mik := mik) (mkp := mkp) hrec46 h
set_option maxHeartbeats 4000000 in
set_option maxRecDepth 100000 in
theorem LGX10_rests_46 {p : Program} {l : Launch} {e : Env} {s : State} {m : MethodId} {args : Array Value} {below : List Frame} {meth : Method} {c : Code} {D : va_G} {cyI cyZ cyW : ClassId} {zW zO : Nat} {A : Nat → Prop} (C : Cx p s m args meth c cX10_rests RX10 "rests" wsX10_rests (some .int) 7 D (tyA cyI cyZ cyW) zW zO A) {md : Nat → Nat} {mflags : Int32} {mtubs : Int32} {mpegs : Int32} {mcl : (Nat → Int32)} {mws : (Nat → Int32)} {mho : (Nat → Int32)} {mnow : (Nat → Int32)} {mrd : (Nat → Int32)} {mrh : (Nat → Int32)} {mrf : Int32} {mtx : (Nat → Int32)} {mlen : Int32} {mat : Int32} {mfa : Int32} {mac : Int32} {mnx : Int32} {mrow : (Nat → Int32)} {msn : Int32} {mso : (Nat → Int32)} {msc : (Nat → Int32)} {msw : (Nat → Int32)} {mseed : Int64} {mik : (Nat → Int32)} {mkp : (Nat → Int32)} {x1 : Int32} {x2 : Int32} {x3 : Int32} {x4 : Int32} {x5 : Int32} {x6 : Int32} {rec46 : Int32 → Int32 → Int32 → Option (Int32)} {res : Int32} (hrec46 : ∀ (x4 : Int32) (x5 : Int32) (x6 : Int32), rec46 x4 x5 x6 = some res → Mx p l e ({ frames := 3, cells := 0, slots := 0, locals := 69 } : Room) s m args below meth c (MQ below (QI D (tyA cyI cyZ cyW) A (wMO cyI cyZ cyW md mflags mtubs mpegs mcl mws mho mnow mrd mrh mrf mtx mlen mat mfa mac mnx mrow msn mso msc msw mseed mik mkp) res) args s 0 0 A) 7 D A 0 0 (wMO cyI cyZ cyW md mflags mtubs mpegs mcl mws mho mnow mrd mrh mrf mtx mlen mat mfa mac mnx mrow msn mso msc msw mseed mik mkp) 46 [(0, .ref (md 0)), (1, .int x1), (2, .int x2), (3, .int x3), (4, .int x4), (5, .int x5), (6, .int x6)] []) (h : gX10_rests_46 rec46 x1 x2 x3 x4 x5 x6 mws mho = some res) : Mx p l e ({ frames := 3, cells := 0, slots := 0, locals := 69 } : Room) s m args below meth c (MQ below (QI D (tyA cyI cyZ cyW) A (wMO cyI cyZ cyW md mflags mtubs mpegs mcl mws mho mnow mrd mrh mrf mtx mlen mat mfa mac mnx mrow msn mso msc msw mseed mik mkp) res) args s 0 0 A) 7 D A 0 0 (wMO cyI cyZ cyW md mflags mtubs mpegs mcl mws mho mnow mrd mrh mrf mtx mlen mat mfa mac mnx mrow msn mso msc msw mseed mik mkp) 46 [(0, .ref (md 0)), (1, .int x1), (2, .int x2), (3, .int x3), (4, .int x4), (5, .int x5), (6, .int x6)] [] := by
  unfold gX10_rests_46 at h
  refine r_iload C dX10_rests_46 6 rfl ?_
  refine r_iconst (v := 4) C dX10_rests_48 ic_4 ?_
  refine r_icmp_ge (tgt := 102) C dX10_rests_49 (by decide) (fun c8 => ?_) (fun c8 => ?_)
  · replace h := ob_t h c8
    refine r_iload_n C dX10_rests_102 3 rfl rfl ?_
    refine r_if_ne (tgt := 111) C dX10_rests_103 (by decide) (fun c9 => ?_) (fun c9 => ?_)
    · replace h := ob_f h c9
      refine r_iload C dX10_rests_111 5 rfl ?_
      have h9 := Option.some.inj h
      subst h9
      exact r_iret C rfl dX10_rests_113
    · replace h := ob_t h c9
      refine r_iload C dX10_rests_106 4 rfl ?_
      refine r_goto (tgt := 113) C dX10_rests_108 (by decide) ?_
      have h9 := Option.some.inj h
      subst h9
      exact r_iret C rfl dX10_rests_113
  · replace h := ob_f h c8
    refine r_aload_n C dX10_rests_52 0 rfl rfl ?_
    refine r_iload_n C dX10_rests_53 1 rfl rfl ?_
    refine r_iload_n C dX10_rests_54 2 rfl rfl ?_
    refine r_iload C dX10_rests_55 6 rfl ?_
    refine r_iconst (v := 2) C dX10_rests_57 ic_2 ?_
    refine r_idiv C dX10_rests_58 (by decide) ?_
    refine r_iload C dX10_rests_59 6 rfl ?_
    refine r_iconst (v := 2) C dX10_rests_61 ic_2 ?_
    refine r_irem C dX10_rests_62 (by decide) ?_
    obtain ⟨u10, hu10, h⟩ := ob_bind h
    refine r_readVI (q0 := 0) (As := [.int x1, .int x2, .int (x6 / (2 : Int32)), .int (jrem x6 (2 : Int32))]) (rest := []) C (kX10_isRest (md := md) (mflags := mflags) (mtubs := mtubs) (mpegs := mpegs) (mcl := mcl) (mws := mws) (mho := mho) (mnow := mnow) (mrd := mrd) (mrh := mrh) (mrf := mrf) (mtx := mtx) (mlen := mlen) (mat := mat) (mfa := mfa) (mac := mac) (mnx := mnx) (mrow := mrow) (msn := msn) (mso := mso) (msc := msc) (msw := msw) (mseed := mseed) (mik := mik) (mkp := mkp) (x1 := x1) (x2 := x2) (x3 := (x6 / (2 : Int32))) (x4 := (jrem x6 (2 : Int32))) hu10) gX10_rests_X10_isRest rfl rfl rfl ⟨rfl, hd_X10_isRest⟩ ⟨by decide, by decide⟩ rfl rfl rfl rfl [0, 1, 2, 3, 4, 5, 6, 7, 8, 9, 10, 11, 12, 13] (by decide) in_76 rfl (Nat.le_of_ble_eq_true rfl) dX10_rests_63 ⟨Nat.zero_le _, Nat.zero_le _⟩ ?_
    refine r_ifb_eq (tgt := 96) C dX10_rests_66 (by decide) (fun c11 => ?_) (fun c11 => ?_)
    · replace h := ob_bf h c11
      refine r_lv (lv' := [(0, .ref (md 0)), (1, .int x1), (2, .int x2), (3, .int x3), (4, .int x4), (5, .int x5), (6, .int x6)]) [0, 1, 2, 3, 4, 5, 6] rfl ?_
      exact LX10_rests_96 C (x1 := x1) (x2 := x2) (x3 := x3) (x4 := x4) (x5 := x5) (x6 := x6) (mflags := mflags) (mtubs := mtubs) (mpegs := mpegs) (mcl := mcl) (mws := mws) (mho := mho) (mnow := mnow) (mrd := mrd) (mrh := mrh) (mrf := mrf) (mtx := mtx) (mlen := mlen) (mat := mat) (mfa := mfa) (mac := mac) (mnx := mnx) (mrow := mrow) (msn := msn) (mso := mso) (msc := msc) (msw := msw) (mseed := mseed) (mik := mik) (mkp := mkp) hrec46 h
    · replace h := ob_t h c11
      refine r_iload C dX10_rests_69 4 rfl ?_
      refine r_if_ne (tgt := 89) C dX10_rests_71 (by decide) (fun c12 => ?_) (fun c12 => ?_)
      · replace h := ob_f h c12
        refine r_iload C dX10_rests_89 5 rfl ?_
        refine r_lv (lv' := [(0, .ref (md 0)), (1, .int x1), (2, .int x2), (3, .int x3), (4, .int x4), (6, .int x6)]) [0, 1, 2, 3, 4, 6] rfl ?_
        exact LX10_rests_91 C (x1 := x1) (x2 := x2) (x3 := x3) (x4 := x4) (x6 := x6) (y0 := x5) (mflags := mflags) (mtubs := mtubs) (mpegs := mpegs) (mcl := mcl) (mws := mws) (mho := mho) (mnow := mnow) (mrd := mrd) (mrh := mrh) (mrf := mrf) (mtx := mtx) (mlen := mlen) (mat := mat) (mfa := mfa) (mac := mac) (mnx := mnx) (mrow := mrow) (msn := msn) (mso := mso) (msc := msc) (msw := msw) (mseed := mseed) (mik := mik) (mkp := mkp) hrec46 h
      · replace h := ob_t h c12
        refine r_bipush (v := 10) C dX10_rests_74 bp_10 ?_
        refine r_iload C dX10_rests_76 6 rfl ?_
        refine r_iconst (v := 2) C dX10_rests_78 ic_2 ?_
        refine r_idiv C dX10_rests_79 (by decide) ?_
        refine r_imul C dX10_rests_80 ?_
        refine r_iload C dX10_rests_81 6 rfl ?_
        refine r_iconst (v := 2) C dX10_rests_83 ic_2 ?_
        refine r_irem C dX10_rests_84 (by decide) ?_
        refine r_iadd C dX10_rests_85 ?_
        refine r_goto (tgt := 91) C dX10_rests_86 (by decide) ?_
        refine r_lv (lv' := [(0, .ref (md 0)), (1, .int x1), (2, .int x2), (3, .int x3), (4, .int x4), (6, .int x6)]) [0, 1, 2, 3, 4, 6] rfl ?_
        exact LX10_rests_91 C (x1 := x1) (x2 := x2) (x3 := x3) (x4 := x4) (x6 := x6) (y0 := (((10 : Int32) * (x6 / (2 : Int32))) + (jrem x6 (2 : Int32)))) (mflags := mflags) (mtubs := mtubs) (mpegs := mpegs) (mcl := mcl) (mws := mws) (mho := mho) (mnow := mnow) (mrd := mrd) (mrh := mrh) (mrf := mrf) (mtx := mtx) (mlen := mlen) (mat := mat) (mfa := mfa) (mac := mac) (mnx := mnx) (mrow := mrow) (msn := msn) (mso := mso) (msc := msc) (msw := msw) (mseed := mseed) (mik := mik) (mkp := mkp) hrec46 h
set_option maxHeartbeats 4000000 in
set_option maxRecDepth 100000 in
theorem LX10_rests_46 {p : Program} {l : Launch} {e : Env} {s : State} {m : MethodId} {args : Array Value} {below : List Frame} {meth : Method} {c : Code} {D : va_G} {cyI cyZ cyW : ClassId} {zW zO : Nat} {A : Nat → Prop} (C : Cx p s m args meth c cX10_rests RX10 "rests" wsX10_rests (some .int) 7 D (tyA cyI cyZ cyW) zW zO A) {md : Nat → Nat} {x1 : Int32} {x2 : Int32} {x3 : Int32} {mflags : Int32} {mtubs : Int32} {mpegs : Int32} {mcl : (Nat → Int32)} {mws : (Nat → Int32)} {mho : (Nat → Int32)} {mnow : (Nat → Int32)} {mrd : (Nat → Int32)} {mrh : (Nat → Int32)} {mrf : Int32} {mtx : (Nat → Int32)} {mlen : Int32} {mat : Int32} {mfa : Int32} {mac : Int32} {mnx : Int32} {mrow : (Nat → Int32)} {msn : Int32} {mso : (Nat → Int32)} {msc : (Nat → Int32)} {msw : (Nat → Int32)} {mseed : Int64} {mik : (Nat → Int32)} {mkp : (Nat → Int32)}  {res : Int32}  : ∀ (n : Nat) (x4 : Int32) (x5 : Int32) (x6 : Int32), fX10_rests_46  x1 x2 x3 mws mho n x4 x5 x6 = some res → Mx p l e ({ frames := 3, cells := 0, slots := 0, locals := 69 } : Room) s m args below meth c (MQ below (QI D (tyA cyI cyZ cyW) A (wMO cyI cyZ cyW md mflags mtubs mpegs mcl mws mho mnow mrd mrh mrf mtx mlen mat mfa mac mnx mrow msn mso msc msw mseed mik mkp) res) args s 0 0 A) 7 D A 0 0 (wMO cyI cyZ cyW md mflags mtubs mpegs mcl mws mho mnow mrd mrh mrf mtx mlen mat mfa mac mnx mrow msn mso msc msw mseed mik mkp) 46 [(0, .ref (md 0)), (1, .int x1), (2, .int x2), (3, .int x3), (4, .int x4), (5, .int x5), (6, .int x6)] [] := by
  intro n
  induction n with
  | zero => intro x4 x5 x6 h; cases h
  | succ n ih => intro x4 x5 x6 h; exact LGX10_rests_46 C ih h
set_option maxHeartbeats 4000000 in
set_option maxRecDepth 100000 in
theorem kX10_rests {l : Launch} {D : va_G} {cyI cyZ cyW : ClassId} {zW zO : Nat} {md : Nat → Nat} {mflags : Int32} {mtubs : Int32} {mpegs : Int32} {mcl : (Nat → Int32)} {mws : (Nat → Int32)} {mho : (Nat → Int32)} {mnow : (Nat → Int32)} {mrd : (Nat → Int32)} {mrh : (Nat → Int32)} {mrf : Int32} {mtx : (Nat → Int32)} {mlen : Int32} {mat : Int32} {mfa : Int32} {mac : Int32} {mnx : Int32} {mrow : (Nat → Int32)} {msn : Int32} {mso : (Nat → Int32)} {msc : (Nat → Int32)} {msw : (Nat → Int32)} {mseed : Int64} {mik : (Nat → Int32)} {mkp : (Nat → Int32)} {x1 : Int32} {x2 : Int32} {x3 : Int32} {res : Int32} (h : fX10_rests x1 x2 x3 mflags mws mho = some res) : KI l yX10_rests wsX10_rests ({ frames := 3, cells := 0, slots := 0, locals := 69 } : Room) D (tyA cyI cyZ cyW) zW zO [.ref (md 0), .int x1, .int x2, .int x3] (wMO cyI cyZ cyW md mflags mtubs mpegs mcl mws mho mnow mrd mrh mrf mtx mlen mat mfa mac mnx mrow msn mso msc msw mseed mik mkp) (wMO cyI cyZ cyW md mflags mtubs mpegs mcl mws mho mnow mrd mrh mrf mtx mlen mat mfa mac mnx mrow msn mso msc msw mseed mik mkp) res := by
  refine enterI (cc := cX10_rests) (nL := 7) (ret := (some .int)) (by decide) rfl (Nat.le_of_ble_eq_true rfl) (fun p e s m below meth c A C => ?_)
  refine r_lv (lv' := [(0, .ref (md 0)), (1, .int x1), (2, .int x2), (3, .int x3)]) [0, 1, 2, 3] rfl ?_
  unfold fX10_rests at h
  refine r_aload_n C dX10_rests_0 0 rfl rfl ?_
  refine r_iload_n C dX10_rests_1 1 rfl rfl ?_
  obtain ⟨u1, hu1, h⟩ := ob_bind h
  refine r_readVI (q0 := 0) (As := [.int x1]) (rest := []) C (kX10_isFlag (md := md) (mflags := mflags) (mtubs := mtubs) (mpegs := mpegs) (mcl := mcl) (mws := mws) (mho := mho) (mnow := mnow) (mrd := mrd) (mrh := mrh) (mrf := mrf) (mtx := mtx) (mlen := mlen) (mat := mat) (mfa := mfa) (mac := mac) (mnx := mnx) (mrow := mrow) (msn := msn) (mso := mso) (msc := msc) (msw := msw) (mseed := mseed) (mik := mik) (mkp := mkp) (x1 := x1) hu1) gX10_rests_X10_isFlag rfl rfl rfl ⟨rfl, hd_X10_isFlag⟩ ⟨by decide, by decide⟩ rfl rfl rfl rfl [0, 1, 2, 3, 4, 5, 6, 7, 8, 9, 10, 11, 12, 13] (by decide) in_76 rfl (Nat.le_of_ble_eq_true rfl) dX10_rests_2 ⟨Nat.zero_le _, Nat.zero_le _⟩ ?_
  refine r_ifb_eq (tgt := 16) C dX10_rests_5 (by decide) (fun c2 => ?_) (fun c2 => ?_)
  · replace h := ob_bf h c2
    refine r_iconst (v := -1) C dX10_rests_16 ic_m1 ?_
    have h9 := Option.some.inj h
    subst h9
    exact r_iret C rfl dX10_rests_17
  · replace h := ob_t h c2
    refine r_aload_n C dX10_rests_8 0 rfl rfl ?_
    refine r_iload_n C dX10_rests_9 2 rfl rfl ?_
    obtain ⟨u3, hu3, h⟩ := ob_bind h
    refine r_readVI (q0 := 0) (As := [.int x2]) (rest := []) C (kX10_isFlag (md := md) (mflags := mflags) (mtubs := mtubs) (mpegs := mpegs) (mcl := mcl) (mws := mws) (mho := mho) (mnow := mnow) (mrd := mrd) (mrh := mrh) (mrf := mrf) (mtx := mtx) (mlen := mlen) (mat := mat) (mfa := mfa) (mac := mac) (mnx := mnx) (mrow := mrow) (msn := msn) (mso := mso) (msc := msc) (msw := msw) (mseed := mseed) (mik := mik) (mkp := mkp) (x1 := x2) hu3) gX10_rests_X10_isFlag rfl rfl rfl ⟨rfl, hd_X10_isFlag⟩ ⟨by decide, by decide⟩ rfl rfl rfl rfl [0, 1, 2, 3, 4, 5, 6, 7, 8, 9, 10, 11, 12, 13] (by decide) in_76 rfl (Nat.le_of_ble_eq_true rfl) dX10_rests_10 ⟨Nat.zero_le _, Nat.zero_le _⟩ ?_
    refine r_ifb_ne (tgt := 18) C dX10_rests_13 (by decide) (fun c4 => ?_) (fun c4 => ?_)
    · replace h := ob_t h c4
      refine r_iload_n C dX10_rests_18 1 rfl rfl ?_
      refine r_iload_n C dX10_rests_19 2 rfl rfl ?_
      refine r_icmp_eq (tgt := 33) C dX10_rests_20 (by decide) (fun c5 => ?_) (fun c5 => ?_)
      · replace h := ob_t h c5
        refine r_bipush (v := -2) C dX10_rests_33 bp_m2 ?_
        have h9 := Option.some.inj h
        subst h9
        exact r_iret C rfl dX10_rests_35
      · replace h := ob_f h c5
        refine r_iload_n C dX10_rests_23 3 rfl rfl ?_
        refine r_i2l C dX10_rests_24 ?_
        refine r_lconst (v := 0) C dX10_rests_25 lc_0 ?_
        refine r_lconst (v := 1) C dX10_rests_26 lc_1 ?_
        obtain ⟨u6, hu6, h⟩ := ob_bind h
        refine r_readSI (As := [.long x3.toInt64, .long (0 : Int64), .long (1 : Int64)]) (rest := []) C (kX10_in   (x0 := x3.toInt64) (x2 := (0 : Int64)) (x4 := (1 : Int64)) hu6) gX10_rests_X10_in rfl rfl rfl hd_X10_in ⟨by decide, by decide⟩ rfl [] (by decide) rfl rfl (Nat.le_of_ble_eq_true rfl) dX10_rests_27 ⟨Nat.zero_le _, Nat.zero_le _⟩ ?_
        refine r_ifb_ne (tgt := 36) C dX10_rests_30 (by decide) (fun c7 => ?_) (fun c7 => ?_)
        · replace h := ob_t h c7
          refine r_iconst (v := 0) C dX10_rests_36 ic_0 ?_
          refine r_istore (lv' := [(4, .int (0 : Int32)), (0, .ref (md 0)), (1, .int x1), (2, .int x2), (3, .int x3)]) C dX10_rests_37 (by decide) rfl ?_
          refine r_bipush (v := -9) C dX10_rests_39 bp_m9 ?_
          refine r_istore (lv' := [(5, .int (-9 : Int32)), (4, .int (0 : Int32)), (0, .ref (md 0)), (1, .int x1), (2, .int x2), (3, .int x3)]) C dX10_rests_41 (by decide) rfl ?_
          refine r_iconst (v := 0) C dX10_rests_43 ic_0 ?_
          refine r_istore (lv' := [(6, .int (0 : Int32)), (5, .int (-9 : Int32)), (4, .int (0 : Int32)), (0, .ref (md 0)), (1, .int x1), (2, .int x2), (3, .int x3)]) C dX10_rests_44 (by decide) rfl ?_
          refine r_lv (lv' := [(0, .ref (md 0)), (1, .int x1), (2, .int x2), (3, .int x3), (4, .int (0 : Int32)), (5, .int (-9 : Int32)), (6, .int (0 : Int32))]) [3, 4, 5, 6, 2, 1, 0] rfl ?_
          exact LX10_rests_46 C (x1 := x1) (x2 := x2) (x3 := x3) (mflags := mflags) (mtubs := mtubs) (mpegs := mpegs) (mcl := mcl) (mws := mws) (mho := mho) (mnow := mnow) (mrd := mrd) (mrh := mrh) (mrf := mrf) (mtx := mtx) (mlen := mlen) (mat := mat) (mfa := mfa) (mac := mac) (mnx := mnx) (mrow := mrow) (msn := msn) (mso := mso) (msc := msc) (msw := msw) (mseed := mseed) (mik := mik) (mkp := mkp)  FU (0 : Int32) (-9 : Int32) (0 : Int32) h
        · replace h := ob_bf h c7
          refine r_bipush (v := -2) C dX10_rests_33 bp_m2 ?_
          have h9 := Option.some.inj h
          subst h9
          exact r_iret C rfl dX10_rests_35
    · replace h := ob_bf h c4
      refine r_iconst (v := -1) C dX10_rests_16 ic_m1 ?_
      have h9 := Option.some.inj h
      subst h9
      exact r_iret C rfl dX10_rests_17
