/-! ===== FlagWashModel.count ===== -/
def fX10_count  (x1 : Int32) (mflags : Int32) (mtubs : Int32) (mpegs : Int32) (mho : (Nat → Int32)) (mnow : (Nat → Int32)) (mlen : Int32) (mac : Int32) (msn : Int32) : Option (Int32) :=
 (if x1 = (0 : Int32) then (some mlen)
 else (if x1 = (1 : Int32) then (some mflags)
 else (if x1 = (2 : Int32) then ((fX10_free (0 : Int32) (1 : Int32) mflags mtubs mpegs mnow).bind fun u4 => (some u4))
 else (if x1 = (3 : Int32) then ((fX10_free (0 : Int32) (2 : Int32) mflags mtubs mpegs mnow).bind fun u6 => (some u6))
 else (if x1 = (4 : Int32) then (some (mnow (15 : Int32).toNatClampNeg))
 else (if x1 = (5 : Int32) then ((fX10_areIn (0 : Int32) (0 : Int32) mflags mnow).bind fun u9 => (some u9))
 else (if x1 = (6 : Int32) then ((fX10_areIn (0 : Int32) (0 : Int32) mflags mnow).bind fun u11 => ((fX10_fights u11 mflags mho).bind fun u12 => (some u12)))
 else (if x1 = (7 : Int32) then (some (mnow (16 : Int32).toNatClampNeg))
 else (if x1 = (8 : Int32) then (some mac)
 else (if x1 = (9 : Int32) then (some msn)
 else (some (-2 : Int32))))))))))))
theorem hinX10_count_X10 : ∀ w ∈ u_ws RX10 TX10 24, w ∈ wsX10_count := fun w h => List.mem_cons_of_mem _ (List.mem_append_right _ h)
theorem mX10_count_1 : Cond.fieldLink RX10 63 "FlagWashModel" "length" "I" ∈ wsX10_count := List.mem_of_getElem? (i := 1) rfl
theorem mX10_count_2 : Cond.fieldLink RX10 101 "FlagWashModel" "flags" "I" ∈ wsX10_count := List.mem_of_getElem? (i := 2) rfl
theorem mX10_count_3 : Cond.fieldLink RX10 19 "FlagWashModel" "now" "[I" ∈ wsX10_count := List.mem_of_getElem? (i := 3) rfl
theorem mX10_count_4 : Cond.fieldLink RX10 104 "FlagWashModel" "acts" "I" ∈ wsX10_count := List.mem_of_getElem? (i := 4) rfl
theorem mX10_count_5 : Cond.fieldLink RX10 172 "FlagWashModel" "seen" "I" ∈ wsX10_count := List.mem_of_getElem? (i := 5) rfl
theorem hd_X10_count : yX10_count.cls ≠ "java/lang/invoke/MethodHandle" ∧ yX10_count.cls ≠ "java/lang/invoke/VarHandle" ∧ (parseMethodDescriptor yX10_count.desc).map (fun d => d.parameters.length) = some 1 := by decide +kernel
set_option maxHeartbeats 4000000 in
set_option maxRecDepth 100000 in
theorem kX10_count {l : Launch} {D : va_G} {cyI cyZ cyW : ClassId} {zW zO : Nat} {md : Nat → Nat} {mflags : Int32} {mtubs : Int32} {mpegs : Int32} {mcl : (Nat → Int32)} {mws : (Nat → Int32)} {mho : (Nat → Int32)} {mnow : (Nat → Int32)} {mrd : (Nat → Int32)} {mrh : (Nat → Int32)} {mrf : Int32} {mtx : (Nat → Int32)} {mlen : Int32} {mat : Int32} {mfa : Int32} {mac : Int32} {mnx : Int32} {mrow : (Nat → Int32)} {msn : Int32} {mso : (Nat → Int32)} {msc : (Nat → Int32)} {msw : (Nat → Int32)} {mseed : Int64} {mik : (Nat → Int32)} {mkp : (Nat → Int32)} {x1 : Int32} {res : Int32} (h : fX10_count x1 mflags mtubs mpegs mho mnow mlen mac msn = some res) : KI l yX10_count wsX10_count ({ frames := 2, cells := 0, slots := 0, locals := 46 } : Room) D (tyA cyI cyZ cyW) zW zO [.ref (md 0), .int x1] (wMO cyI cyZ cyW md mflags mtubs mpegs mcl mws mho mnow mrd mrh mrf mtx mlen mat mfa mac mnx mrow msn mso msc msw mseed mik mkp) (wMO cyI cyZ cyW md mflags mtubs mpegs mcl mws mho mnow mrd mrh mrf mtx mlen mat mfa mac mnx mrow msn mso msc msw mseed mik mkp) res := by
  refine enterI (cc := cX10_count) (nL := 2) (ret := (some .int)) (by decide) rfl (Nat.le_of_ble_eq_true rfl) (fun p e s m below meth c A C => ?_)
  refine r_lv (lv' := [(0, .ref (md 0)), (1, .int x1)]) [0, 1] rfl ?_
  unfold fX10_count at h
  refine r_iload_n C dX10_count_0 1 rfl rfl ?_
  by_cases c1 : x1 = (0 : Int32)
  · replace h := ob_t h c1
    refine r_tsAt (tgt := 56) (off := 55) C (0 : Int32) c1 dX10_count_1 (by decide) (by decide) (by decide) (by decide) ?_
    refine r_aload_n C dX10_count_56 0 rfl rfl ?_
    refine r_get (ci := 7) (CC := RX10) (T := TX10) (N := 24) (v := .int mlen) C hinX10_count_X10 0 rfl rfl 11 (by decide) mX10_count_1 rfl rfl dX10_count_57 ?_
    have h9 := Option.some.inj h
    subst h9
    exact r_iret C rfl dX10_count_60
  replace h := ob_f h c1
  by_cases c2 : x1 = (1 : Int32)
  · replace h := ob_t h c2
    refine r_tsAt (tgt := 61) (off := 60) C (1 : Int32) c2 dX10_count_1 (by decide) (by decide) (by decide) (by decide) ?_
    refine r_aload_n C dX10_count_61 0 rfl rfl ?_
    refine r_get (ci := 7) (CC := RX10) (T := TX10) (N := 24) (v := .int mflags) C hinX10_count_X10 0 rfl rfl 0 (by decide) mX10_count_2 rfl rfl dX10_count_62 ?_
    have h9 := Option.some.inj h
    subst h9
    exact r_iret C rfl dX10_count_65
  replace h := ob_f h c2
  by_cases c3 : x1 = (2 : Int32)
  · replace h := ob_t h c3
    refine r_tsAt (tgt := 66) (off := 65) C (2 : Int32) c3 dX10_count_1 (by decide) (by decide) (by decide) (by decide) ?_
    refine r_aload_n C dX10_count_66 0 rfl rfl ?_
    refine r_iconst (v := 0) C dX10_count_67 ic_0 ?_
    refine r_iconst (v := 1) C dX10_count_68 ic_1 ?_
    obtain ⟨u4, hu4, h⟩ := ob_bind h
    refine r_readVI (q0 := 0) (As := [.int (0 : Int32), .int (1 : Int32)]) (rest := []) C (kX10_free (md := md) (mflags := mflags) (mtubs := mtubs) (mpegs := mpegs) (mcl := mcl) (mws := mws) (mho := mho) (mnow := mnow) (mrd := mrd) (mrh := mrh) (mrf := mrf) (mtx := mtx) (mlen := mlen) (mat := mat) (mfa := mfa) (mac := mac) (mnx := mnx) (mrow := mrow) (msn := msn) (mso := mso) (msc := msc) (msw := msw) (mseed := mseed) (mik := mik) (mkp := mkp) (x1 := (0 : Int32)) (x2 := (1 : Int32)) hu4) gX10_count_X10_free rfl rfl rfl ⟨rfl, hd_X10_free⟩ ⟨by decide, by decide⟩ rfl rfl rfl rfl [0, 1, 2, 3, 4, 5, 6, 7, 8, 9, 10, 11, 12, 13] (by decide) in_76 rfl (Nat.le_of_ble_eq_true rfl) dX10_count_69 ⟨Nat.zero_le _, Nat.zero_le _⟩ ?_
    have h9 := Option.some.inj h
    subst h9
    exact r_iret C rfl dX10_count_72
  replace h := ob_f h c3
  by_cases c5 : x1 = (3 : Int32)
  · replace h := ob_t h c5
    refine r_tsAt (tgt := 73) (off := 72) C (3 : Int32) c5 dX10_count_1 (by decide) (by decide) (by decide) (by decide) ?_
    refine r_aload_n C dX10_count_73 0 rfl rfl ?_
    refine r_iconst (v := 0) C dX10_count_74 ic_0 ?_
    refine r_iconst (v := 2) C dX10_count_75 ic_2 ?_
    obtain ⟨u6, hu6, h⟩ := ob_bind h
    refine r_readVI (q0 := 0) (As := [.int (0 : Int32), .int (2 : Int32)]) (rest := []) C (kX10_free (md := md) (mflags := mflags) (mtubs := mtubs) (mpegs := mpegs) (mcl := mcl) (mws := mws) (mho := mho) (mnow := mnow) (mrd := mrd) (mrh := mrh) (mrf := mrf) (mtx := mtx) (mlen := mlen) (mat := mat) (mfa := mfa) (mac := mac) (mnx := mnx) (mrow := mrow) (msn := msn) (mso := mso) (msc := msc) (msw := msw) (mseed := mseed) (mik := mik) (mkp := mkp) (x1 := (0 : Int32)) (x2 := (2 : Int32)) hu6) gX10_count_X10_free rfl rfl rfl ⟨rfl, hd_X10_free⟩ ⟨by decide, by decide⟩ rfl rfl rfl rfl [0, 1, 2, 3, 4, 5, 6, 7, 8, 9, 10, 11, 12, 13] (by decide) in_76 rfl (Nat.le_of_ble_eq_true rfl) dX10_count_76 ⟨Nat.zero_le _, Nat.zero_le _⟩ ?_
    have h9 := Option.some.inj h
    subst h9
    exact r_iret C rfl dX10_count_79
  replace h := ob_f h c5
  by_cases c7 : x1 = (4 : Int32)
  · replace h := ob_t h c7
    refine r_tsAt (tgt := 80) (off := 79) C (4 : Int32) c7 dX10_count_1 (by decide) (by decide) (by decide) (by decide) ?_
    refine r_aload_n C dX10_count_80 0 rfl rfl ?_
    refine r_get (ci := 7) (CC := RX10) (T := TX10) (N := 24) (v := .ref (md 4)) C hinX10_count_X10 0 rfl rfl 6 (by decide) mX10_count_3 rfl rfl dX10_count_81 ?_
    refine r_bipush (v := 15) C dX10_count_84 bp_15 ?_
    refine r_iald C 4 0 rfl rfl (inb_vp (by decide)) dX10_count_86 ?_
    have h9 := Option.some.inj h
    subst h9
    exact r_iret C rfl dX10_count_87
  replace h := ob_f h c7
  by_cases c8 : x1 = (5 : Int32)
  · replace h := ob_t h c8
    refine r_tsAt (tgt := 88) (off := 87) C (5 : Int32) c8 dX10_count_1 (by decide) (by decide) (by decide) (by decide) ?_
    refine r_aload_n C dX10_count_88 0 rfl rfl ?_
    refine r_iconst (v := 0) C dX10_count_89 ic_0 ?_
    refine r_iconst (v := 0) C dX10_count_90 ic_0 ?_
    obtain ⟨u9, hu9, h⟩ := ob_bind h
    refine r_readVI (q0 := 0) (As := [.int (0 : Int32), .int (0 : Int32)]) (rest := []) C (kX10_areIn (md := md) (mflags := mflags) (mtubs := mtubs) (mpegs := mpegs) (mcl := mcl) (mws := mws) (mho := mho) (mnow := mnow) (mrd := mrd) (mrh := mrh) (mrf := mrf) (mtx := mtx) (mlen := mlen) (mat := mat) (mfa := mfa) (mac := mac) (mnx := mnx) (mrow := mrow) (msn := msn) (mso := mso) (msc := msc) (msw := msw) (mseed := mseed) (mik := mik) (mkp := mkp) (x1 := (0 : Int32)) (x2 := (0 : Int32)) hu9) gX10_count_X10_areIn rfl rfl rfl ⟨rfl, hd_X10_areIn⟩ ⟨by decide, by decide⟩ rfl rfl rfl rfl [0, 1, 2, 3, 4, 5, 6, 7, 8, 9, 10, 11, 12, 13] (by decide) in_76 rfl (Nat.le_of_ble_eq_true rfl) dX10_count_91 ⟨Nat.zero_le _, Nat.zero_le _⟩ ?_
    have h9 := Option.some.inj h
    subst h9
    exact r_iret C rfl dX10_count_94
  replace h := ob_f h c8
  by_cases c10 : x1 = (6 : Int32)
  · replace h := ob_t h c10
    refine r_tsAt (tgt := 95) (off := 94) C (6 : Int32) c10 dX10_count_1 (by decide) (by decide) (by decide) (by decide) ?_
    refine r_aload_n C dX10_count_95 0 rfl rfl ?_
    refine r_aload_n C dX10_count_96 0 rfl rfl ?_
    refine r_iconst (v := 0) C dX10_count_97 ic_0 ?_
    refine r_iconst (v := 0) C dX10_count_98 ic_0 ?_
    obtain ⟨u11, hu11, h⟩ := ob_bind h
    refine r_readVI (q0 := 0) (As := [.int (0 : Int32), .int (0 : Int32)]) (rest := [.ref (md 0)]) C (kX10_areIn (md := md) (mflags := mflags) (mtubs := mtubs) (mpegs := mpegs) (mcl := mcl) (mws := mws) (mho := mho) (mnow := mnow) (mrd := mrd) (mrh := mrh) (mrf := mrf) (mtx := mtx) (mlen := mlen) (mat := mat) (mfa := mfa) (mac := mac) (mnx := mnx) (mrow := mrow) (msn := msn) (mso := mso) (msc := msc) (msw := msw) (mseed := mseed) (mik := mik) (mkp := mkp) (x1 := (0 : Int32)) (x2 := (0 : Int32)) hu11) gX10_count_X10_areIn rfl rfl rfl ⟨rfl, hd_X10_areIn⟩ ⟨by decide, by decide⟩ rfl rfl rfl rfl [0, 1, 2, 3, 4, 5, 6, 7, 8, 9, 10, 11, 12, 13] (by decide) in_76 rfl (Nat.le_of_ble_eq_true rfl) dX10_count_99 ⟨Nat.zero_le _, Nat.zero_le _⟩ ?_
    obtain ⟨u12, hu12, h⟩ := ob_bind h
    refine r_readVI (q0 := 0) (As := [.int u11]) (rest := []) C (kX10_fights (md := md) (mflags := mflags) (mtubs := mtubs) (mpegs := mpegs) (mcl := mcl) (mws := mws) (mho := mho) (mnow := mnow) (mrd := mrd) (mrh := mrh) (mrf := mrf) (mtx := mtx) (mlen := mlen) (mat := mat) (mfa := mfa) (mac := mac) (mnx := mnx) (mrow := mrow) (msn := msn) (mso := mso) (msc := msc) (msw := msw) (mseed := mseed) (mik := mik) (mkp := mkp) (x1 := u11) hu12) gX10_count_X10_fights rfl rfl rfl ⟨rfl, hd_X10_fights⟩ ⟨by decide, by decide⟩ rfl rfl rfl rfl [0, 1, 2, 3, 4, 5, 6, 7, 8, 9, 10, 11, 12, 13] (by decide) in_76 rfl (Nat.le_of_ble_eq_true rfl) dX10_count_102 ⟨Nat.zero_le _, Nat.zero_le _⟩ ?_
    have h9 := Option.some.inj h
    subst h9
    exact r_iret C rfl dX10_count_105
  replace h := ob_f h c10
  by_cases c13 : x1 = (7 : Int32)
  · replace h := ob_t h c13
    refine r_tsAt (tgt := 106) (off := 105) C (7 : Int32) c13 dX10_count_1 (by decide) (by decide) (by decide) (by decide) ?_
    refine r_aload_n C dX10_count_106 0 rfl rfl ?_
    refine r_get (ci := 7) (CC := RX10) (T := TX10) (N := 24) (v := .ref (md 4)) C hinX10_count_X10 0 rfl rfl 6 (by decide) mX10_count_3 rfl rfl dX10_count_107 ?_
    refine r_bipush (v := 16) C dX10_count_110 bp_16 ?_
    refine r_iald C 4 0 rfl rfl (inb_vp (by decide)) dX10_count_112 ?_
    have h9 := Option.some.inj h
    subst h9
    exact r_iret C rfl dX10_count_113
  replace h := ob_f h c13
  by_cases c14 : x1 = (8 : Int32)
  · replace h := ob_t h c14
    refine r_tsAt (tgt := 114) (off := 113) C (8 : Int32) c14 dX10_count_1 (by decide) (by decide) (by decide) (by decide) ?_
    refine r_aload_n C dX10_count_114 0 rfl rfl ?_
    refine r_get (ci := 7) (CC := RX10) (T := TX10) (N := 24) (v := .int mac) C hinX10_count_X10 0 rfl rfl 14 (by decide) mX10_count_4 rfl rfl dX10_count_115 ?_
    have h9 := Option.some.inj h
    subst h9
    exact r_iret C rfl dX10_count_118
  replace h := ob_f h c14
  by_cases c15 : x1 = (9 : Int32)
  · replace h := ob_t h c15
    refine r_tsAt (tgt := 119) (off := 118) C (9 : Int32) c15 dX10_count_1 (by decide) (by decide) (by decide) (by decide) ?_
    refine r_aload_n C dX10_count_119 0 rfl rfl ?_
    refine r_get (ci := 7) (CC := RX10) (T := TX10) (N := 24) (v := .int msn) C hinX10_count_X10 0 rfl rfl 17 (by decide) mX10_count_5 rfl rfl dX10_count_120 ?_
    have h9 := Option.some.inj h
    subst h9
    exact r_iret C rfl dX10_count_123
  replace h := ob_f h c15
  refine r_tsOut (tgt := 124) C dX10_count_1 (ts_out 0 9 (by decide) (fun k hk1 hk2 => by rcases (show k = 0 ∨ k = 1 ∨ k = 2 ∨ k = 3 ∨ k = 4 ∨ k = 5 ∨ k = 6 ∨ k = 7 ∨ k = 8 ∨ k = 9 by omega) with rfl | rfl | rfl | rfl | rfl | rfl | rfl | rfl | rfl | rfl <;> first | exact c1 | exact c2 | exact c3 | exact c5 | exact c7 | exact c8 | exact c10 | exact c13 | exact c14 | exact c15)) (by decide) ?_
  refine r_bipush (v := -2) C dX10_count_124 bp_m2 ?_
  have h9 := Option.some.inj h
  subst h9
  exact r_iret C rfl dX10_count_126
