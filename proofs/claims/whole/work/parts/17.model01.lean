/-! ===== FlagWashModel.readPart ===== -/
def fX10_readPart_197  (mrd : (Nat → Int32)) (mrh : (Nat → Int32)) (mrf : Int32) (mat : Int32) : Option ((Nat → Int32) × (Nat → Int32) × Int32 × Int32 × Int32) :=
 (some (mrd, mrh, mrf, mat, mat))
def fX10_readPart_192  (y0 : Int32) (y1 : Int32) (y2 : Int32) (mrd : (Nat → Int32)) (mrh : (Nat → Int32)) (mrf : Int32) (mat : Int32) (mfa : Int32) : Option ((Nat → Int32) × (Nat → Int32) × Int32 × Int32 × Int32) :=
 (if inb y2 5 = true then (some (mrd, (upd mrh y2.toNatClampNeg (y1 ||| y0)), mrf, mat, mfa)) else none)
def fX10_readPart_167  (x2 : Int32) (x3 : Int32) (y0 : Int32) (y1 : Int32) (y2 : Int32) (mrd : (Nat → Int32)) (mrh : (Nat → Int32)) (mrf : Int32) (mat : Int32) (mfa : Int32) : Option ((Nat → Int32) × (Nat → Int32) × Int32 × Int32 × Int32) :=
 (if inb y2 5 = true then (if inb x3 5 = true then (if mfa = (-9 : Int32) then (fX10_readPart_192  ((1 : Int32) <<< (x2 &&& 31)) ((upd mrh y2.toNatClampNeg (y1 ||| y0)) x3.toNatClampNeg) x3 mrd (upd mrh y2.toNatClampNeg (y1 ||| y0)) mrf mat mfa)
 else (fX10_readPart_192  (0 : Int32) ((upd mrh y2.toNatClampNeg (y1 ||| y0)) x3.toNatClampNeg) x3 mrd (upd mrh y2.toNatClampNeg (y1 ||| y0)) mrf mat mfa)) else none) else none)
def fX10_readPart_98  (x1 : Int32) (mrd : (Nat → Int32)) (mrh : (Nat → Int32)) (mrf : Int32) (mtx : (Nat → Int32)) (mlen : Int32) (mat : Int32) (mfa : Int32) : Option ((Nat → Int32) × (Nat → Int32) × Int32 × Int32 × Int32) :=
 (if x1 = (72 : Int32) then ((fX10_firstsLeft mrh mrf).bind fun u10 => (if u10 = 0 then (fX10_readPart_197  mrd mrh mrf mat)
 else ((fX10_firstsLeft mrh mrf).bind fun u12 => ((fX10_takeOf (48 : Int32) u12 mtx mlen (mat + (1 : Int32)) mfa).bind fun u13 => ((fX10_left u13.1 mrh mrf).bind fun u14 => ((fX10_takeOf (48 : Int32) u14 mtx mlen u13.2.1 u13.2.2).bind fun u15 => (if inb u13.1 5 = true then (if u15.2.2 = (-9 : Int32) then (fX10_readPart_167  u13.1 u15.1 ((1 : Int32) <<< (u15.1 &&& 31)) (mrh u13.1.toNatClampNeg) u13.1 mrd mrh mrf u15.2.1 u15.2.2)
 else (fX10_readPart_167  u13.1 u15.1 (0 : Int32) (mrh u13.1.toNatClampNeg) u13.1 mrd mrh mrf u15.2.1 u15.2.2)) else none)))))))
 else (fX10_readPart_197  mrd mrh mrf mat))
def fX10_readPart  (x1 : Int32) (mrd : (Nat → Int32)) (mrh : (Nat → Int32)) (mrf : Int32) (mtx : (Nat → Int32)) (mlen : Int32) (mat : Int32) (mfa : Int32) : Option ((Nat → Int32) × (Nat → Int32) × Int32 × Int32 × Int32) :=
 (if x1 = (70 : Int32) then (if (5 : Int32) ≤ mrf then (fX10_readPart_98  x1 mrd mrh mrf mtx mlen mat mfa)
 else ((fX10_takeOf (97 : Int32) (65535 : Int32) mtx mlen (mat + (1 : Int32)) mfa).bind fun u3 => (if inb ((3 : Int32) * mrf) 15 = true then ((fX10_takeOf (48 : Int32) (15 : Int32) mtx mlen u3.2.1 u3.2.2).bind fun u5 => (if inb (((3 : Int32) * mrf) + (1 : Int32)) 15 = true then ((fX10_takeOf (48 : Int32) (30 : Int32) mtx mlen u5.2.1 u5.2.2).bind fun u7 => (if inb (((3 : Int32) * mrf) + (2 : Int32)) 15 = true then (some ((upd (upd (upd mrd ((3 : Int32) * mrf).toNatClampNeg u3.1) (((3 : Int32) * mrf) + (1 : Int32)).toNatClampNeg u5.1) (((3 : Int32) * mrf) + (2 : Int32)).toNatClampNeg u7.1), mrh, (mrf + (1 : Int32)), u7.2.1, u7.2.2)) else none)) else none)) else none)))
 else (fX10_readPart_98  x1 mrd mrh mrf mtx mlen mat mfa))
theorem hinX10_readPart_X10 : ∀ w ∈ u_ws RX10 TX10 24, w ∈ wsX10_readPart := fun w h => List.mem_cons_of_mem _ (List.mem_append_right _ h)
theorem mX10_readPart_1 : Cond.fieldLink RX10 78 "FlagWashModel" "readFlags" "I" ∈ wsX10_readPart := List.mem_of_getElem? (i := 1) rfl
theorem mX10_readPart_2 : Cond.fieldLink RX10 69 "FlagWashModel" "at" "I" ∈ wsX10_readPart := List.mem_of_getElem? (i := 2) rfl
theorem mX10_readPart_3 : Cond.fieldLink RX10 22 "FlagWashModel" "readOf" "[I" ∈ wsX10_readPart := List.mem_of_getElem? (i := 3) rfl
theorem mX10_readPart_4 : Cond.constant RX10 93 (65535) ∈ wsX10_readPart := List.mem_of_getElem? (i := 4) rfl
theorem mX10_readPart_5 : Cond.fieldLink RX10 25 "FlagWashModel" "readHostile" "[I" ∈ wsX10_readPart := List.mem_of_getElem? (i := 5) rfl
theorem mX10_readPart_6 : Cond.fieldLink RX10 66 "FlagWashModel" "faultAt" "I" ∈ wsX10_readPart := List.mem_of_getElem? (i := 6) rfl
theorem hd_X10_readPart : yX10_readPart.cls ≠ "java/lang/invoke/MethodHandle" ∧ yX10_readPart.cls ≠ "java/lang/invoke/VarHandle" ∧ (parseMethodDescriptor yX10_readPart.desc).map (fun d => d.parameters.length) = some 1 := by decide +kernel
set_option maxHeartbeats 4000000 in
set_option maxRecDepth 100000 in
theorem LX10_readPart_197 {p : Program} {l : Launch} {e : Env} {s : State} {m : MethodId} {args : Array Value} {below : List Frame} {meth : Method} {c : Code} {D : va_G} {cyI cyZ cyW : ClassId} {zW zO : Nat} {A : Nat → Prop} (C : Cx p s m args meth c cX10_readPart RX10 "readPart" wsX10_readPart none 4 D (tyA cyI cyZ cyW) zW zO A) {md : Nat → Nat} {mflags : Int32} {mtubs : Int32} {mpegs : Int32} {mcl : (Nat → Int32)} {mws : (Nat → Int32)} {mho : (Nat → Int32)} {mnow : (Nat → Int32)} {mrd : (Nat → Int32)} {mrh : (Nat → Int32)} {mrf : Int32} {mtx : (Nat → Int32)} {mlen : Int32} {mat : Int32} {mfa : Int32} {mac : Int32} {mnx : Int32} {mrow : (Nat → Int32)} {msn : Int32} {mso : (Nat → Int32)} {msc : (Nat → Int32)} {msw : (Nat → Int32)} {mseed : Int64} {mik : (Nat → Int32)} {mkp : (Nat → Int32)}   {res : (Nat → Int32) × (Nat → Int32) × Int32 × Int32 × Int32}  (h : fX10_readPart_197  mrd mrh mrf mat = some res) : Mx p l e ({ frames := 2, cells := 0, slots := 0, locals := 48 } : Room) s m args below meth c (MQ below (QV D (tyA cyI cyZ cyW) A (wMO cyI cyZ cyW md mflags mtubs mpegs mcl mws mho mnow res.1 res.2.1 res.2.2.1 mtx mlen res.2.2.2.1 res.2.2.2.2 mac mnx mrow msn mso msc msw mseed mik mkp)) args s 0 0 A) 4 D A 0 0 (wMO cyI cyZ cyW md mflags mtubs mpegs mcl mws mho mnow mrd mrh mrf mtx mlen mat mfa mac mnx mrow msn mso msc msw mseed mik mkp) 197 [(0, .ref (md 0))] [] := by
  unfold fX10_readPart_197 at h
  refine r_aload_n C dX10_readPart_197 0 rfl rfl ?_
  refine r_aload_n C dX10_readPart_198 0 rfl rfl ?_
  refine r_get (ci := 7) (CC := RX10) (T := TX10) (N := 24) (v := .int mat) C hinX10_readPart_X10 0 rfl rfl 12 (by decide) mX10_readPart_2 rfl rfl dX10_readPart_199 ?_
  refine r_put (ci := 7) (CC := RX10) (T := TX10) (N := 24) (v := .int mat) (ws1 := (wMO cyI cyZ cyW md mflags mtubs mpegs mcl mws mho mnow mrd mrh mrf mtx mlen mat mat mac mnx mrow msn mso msc msw mseed mik mkp)) (ty := .int) C hinX10_readPart_X10 tyX10 tyX10_ok nmX10 0 rfl rfl 13 (by decide) mX10_readPart_6 rfl rfl rfl rfl rfl (Nat.le_of_ble_eq_true rfl) rfl dX10_readPart_202 ?_
  have h9 := Option.some.inj h
  subst h9
  exact r_vret C rfl dX10_readPart_205
set_option maxHeartbeats 4000000 in
set_option maxRecDepth 100000 in
theorem LX10_readPart_192 {p : Program} {l : Launch} {e : Env} {s : State} {m : MethodId} {args : Array Value} {below : List Frame} {meth : Method} {c : Code} {D : va_G} {cyI cyZ cyW : ClassId} {zW zO : Nat} {A : Nat → Prop} (C : Cx p s m args meth c cX10_readPart RX10 "readPart" wsX10_readPart none 4 D (tyA cyI cyZ cyW) zW zO A) {md : Nat → Nat} {mflags : Int32} {mtubs : Int32} {mpegs : Int32} {mcl : (Nat → Int32)} {mws : (Nat → Int32)} {mho : (Nat → Int32)} {mnow : (Nat → Int32)} {mrd : (Nat → Int32)} {mrh : (Nat → Int32)} {mrf : Int32} {mtx : (Nat → Int32)} {mlen : Int32} {mat : Int32} {mfa : Int32} {mac : Int32} {mnx : Int32} {mrow : (Nat → Int32)} {msn : Int32} {mso : (Nat → Int32)} {msc : (Nat → Int32)} {msw : (Nat → Int32)} {mseed : Int64} {mik : (Nat → Int32)} {mkp : (Nat → Int32)} {y0 : Int32} {y1 : Int32} {y2 : Int32}  {res : (Nat → Int32) × (Nat → Int32) × Int32 × Int32 × Int32}  (h : fX10_readPart_192  y0 y1 y2 mrd mrh mrf mat mfa = some res) : Mx p l e ({ frames := 2, cells := 0, slots := 0, locals := 48 } : Room) s m args below meth c (MQ below (QV D (tyA cyI cyZ cyW) A (wMO cyI cyZ cyW md mflags mtubs mpegs mcl mws mho mnow res.1 res.2.1 res.2.2.1 mtx mlen res.2.2.2.1 res.2.2.2.2 mac mnx mrow msn mso msc msw mseed mik mkp)) args s 0 0 A) 4 D A 0 0 (wMO cyI cyZ cyW md mflags mtubs mpegs mcl mws mho mnow mrd mrh mrf mtx mlen mat mfa mac mnx mrow msn mso msc msw mseed mik mkp) 192 [] [.int y0, .int y1, .int y2, .ref (md 6)] := by
  unfold fX10_readPart_192 at h
  refine r_ior C dX10_readPart_192 ?_
  obtain ⟨hu21, h⟩ := ob_if h
  refine r_iast (ws1 := (wMO cyI cyZ cyW md mflags mtubs mpegs mcl mws mho mnow mrd (upd mrh y2.toNatClampNeg (y1 ||| y0)) mrf mtx mlen mat mfa mac mnx mrow msn mso msc msw mseed mik mkp)) C 6 0 rfl rfl (inb_vp hu21) rfl dX10_readPart_193 ?_
  refine r_goto (tgt := 205) C dX10_readPart_194 (by decide) ?_
  have h9 := Option.some.inj h
  subst h9
  exact r_vret C rfl dX10_readPart_205
set_option maxHeartbeats 4000000 in
set_option maxRecDepth 100000 in
theorem LX10_readPart_167 {p : Program} {l : Launch} {e : Env} {s : State} {m : MethodId} {args : Array Value} {below : List Frame} {meth : Method} {c : Code} {D : va_G} {cyI cyZ cyW : ClassId} {zW zO : Nat} {A : Nat → Prop} (C : Cx p s m args meth c cX10_readPart RX10 "readPart" wsX10_readPart none 4 D (tyA cyI cyZ cyW) zW zO A) {md : Nat → Nat} {mflags : Int32} {mtubs : Int32} {mpegs : Int32} {mcl : (Nat → Int32)} {mws : (Nat → Int32)} {mho : (Nat → Int32)} {mnow : (Nat → Int32)} {mrd : (Nat → Int32)} {mrh : (Nat → Int32)} {mrf : Int32} {mtx : (Nat → Int32)} {mlen : Int32} {mat : Int32} {mfa : Int32} {mac : Int32} {mnx : Int32} {mrow : (Nat → Int32)} {msn : Int32} {mso : (Nat → Int32)} {msc : (Nat → Int32)} {msw : (Nat → Int32)} {mseed : Int64} {mik : (Nat → Int32)} {mkp : (Nat → Int32)} {x2 : Int32} {x3 : Int32} {y0 : Int32} {y1 : Int32} {y2 : Int32}  {res : (Nat → Int32) × (Nat → Int32) × Int32 × Int32 × Int32}  (h : fX10_readPart_167  x2 x3 y0 y1 y2 mrd mrh mrf mat mfa = some res) : Mx p l e ({ frames := 2, cells := 0, slots := 0, locals := 48 } : Room) s m args below meth c (MQ below (QV D (tyA cyI cyZ cyW) A (wMO cyI cyZ cyW md mflags mtubs mpegs mcl mws mho mnow res.1 res.2.1 res.2.2.1 mtx mlen res.2.2.2.1 res.2.2.2.2 mac mnx mrow msn mso msc msw mseed mik mkp)) args s 0 0 A) 4 D A 0 0 (wMO cyI cyZ cyW md mflags mtubs mpegs mcl mws mho mnow mrd mrh mrf mtx mlen mat mfa mac mnx mrow msn mso msc msw mseed mik mkp) 167 [(0, .ref (md 0)), (2, .int x2), (3, .int x3)] [.int y0, .int y1, .int y2, .ref (md 6)] := by
  unfold fX10_readPart_167 at h
  refine r_ior C dX10_readPart_167 ?_
  obtain ⟨hu18, h⟩ := ob_if h
  refine r_iast (ws1 := (wMO cyI cyZ cyW md mflags mtubs mpegs mcl mws mho mnow mrd (upd mrh y2.toNatClampNeg (y1 ||| y0)) mrf mtx mlen mat mfa mac mnx mrow msn mso msc msw mseed mik mkp)) C 6 0 rfl rfl (inb_vp hu18) rfl dX10_readPart_168 ?_
  refine r_aload_n C dX10_readPart_169 0 rfl rfl ?_
  refine r_get (ci := 7) (CC := RX10) (T := TX10) (N := 24) (v := .ref (md 6)) C hinX10_readPart_X10 0 rfl rfl 8 (by decide) mX10_readPart_5 rfl rfl dX10_readPart_170 ?_
  refine r_iload_n C dX10_readPart_173 2 rfl rfl ?_
  refine r_dup2 C dX10_readPart_174 rfl rfl ?_
  obtain ⟨hu19, h⟩ := ob_if h
  refine r_iald C 6 0 rfl rfl (inb_vp hu19) dX10_readPart_175 ?_
  refine r_aload_n C dX10_readPart_176 0 rfl rfl ?_
  refine r_get (ci := 7) (CC := RX10) (T := TX10) (N := 24) (v := .int mfa) C hinX10_readPart_X10 0 rfl rfl 13 (by decide) mX10_readPart_6 rfl rfl dX10_readPart_177 ?_
  refine r_bipush (v := -9) C dX10_readPart_180 bp_m9 ?_
  refine r_icmp_ne (tgt := 191) C dX10_readPart_182 (by decide) (fun c20 => ?_) (fun c20 => ?_)
  · replace h := ob_f h c20
    refine r_iconst (v := 0) C dX10_readPart_191 ic_0 ?_
    refine r_lv (lv' := []) [] rfl ?_
    exact LX10_readPart_192 C (y0 := (0 : Int32)) (y1 := ((upd mrh y2.toNatClampNeg (y1 ||| y0)) x3.toNatClampNeg)) (y2 := x3) (mflags := mflags) (mtubs := mtubs) (mpegs := mpegs) (mcl := mcl) (mws := mws) (mho := mho) (mnow := mnow) (mrd := mrd) (mrh := (upd mrh y2.toNatClampNeg (y1 ||| y0))) (mrf := mrf) (mtx := mtx) (mlen := mlen) (mat := mat) (mfa := mfa) (mac := mac) (mnx := mnx) (mrow := mrow) (msn := msn) (mso := mso) (msc := msc) (msw := msw) (mseed := mseed) (mik := mik) (mkp := mkp)  h
  · replace h := ob_t h c20
    refine r_iconst (v := 1) C dX10_readPart_185 ic_1 ?_
    refine r_iload_n C dX10_readPart_186 1 rfl rfl ?_
    refine r_ishl C dX10_readPart_187 ?_
    refine r_goto (tgt := 192) C dX10_readPart_188 (by decide) ?_
    refine r_lv (lv' := []) [] rfl ?_
    exact LX10_readPart_192 C (y0 := ((1 : Int32) <<< (x2 &&& 31))) (y1 := ((upd mrh y2.toNatClampNeg (y1 ||| y0)) x3.toNatClampNeg)) (y2 := x3) (mflags := mflags) (mtubs := mtubs) (mpegs := mpegs) (mcl := mcl) (mws := mws) (mho := mho) (mnow := mnow) (mrd := mrd) (mrh := (upd mrh y2.toNatClampNeg (y1 ||| y0))) (mrf := mrf) (mtx := mtx) (mlen := mlen) (mat := mat) (mfa := mfa) (mac := mac) (mnx := mnx) (mrow := mrow) (msn := msn) (mso := mso) (msc := msc) (msw := msw) (mseed := mseed) (mik := mik) (mkp := mkp)  h
set_option maxHeartbeats 4000000 in
set_option maxRecDepth 100000 in
theorem LX10_readPart_98 {p : Program} {l : Launch} {e : Env} {s : State} {m : MethodId} {args : Array Value} {below : List Frame} {meth : Method} {c : Code} {D : va_G} {cyI cyZ cyW : ClassId} {zW zO : Nat} {A : Nat → Prop} (C : Cx p s m args meth c cX10_readPart RX10 "readPart" wsX10_readPart none 4 D (tyA cyI cyZ cyW) zW zO A) {md : Nat → Nat} {mflags : Int32} {mtubs : Int32} {mpegs : Int32} {mcl : (Nat → Int32)} {mws : (Nat → Int32)} {mho : (Nat → Int32)} {mnow : (Nat → Int32)} {mrd : (Nat → Int32)} {mrh : (Nat → Int32)} {mrf : Int32} {mtx : (Nat → Int32)} {mlen : Int32} {mat : Int32} {mfa : Int32} {mac : Int32} {mnx : Int32} {mrow : (Nat → Int32)} {msn : Int32} {mso : (Nat → Int32)} {msc : (Nat → Int32)} {msw : (Nat → Int32)} {mseed : Int64} {mik : (Nat → Int32)} {mkp : (Nat → Int32)} {x1 : Int32}  {res : (Nat → Int32) × (Nat → Int32) × Int32 × Int32 × Int32}  (h : fX10_readPart_98  x1 mrd mrh mrf mtx mlen mat mfa = some res) : Mx p l e ({ frames := 2, cells := 0, slots := 0, locals := 48 } : Room) s m args below meth c (MQ below (QV D (tyA cyI cyZ cyW) A (wMO cyI cyZ cyW md mflags mtubs mpegs mcl mws mho mnow res.1 res.2.1 res.2.2.1 mtx mlen res.2.2.2.1 res.2.2.2.2 mac mnx mrow msn mso msc msw mseed mik mkp)) args s 0 0 A) 4 D A 0 0 (wMO cyI cyZ cyW md mflags mtubs mpegs mcl mws mho mnow mrd mrh mrf mtx mlen mat mfa mac mnx mrow msn mso msc msw mseed mik mkp) 98 [(0, .ref (md 0)), (1, .int x1)] [] := by
  unfold fX10_readPart_98 at h
  refine r_iload_n C dX10_readPart_98 1 rfl rfl ?_
  refine r_bipush (v := 72) C dX10_readPart_99 bp_72 ?_
  refine r_icmp_ne (tgt := 197) C dX10_readPart_101 (by decide) (fun c9 => ?_) (fun c9 => ?_)
  · replace h := ob_f h c9
    refine r_lv (lv' := [(0, .ref (md 0))]) [0] rfl ?_
    exact LX10_readPart_197 C (mflags := mflags) (mtubs := mtubs) (mpegs := mpegs) (mcl := mcl) (mws := mws) (mho := mho) (mnow := mnow) (mrd := mrd) (mrh := mrh) (mrf := mrf) (mtx := mtx) (mlen := mlen) (mat := mat) (mfa := mfa) (mac := mac) (mnx := mnx) (mrow := mrow) (msn := msn) (mso := mso) (msc := msc) (msw := msw) (mseed := mseed) (mik := mik) (mkp := mkp)  h
  · replace h := ob_t h c9
    refine r_aload_n C dX10_readPart_104 0 rfl rfl ?_
    obtain ⟨u10, hu10, h⟩ := ob_bind h
    refine r_readVI (q0 := 0) (As := []) (rest := []) C (kX10_firstsLeft (md := md) (mflags := mflags) (mtubs := mtubs) (mpegs := mpegs) (mcl := mcl) (mws := mws) (mho := mho) (mnow := mnow) (mrd := mrd) (mrh := mrh) (mrf := mrf) (mtx := mtx) (mlen := mlen) (mat := mat) (mfa := mfa) (mac := mac) (mnx := mnx) (mrow := mrow) (msn := msn) (mso := mso) (msc := msc) (msw := msw) (mseed := mseed) (mik := mik) (mkp := mkp)  hu10) gX10_readPart_X10_firstsLeft rfl rfl rfl ⟨rfl, hd_X10_firstsLeft⟩ ⟨by decide, by decide⟩ rfl rfl rfl rfl [0, 1, 2, 3, 4, 5, 6, 7, 8, 9, 10, 11, 12, 13] (by decide) in_76 rfl (Nat.le_of_ble_eq_true rfl) dX10_readPart_105 ⟨Nat.zero_le _, Nat.zero_le _⟩ ?_
    refine r_if_eq (tgt := 197) C dX10_readPart_108 (by decide) (fun c11 => ?_) (fun c11 => ?_)
    · replace h := ob_t h c11
      refine r_lv (lv' := [(0, .ref (md 0))]) [0] rfl ?_
      exact LX10_readPart_197 C (mflags := mflags) (mtubs := mtubs) (mpegs := mpegs) (mcl := mcl) (mws := mws) (mho := mho) (mnow := mnow) (mrd := mrd) (mrh := mrh) (mrf := mrf) (mtx := mtx) (mlen := mlen) (mat := mat) (mfa := mfa) (mac := mac) (mnx := mnx) (mrow := mrow) (msn := msn) (mso := mso) (msc := msc) (msw := msw) (mseed := mseed) (mik := mik) (mkp := mkp)  h
    · replace h := ob_f h c11
      refine r_aload_n C dX10_readPart_111 0 rfl rfl ?_
      refine r_dup C dX10_readPart_112 rfl ?_
      refine r_get (ci := 7) (CC := RX10) (T := TX10) (N := 24) (v := .int mat) C hinX10_readPart_X10 0 rfl rfl 12 (by decide) mX10_readPart_2 rfl rfl dX10_readPart_113 ?_
      refine r_iconst (v := 1) C dX10_readPart_116 ic_1 ?_
      refine r_iadd C dX10_readPart_117 ?_
      refine r_put (ci := 7) (CC := RX10) (T := TX10) (N := 24) (v := .int (mat + (1 : Int32))) (ws1 := (wMO cyI cyZ cyW md mflags mtubs mpegs mcl mws mho mnow mrd mrh mrf mtx mlen (mat + (1 : Int32)) mfa mac mnx mrow msn mso msc msw mseed mik mkp)) (ty := .int) C hinX10_readPart_X10 tyX10 tyX10_ok nmX10 0 rfl rfl 12 (by decide) mX10_readPart_2 rfl rfl rfl rfl rfl (Nat.le_of_ble_eq_true rfl) rfl dX10_readPart_118 ?_
      refine r_aload_n C dX10_readPart_121 0 rfl rfl ?_
      refine r_bipush (v := 48) C dX10_readPart_122 bp_48 ?_
      refine r_aload_n C dX10_readPart_124 0 rfl rfl ?_
      obtain ⟨u12, hu12, h⟩ := ob_bind h
      refine r_readVI (q0 := 0) (As := []) (rest := [.int (48 : Int32), .ref (md 0)]) C (kX10_firstsLeft (md := md) (mflags := mflags) (mtubs := mtubs) (mpegs := mpegs) (mcl := mcl) (mws := mws) (mho := mho) (mnow := mnow) (mrd := mrd) (mrh := mrh) (mrf := mrf) (mtx := mtx) (mlen := mlen) (mat := (mat + (1 : Int32))) (mfa := mfa) (mac := mac) (mnx := mnx) (mrow := mrow) (msn := msn) (mso := mso) (msc := msc) (msw := msw) (mseed := mseed) (mik := mik) (mkp := mkp)  hu12) gX10_readPart_X10_firstsLeft rfl rfl rfl ⟨rfl, hd_X10_firstsLeft⟩ ⟨by decide, by decide⟩ rfl rfl rfl rfl [0, 1, 2, 3, 4, 5, 6, 7, 8, 9, 10, 11, 12, 13] (by decide) in_76 rfl (Nat.le_of_ble_eq_true rfl) dX10_readPart_125 ⟨Nat.zero_le _, Nat.zero_le _⟩ ?_
      obtain ⟨u13, hu13, h⟩ := ob_bind h
      refine r_callVI (q0 := 0) (As := [.int (48 : Int32), .int u12]) (rest := []) (ws1 := (wMO cyI cyZ cyW md mflags mtubs mpegs mcl mws mho mnow mrd mrh mrf mtx mlen u13.2.1 u13.2.2 mac mnx mrow msn mso msc msw mseed mik mkp)) C (kX10_takeOf (md := md) (mflags := mflags) (mtubs := mtubs) (mpegs := mpegs) (mcl := mcl) (mws := mws) (mho := mho) (mnow := mnow) (mrd := mrd) (mrh := mrh) (mrf := mrf) (mtx := mtx) (mlen := mlen) (mat := (mat + (1 : Int32))) (mfa := mfa) (mac := mac) (mnx := mnx) (mrow := mrow) (msn := msn) (mso := mso) (msc := msc) (msw := msw) (mseed := mseed) (mik := mik) (mkp := mkp) (x1 := (48 : Int32)) (x2 := u12) hu13) gX10_readPart_X10_takeOf rfl rfl rfl ⟨rfl, hd_X10_takeOf⟩ ⟨by decide, by decide⟩ rfl rfl rfl rfl [0, 1, 2, 3, 4, 5, 6, 7, 8, 9, 10, 11, 12, 13] (by decide) in_77 se_77 (adrMO.trans adrMO.symm) rfl (Nat.le_of_ble_eq_true rfl) dX10_readPart_128 ⟨Nat.zero_le _, Nat.zero_le _⟩ ?_
      refine r_istore_n (lv' := [(2, .int u13.1), (0, .ref (md 0)), (1, .int x1)]) C dX10_readPart_131 rfl (by decide) rfl ?_
      refine r_aload_n C dX10_readPart_132 1 rfl rfl ?_
      refine r_bipush (v := 48) C dX10_readPart_133 bp_48 ?_
      refine r_aload_n C dX10_readPart_135 1 rfl rfl ?_
      refine r_iload_n C dX10_readPart_136 0 rfl rfl ?_
      obtain ⟨u14, hu14, h⟩ := ob_bind h
      refine r_readVI (q0 := 0) (As := [.int u13.1]) (rest := [.int (48 : Int32), .ref (md 0)]) C (kX10_left (md := md) (mflags := mflags) (mtubs := mtubs) (mpegs := mpegs) (mcl := mcl) (mws := mws) (mho := mho) (mnow := mnow) (mrd := mrd) (mrh := mrh) (mrf := mrf) (mtx := mtx) (mlen := mlen) (mat := u13.2.1) (mfa := u13.2.2) (mac := mac) (mnx := mnx) (mrow := mrow) (msn := msn) (mso := mso) (msc := msc) (msw := msw) (mseed := mseed) (mik := mik) (mkp := mkp) (x1 := u13.1) hu14) gX10_readPart_X10_left rfl rfl rfl ⟨rfl, hd_X10_left⟩ ⟨by decide, by decide⟩ rfl rfl rfl rfl [0, 1, 2, 3, 4, 5, 6, 7, 8, 9, 10, 11, 12, 13] (by decide) in_76 rfl (Nat.le_of_ble_eq_true rfl) dX10_readPart_137 ⟨Nat.zero_le _, Nat.zero_le _⟩ ?_
      obtain ⟨u15, hu15, h⟩ := ob_bind h
      refine r_callVI (q0 := 0) (As := [.int (48 : Int32), .int u14]) (rest := []) (ws1 := (wMO cyI cyZ cyW md mflags mtubs mpegs mcl mws mho mnow mrd mrh mrf mtx mlen u15.2.1 u15.2.2 mac mnx mrow msn mso msc msw mseed mik mkp)) C (kX10_takeOf (md := md) (mflags := mflags) (mtubs := mtubs) (mpegs := mpegs) (mcl := mcl) (mws := mws) (mho := mho) (mnow := mnow) (mrd := mrd) (mrh := mrh) (mrf := mrf) (mtx := mtx) (mlen := mlen) (mat := u13.2.1) (mfa := u13.2.2) (mac := mac) (mnx := mnx) (mrow := mrow) (msn := msn) (mso := mso) (msc := msc) (msw := msw) (mseed := mseed) (mik := mik) (mkp := mkp) (x1 := (48 : Int32)) (x2 := u14) hu15) gX10_readPart_X10_takeOf rfl rfl rfl ⟨rfl, hd_X10_takeOf⟩ ⟨by decide, by decide⟩ rfl rfl rfl rfl [0, 1, 2, 3, 4, 5, 6, 7, 8, 9, 10, 11, 12, 13] (by decide) in_77 se_77 (adrMO.trans adrMO.symm) rfl (Nat.le_of_ble_eq_true rfl) dX10_readPart_140 ⟨Nat.zero_le _, Nat.zero_le _⟩ ?_
      refine r_istore_n (lv' := [(3, .int u15.1), (2, .int u13.1), (0, .ref (md 0)), (1, .int x1)]) C dX10_readPart_143 rfl (by decide) rfl ?_
      refine r_aload_n C dX10_readPart_144 2 rfl rfl ?_
      refine r_get (ci := 7) (CC := RX10) (T := TX10) (N := 24) (v := .ref (md 6)) C hinX10_readPart_X10 0 rfl rfl 8 (by decide) mX10_readPart_5 rfl rfl dX10_readPart_145 ?_
      refine r_iload_n C dX10_readPart_148 1 rfl rfl ?_
      refine r_dup2 C dX10_readPart_149 rfl rfl ?_
      obtain ⟨hu16, h⟩ := ob_if h
      refine r_iald C 6 0 rfl rfl (inb_vp hu16) dX10_readPart_150 ?_
      refine r_aload_n C dX10_readPart_151 2 rfl rfl ?_
      refine r_get (ci := 7) (CC := RX10) (T := TX10) (N := 24) (v := .int u15.2.2) C hinX10_readPart_X10 0 rfl rfl 13 (by decide) mX10_readPart_6 rfl rfl dX10_readPart_152 ?_
      refine r_bipush (v := -9) C dX10_readPart_155 bp_m9 ?_
      refine r_icmp_ne (tgt := 166) C dX10_readPart_157 (by decide) (fun c17 => ?_) (fun c17 => ?_)
      · replace h := ob_f h c17
        refine r_iconst (v := 0) C dX10_readPart_166 ic_0 ?_
        refine r_lv (lv' := [(0, .ref (md 0)), (2, .int u13.1), (3, .int u15.1)]) [2, 1, 0] rfl ?_
        exact LX10_readPart_167 C (x2 := u13.1) (x3 := u15.1) (y0 := (0 : Int32)) (y1 := (mrh u13.1.toNatClampNeg)) (y2 := u13.1) (mflags := mflags) (mtubs := mtubs) (mpegs := mpegs) (mcl := mcl) (mws := mws) (mho := mho) (mnow := mnow) (mrd := mrd) (mrh := mrh) (mrf := mrf) (mtx := mtx) (mlen := mlen) (mat := u15.2.1) (mfa := u15.2.2) (mac := mac) (mnx := mnx) (mrow := mrow) (msn := msn) (mso := mso) (msc := msc) (msw := msw) (mseed := mseed) (mik := mik) (mkp := mkp)  h
      · replace h := ob_t h c17
        refine r_iconst (v := 1) C dX10_readPart_160 ic_1 ?_
        refine r_iload_n C dX10_readPart_161 0 rfl rfl ?_
        refine r_ishl C dX10_readPart_162 ?_
        refine r_goto (tgt := 167) C dX10_readPart_163 (by decide) ?_
        refine r_lv (lv' := [(0, .ref (md 0)), (2, .int u13.1), (3, .int u15.1)]) [2, 1, 0] rfl ?_
        exact LX10_readPart_167 C (x2 := u13.1) (x3 := u15.1) (y0 := ((1 : Int32) <<< (u15.1 &&& 31))) (y1 := (mrh u13.1.toNatClampNeg)) (y2 := u13.1) (mflags := mflags) (mtubs := mtubs) (mpegs := mpegs) (mcl := mcl) (mws := mws) (mho := mho) (mnow := mnow) (mrd := mrd) (mrh := mrh) (mrf := mrf) (mtx := mtx) (mlen := mlen) (mat := u15.2.1) (mfa := u15.2.2) (mac := mac) (mnx := mnx) (mrow := mrow) (msn := msn) (mso := mso) (msc := msc) (msw := msw) (mseed := mseed) (mik := mik) (mkp := mkp)  h
set_option maxHeartbeats 4000000 in
set_option maxRecDepth 100000 in
theorem kX10_readPart {l : Launch} {D : va_G} {cyI cyZ cyW : ClassId} {zW zO : Nat} {md : Nat → Nat} {mflags : Int32} {mtubs : Int32} {mpegs : Int32} {mcl : (Nat → Int32)} {mws : (Nat → Int32)} {mho : (Nat → Int32)} {mnow : (Nat → Int32)} {mrd : (Nat → Int32)} {mrh : (Nat → Int32)} {mrf : Int32} {mtx : (Nat → Int32)} {mlen : Int32} {mat : Int32} {mfa : Int32} {mac : Int32} {mnx : Int32} {mrow : (Nat → Int32)} {msn : Int32} {mso : (Nat → Int32)} {msc : (Nat → Int32)} {msw : (Nat → Int32)} {mseed : Int64} {mik : (Nat → Int32)} {mkp : (Nat → Int32)} {x1 : Int32} {res : (Nat → Int32) × (Nat → Int32) × Int32 × Int32 × Int32} (h : fX10_readPart x1 mrd mrh mrf mtx mlen mat mfa = some res) : KV l yX10_readPart wsX10_readPart ({ frames := 2, cells := 0, slots := 0, locals := 48 } : Room) D (tyA cyI cyZ cyW) zW zO [.ref (md 0), .int x1] (wMO cyI cyZ cyW md mflags mtubs mpegs mcl mws mho mnow mrd mrh mrf mtx mlen mat mfa mac mnx mrow msn mso msc msw mseed mik mkp) (wMO cyI cyZ cyW md mflags mtubs mpegs mcl mws mho mnow res.1 res.2.1 res.2.2.1 mtx mlen res.2.2.2.1 res.2.2.2.2 mac mnx mrow msn mso msc msw mseed mik mkp) := by
  refine enterV (cc := cX10_readPart) (nL := 4) (ret := none) (by decide) rfl (Nat.le_of_ble_eq_true rfl) (fun p e s m below meth c A C => ?_)
  refine r_lv (lv' := [(0, .ref (md 0)), (1, .int x1)]) [0, 1] rfl ?_
  unfold fX10_readPart at h
  refine r_iload_n C dX10_readPart_0 1 rfl rfl ?_
  refine r_bipush (v := 70) C dX10_readPart_1 bp_70 ?_
  refine r_icmp_ne (tgt := 98) C dX10_readPart_3 (by decide) (fun c1 => ?_) (fun c1 => ?_)
  · replace h := ob_f h c1
    refine r_lv (lv' := [(0, .ref (md 0)), (1, .int x1)]) [0, 1] rfl ?_
    exact LX10_readPart_98 C (x1 := x1) (mflags := mflags) (mtubs := mtubs) (mpegs := mpegs) (mcl := mcl) (mws := mws) (mho := mho) (mnow := mnow) (mrd := mrd) (mrh := mrh) (mrf := mrf) (mtx := mtx) (mlen := mlen) (mat := mat) (mfa := mfa) (mac := mac) (mnx := mnx) (mrow := mrow) (msn := msn) (mso := mso) (msc := msc) (msw := msw) (mseed := mseed) (mik := mik) (mkp := mkp)  h
  · replace h := ob_t h c1
    refine r_aload_n C dX10_readPart_6 0 rfl rfl ?_
    refine r_get (ci := 7) (CC := RX10) (T := TX10) (N := 24) (v := .int mrf) C hinX10_readPart_X10 0 rfl rfl 9 (by decide) mX10_readPart_1 rfl rfl dX10_readPart_7 ?_
    refine r_iconst (v := 5) C dX10_readPart_10 ic_5 ?_
    refine r_icmp_ge (tgt := 98) C dX10_readPart_11 (by decide) (fun c2 => ?_) (fun c2 => ?_)
    · replace h := ob_t h c2
      refine r_lv (lv' := [(0, .ref (md 0)), (1, .int x1)]) [0, 1] rfl ?_
      exact LX10_readPart_98 C (x1 := x1) (mflags := mflags) (mtubs := mtubs) (mpegs := mpegs) (mcl := mcl) (mws := mws) (mho := mho) (mnow := mnow) (mrd := mrd) (mrh := mrh) (mrf := mrf) (mtx := mtx) (mlen := mlen) (mat := mat) (mfa := mfa) (mac := mac) (mnx := mnx) (mrow := mrow) (msn := msn) (mso := mso) (msc := msc) (msw := msw) (mseed := mseed) (mik := mik) (mkp := mkp)  h
    · replace h := ob_f h c2
      refine r_aload_n C dX10_readPart_14 0 rfl rfl ?_
      refine r_dup C dX10_readPart_15 rfl ?_
      refine r_get (ci := 7) (CC := RX10) (T := TX10) (N := 24) (v := .int mat) C hinX10_readPart_X10 0 rfl rfl 12 (by decide) mX10_readPart_2 rfl rfl dX10_readPart_16 ?_
      refine r_iconst (v := 1) C dX10_readPart_19 ic_1 ?_
      refine r_iadd C dX10_readPart_20 ?_
      refine r_put (ci := 7) (CC := RX10) (T := TX10) (N := 24) (v := .int (mat + (1 : Int32))) (ws1 := (wMO cyI cyZ cyW md mflags mtubs mpegs mcl mws mho mnow mrd mrh mrf mtx mlen (mat + (1 : Int32)) mfa mac mnx mrow msn mso msc msw mseed mik mkp)) (ty := .int) C hinX10_readPart_X10 tyX10 tyX10_ok nmX10 0 rfl rfl 12 (by decide) mX10_readPart_2 rfl rfl rfl rfl rfl (Nat.le_of_ble_eq_true rfl) rfl dX10_readPart_21 ?_
      refine r_aload_n C dX10_readPart_24 0 rfl rfl ?_
      refine r_get (ci := 7) (CC := RX10) (T := TX10) (N := 24) (v := .ref (md 5)) C hinX10_readPart_X10 0 rfl rfl 7 (by decide) mX10_readPart_3 rfl rfl dX10_readPart_25 ?_
      refine r_iconst (v := 3) C dX10_readPart_28 ic_3 ?_
      refine r_aload_n C dX10_readPart_29 0 rfl rfl ?_
      refine r_get (ci := 7) (CC := RX10) (T := TX10) (N := 24) (v := .int mrf) C hinX10_readPart_X10 0 rfl rfl 9 (by decide) mX10_readPart_1 rfl rfl dX10_readPart_30 ?_
      refine r_imul C dX10_readPart_33 ?_
      refine r_aload_n C dX10_readPart_34 0 rfl rfl ?_
      refine r_bipush (v := 97) C dX10_readPart_35 bp_97 ?_
      refine r_ldc (v := 65535) C mX10_readPart_4 dX10_readPart_37 ?_
      obtain ⟨u3, hu3, h⟩ := ob_bind h
      refine r_callVI (q0 := 0) (As := [.int (97 : Int32), .int (65535 : Int32)]) (rest := [.int ((3 : Int32) * mrf), .ref (md 5)]) (ws1 := (wMO cyI cyZ cyW md mflags mtubs mpegs mcl mws mho mnow mrd mrh mrf mtx mlen u3.2.1 u3.2.2 mac mnx mrow msn mso msc msw mseed mik mkp)) C (kX10_takeOf (md := md) (mflags := mflags) (mtubs := mtubs) (mpegs := mpegs) (mcl := mcl) (mws := mws) (mho := mho) (mnow := mnow) (mrd := mrd) (mrh := mrh) (mrf := mrf) (mtx := mtx) (mlen := mlen) (mat := (mat + (1 : Int32))) (mfa := mfa) (mac := mac) (mnx := mnx) (mrow := mrow) (msn := msn) (mso := mso) (msc := msc) (msw := msw) (mseed := mseed) (mik := mik) (mkp := mkp) (x1 := (97 : Int32)) (x2 := (65535 : Int32)) hu3) gX10_readPart_X10_takeOf rfl rfl rfl ⟨rfl, hd_X10_takeOf⟩ ⟨by decide, by decide⟩ rfl rfl rfl rfl [0, 1, 2, 3, 4, 5, 6, 7, 8, 9, 10, 11, 12, 13] (by decide) in_77 se_77 (adrMO.trans adrMO.symm) rfl (Nat.le_of_ble_eq_true rfl) dX10_readPart_39 ⟨Nat.zero_le _, Nat.zero_le _⟩ ?_
      obtain ⟨hu4, h⟩ := ob_if h
      refine r_iast (ws1 := (wMO cyI cyZ cyW md mflags mtubs mpegs mcl mws mho mnow (upd mrd ((3 : Int32) * mrf).toNatClampNeg u3.1) mrh mrf mtx mlen u3.2.1 u3.2.2 mac mnx mrow msn mso msc msw mseed mik mkp)) C 5 0 rfl rfl (inb_vp hu4) rfl dX10_readPart_42 ?_
      refine r_aload_n C dX10_readPart_43 0 rfl rfl ?_
      refine r_get (ci := 7) (CC := RX10) (T := TX10) (N := 24) (v := .ref (md 5)) C hinX10_readPart_X10 0 rfl rfl 7 (by decide) mX10_readPart_3 rfl rfl dX10_readPart_44 ?_
      refine r_iconst (v := 3) C dX10_readPart_47 ic_3 ?_
      refine r_aload_n C dX10_readPart_48 0 rfl rfl ?_
      refine r_get (ci := 7) (CC := RX10) (T := TX10) (N := 24) (v := .int mrf) C hinX10_readPart_X10 0 rfl rfl 9 (by decide) mX10_readPart_1 rfl rfl dX10_readPart_49 ?_
      refine r_imul C dX10_readPart_52 ?_
      refine r_iconst (v := 1) C dX10_readPart_53 ic_1 ?_
      refine r_iadd C dX10_readPart_54 ?_
      refine r_aload_n C dX10_readPart_55 0 rfl rfl ?_
      refine r_bipush (v := 48) C dX10_readPart_56 bp_48 ?_
      refine r_bipush (v := 15) C dX10_readPart_58 bp_15 ?_
      obtain ⟨u5, hu5, h⟩ := ob_bind h
      refine r_callVI (q0 := 0) (As := [.int (48 : Int32), .int (15 : Int32)]) (rest := [.int (((3 : Int32) * mrf) + (1 : Int32)), .ref (md 5)]) (ws1 := (wMO cyI cyZ cyW md mflags mtubs mpegs mcl mws mho mnow (upd mrd ((3 : Int32) * mrf).toNatClampNeg u3.1) mrh mrf mtx mlen u5.2.1 u5.2.2 mac mnx mrow msn mso msc msw mseed mik mkp)) C (kX10_takeOf (md := md) (mflags := mflags) (mtubs := mtubs) (mpegs := mpegs) (mcl := mcl) (mws := mws) (mho := mho) (mnow := mnow) (mrd := (upd mrd ((3 : Int32) * mrf).toNatClampNeg u3.1)) (mrh := mrh) (mrf := mrf) (mtx := mtx) (mlen := mlen) (mat := u3.2.1) (mfa := u3.2.2) (mac := mac) (mnx := mnx) (mrow := mrow) (msn := msn) (mso := mso) (msc := msc) (msw := msw) (mseed := mseed) (mik := mik) (mkp := mkp) (x1 := (48 : Int32)) (x2 := (15 : Int32)) hu5) gX10_readPart_X10_takeOf rfl rfl rfl ⟨rfl, hd_X10_takeOf⟩ ⟨by decide, by decide⟩ rfl rfl rfl rfl [0, 1, 2, 3, 4, 5, 6, 7, 8, 9, 10, 11, 12, 13] (by decide) in_77 se_77 (adrMO.trans adrMO.symm) rfl (Nat.le_of_ble_eq_true rfl) dX10_readPart_60 ⟨Nat.zero_le _, Nat.zero_le _⟩ ?_
      obtain ⟨hu6, h⟩ := ob_if h
      refine r_iast (ws1 := (wMO cyI cyZ cyW md mflags mtubs mpegs mcl mws mho mnow (upd (upd mrd ((3 : Int32) * mrf).toNatClampNeg u3.1) (((3 : Int32) * mrf) + (1 : Int32)).toNatClampNeg u5.1) mrh mrf mtx mlen u5.2.1 u5.2.2 mac mnx mrow msn mso msc msw mseed mik mkp)) C 5 0 rfl rfl (inb_vp hu6) rfl dX10_readPart_63 ?_
      refine r_aload_n C dX10_readPart_64 0 rfl rfl ?_
      refine r_get (ci := 7) (CC := RX10) (T := TX10) (N := 24) (v := .ref (md 5)) C hinX10_readPart_X10 0 rfl rfl 7 (by decide) mX10_readPart_3 rfl rfl dX10_readPart_65 ?_
      refine r_iconst (v := 3) C dX10_readPart_68 ic_3 ?_
      refine r_aload_n C dX10_readPart_69 0 rfl rfl ?_
      refine r_get (ci := 7) (CC := RX10) (T := TX10) (N := 24) (v := .int mrf) C hinX10_readPart_X10 0 rfl rfl 9 (by decide) mX10_readPart_1 rfl rfl dX10_readPart_70 ?_
      refine r_imul C dX10_readPart_73 ?_
      refine r_iconst (v := 2) C dX10_readPart_74 ic_2 ?_
      refine r_iadd C dX10_readPart_75 ?_
      refine r_aload_n C dX10_readPart_76 0 rfl rfl ?_
      refine r_bipush (v := 48) C dX10_readPart_77 bp_48 ?_
      refine r_bipush (v := 30) C dX10_readPart_79 bp_30 ?_
      obtain ⟨u7, hu7, h⟩ := ob_bind h
      refine r_callVI (q0 := 0) (As := [.int (48 : Int32), .int (30 : Int32)]) (rest := [.int (((3 : Int32) * mrf) + (2 : Int32)), .ref (md 5)]) (ws1 := (wMO cyI cyZ cyW md mflags mtubs mpegs mcl mws mho mnow (upd (upd mrd ((3 : Int32) * mrf).toNatClampNeg u3.1) (((3 : Int32) * mrf) + (1 : Int32)).toNatClampNeg u5.1) mrh mrf mtx mlen u7.2.1 u7.2.2 mac mnx mrow msn mso msc msw mseed mik mkp)) C (kX10_takeOf (md := md) (mflags := mflags) (mtubs := mtubs) (mpegs := mpegs) (mcl := mcl) (mws := mws) (mho := mho) (mnow := mnow) (mrd := (upd (upd mrd ((3 : Int32) * mrf).toNatClampNeg u3.1) (((3 : Int32) * mrf) + (1 : Int32)).toNatClampNeg u5.1)) (mrh := mrh) (mrf := mrf) (mtx := mtx) (mlen := mlen) (mat := u5.2.1) (mfa := u5.2.2) (mac := mac) (mnx := mnx) (mrow := mrow) (msn := msn) (mso := mso) (msc := msc) (msw := msw) (mseed := mseed) (mik := mik) (mkp := mkp) (x1 := (48 : Int32)) (x2 := (30 : Int32)) hu7) gX10_readPart_X10_takeOf rfl rfl rfl ⟨rfl, hd_X10_takeOf⟩ ⟨by decide, by decide⟩ rfl rfl rfl rfl [0, 1, 2, 3, 4, 5, 6, 7, 8, 9, 10, 11, 12, 13] (by decide) in_77 se_77 (adrMO.trans adrMO.symm) rfl (Nat.le_of_ble_eq_true rfl) dX10_readPart_81 ⟨Nat.zero_le _, Nat.zero_le _⟩ ?_
      obtain ⟨hu8, h⟩ := ob_if h
      refine r_iast (ws1 := (wMO cyI cyZ cyW md mflags mtubs mpegs mcl mws mho mnow (upd (upd (upd mrd ((3 : Int32) * mrf).toNatClampNeg u3.1) (((3 : Int32) * mrf) + (1 : Int32)).toNatClampNeg u5.1) (((3 : Int32) * mrf) + (2 : Int32)).toNatClampNeg u7.1) mrh mrf mtx mlen u7.2.1 u7.2.2 mac mnx mrow msn mso msc msw mseed mik mkp)) C 5 0 rfl rfl (inb_vp hu8) rfl dX10_readPart_84 ?_
      refine r_aload_n C dX10_readPart_85 0 rfl rfl ?_
      refine r_dup C dX10_readPart_86 rfl ?_
      refine r_get (ci := 7) (CC := RX10) (T := TX10) (N := 24) (v := .int mrf) C hinX10_readPart_X10 0 rfl rfl 9 (by decide) mX10_readPart_1 rfl rfl dX10_readPart_87 ?_
      refine r_iconst (v := 1) C dX10_readPart_90 ic_1 ?_
      refine r_iadd C dX10_readPart_91 ?_
      refine r_put (ci := 7) (CC := RX10) (T := TX10) (N := 24) (v := .int (mrf + (1 : Int32))) (ws1 := (wMO cyI cyZ cyW md mflags mtubs mpegs mcl mws mho mnow (upd (upd (upd mrd ((3 : Int32) * mrf).toNatClampNeg u3.1) (((3 : Int32) * mrf) + (1 : Int32)).toNatClampNeg u5.1) (((3 : Int32) * mrf) + (2 : Int32)).toNatClampNeg u7.1) mrh (mrf + (1 : Int32)) mtx mlen u7.2.1 u7.2.2 mac mnx mrow msn mso msc msw mseed mik mkp)) (ty := .int) C hinX10_readPart_X10 tyX10 tyX10_ok nmX10 0 rfl rfl 9 (by decide) mX10_readPart_1 rfl rfl rfl rfl rfl (Nat.le_of_ble_eq_true rfl) rfl dX10_readPart_92 ?_
      refine r_goto (tgt := 205) C dX10_readPart_95 (by decide) ?_
      have h9 := Option.some.inj h
      subst h9
      exact r_vret C rfl dX10_readPart_205
