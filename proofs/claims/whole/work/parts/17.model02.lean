/-! ===== FlagWashModel.readText ===== -/
def gX10_readText_88 (rec88 : (Nat → Int32) → (Nat → Int32) → Int32 → Int32 → Int32 → Option (Int32 × (Nat → Int32) × (Nat → Int32) × Int32 × Int32 × Int32)) (mrd : (Nat → Int32)) (mrh : (Nat → Int32)) (mrf : Int32) (mtx : (Nat → Int32)) (mlen : Int32) (mat : Int32) (mfa : Int32) : Option (Int32 × (Nat → Int32) × (Nat → Int32) × Int32 × Int32 × Int32) :=
 (if mfa = (-9 : Int32) then (if mlen ≤ mat then (some (mfa, mrd, mrh, mrf, mat, mfa))
 else (if inb mat 48 = true then ((fX10_readPart (mtx mat.toNatClampNeg) mrd mrh mrf mtx mlen mat mfa).bind fun u11 => (rec88 u11.1 u11.2.1 u11.2.2.1 u11.2.2.2.1 u11.2.2.2.2)) else none))
 else (some (mfa, mrd, mrh, mrf, mat, mfa)))
def fX10_readText_88  (mtx : (Nat → Int32)) (mlen : Int32) : Nat → (Nat → Int32) → (Nat → Int32) → Int32 → Int32 → Int32 → Option (Int32 × (Nat → Int32) × (Nat → Int32) × Int32 × Int32 × Int32)
  | 0 => fun _ _ _ _ _ => none
  | n + 1 => fun mrd mrh mrf mat mfa => gX10_readText_88 (fX10_readText_88  mtx mlen n) mrd mrh mrf mtx mlen mat mfa
def gX10_readText_18 (rec18 : Int32 → (Nat → Int32) → Option (Int32 × (Nat → Int32) × (Nat → Int32) × Int32 × Int32 × Int32)) (x1 : Int32) (mrd : (Nat → Int32)) (mrh : (Nat → Int32)) (mrf : Int32) (mtx : (Nat → Int32)) (mlen : Int32) (mat : Int32) (mfa : Int32) : Option (Int32 × (Nat → Int32) × (Nat → Int32) × Int32 × Int32 × Int32) :=
 (if (5 : Int32) ≤ x1 then (if mlen = 0 then (some ((0 : Int32), mrd, mrh, mrf, mat, mfa))
 else (if (mtx (0 : Int32).toNatClampNeg) = (85 : Int32) then ((fX10_takeOf (48 : Int32) (14 : Int32) mtx mlen (1 : Int32) mfa).bind fun u4 => ((fX10_takeOf (48 : Int32) (30 : Int32) mtx mlen u4.2.1 u4.2.2).bind fun u5 => ((fX10_takeOf (48 : Int32) (7 : Int32) mtx mlen u5.2.1 u5.2.2).bind fun u6 => (fX10_readText_88  mtx mlen FU mrd mrh mrf u6.2.1 u6.2.2))))
 else (some ((0 : Int32), mrd, mrh, mrf, mat, mfa))))
 else (if inb x1 5 = true then (rec18 (x1 + (1 : Int32)) (upd mrh x1.toNatClampNeg (0 : Int32))) else none))
def fX10_readText_18  (mrd : (Nat → Int32)) (mrf : Int32) (mtx : (Nat → Int32)) (mlen : Int32) (mat : Int32) (mfa : Int32) : Nat → Int32 → (Nat → Int32) → Option (Int32 × (Nat → Int32) × (Nat → Int32) × Int32 × Int32 × Int32)
  | 0 => fun _ _ => none
  | n + 1 => fun x1 mrh => gX10_readText_18 (fX10_readText_18  mrd mrf mtx mlen mat mfa n) x1 mrd mrh mrf mtx mlen mat mfa
def fX10_readText  (mrd : (Nat → Int32)) (mrh : (Nat → Int32)) (mtx : (Nat → Int32)) (mlen : Int32) : Option (Int32 × (Nat → Int32) × (Nat → Int32) × Int32 × Int32 × Int32) :=
 (fX10_readText_18  mrd (0 : Int32) mtx mlen (0 : Int32) (-9 : Int32) FU (0 : Int32) mrh)
theorem hinX10_readText_X10 : ∀ w ∈ u_ws RX10 TX10 24, w ∈ wsX10_readText := fun w h => List.mem_cons_of_mem _ (List.mem_append_right _ h)
theorem mX10_readText_1 : Cond.fieldLink RX10 69 "FlagWashModel" "at" "I" ∈ wsX10_readText := List.mem_of_getElem? (i := 1) rfl
theorem mX10_readText_2 : Cond.fieldLink RX10 66 "FlagWashModel" "faultAt" "I" ∈ wsX10_readText := List.mem_of_getElem? (i := 2) rfl
theorem mX10_readText_3 : Cond.fieldLink RX10 78 "FlagWashModel" "readFlags" "I" ∈ wsX10_readText := List.mem_of_getElem? (i := 3) rfl
theorem mX10_readText_5 : Cond.fieldLink RX10 63 "FlagWashModel" "length" "I" ∈ wsX10_readText := List.mem_of_getElem? (i := 5) rfl
theorem mX10_readText_6 : Cond.fieldLink RX10 28 "FlagWashModel" "text" "[I" ∈ wsX10_readText := List.mem_of_getElem? (i := 6) rfl
theorem mX10_readText_4 : Cond.fieldLink RX10 25 "FlagWashModel" "readHostile" "[I" ∈ wsX10_readText := List.mem_of_getElem? (i := 4) rfl
theorem hd_X10_readText : yX10_readText.cls ≠ "java/lang/invoke/MethodHandle" ∧ yX10_readText.cls ≠ "java/lang/invoke/VarHandle" ∧ (parseMethodDescriptor yX10_readText.desc).map (fun d => d.parameters.length) = some 0 := by decide +kernel
set_option maxHeartbeats 4000000 in
set_option maxRecDepth 100000 in
theorem LGX10_readText_88 {p : Program} {l : Launch} {e : Env} {s : State} {m : MethodId} {args : Array Value} {below : List Frame} {meth : Method} {c : Code} {D : va_G} {cyI cyZ cyW : ClassId} {zW zO : Nat} {A : Nat → Prop} (C : Cx p s m args meth c cX10_readText RX10 "readText" wsX10_readText (some .int) 2 D (tyA cyI cyZ cyW) zW zO A) {md : Nat → Nat} {mflags : Int32} {mtubs : Int32} {mpegs : Int32} {mcl : (Nat → Int32)} {mws : (Nat → Int32)} {mho : (Nat → Int32)} {mnow : (Nat → Int32)} {mrd : (Nat → Int32)} {mrh : (Nat → Int32)} {mrf : Int32} {mtx : (Nat → Int32)} {mlen : Int32} {mat : Int32} {mfa : Int32} {mac : Int32} {mnx : Int32} {mrow : (Nat → Int32)} {msn : Int32} {mso : (Nat → Int32)} {msc : (Nat → Int32)} {msw : (Nat → Int32)} {mseed : Int64} {mik : (Nat → Int32)} {mkp : (Nat → Int32)}  {rec88 : (Nat → Int32) → (Nat → Int32) → Int32 → Int32 → Int32 → Option (Int32 × (Nat → Int32) × (Nat → Int32) × Int32 × Int32 × Int32)} {res : Int32 × (Nat → Int32) × (Nat → Int32) × Int32 × Int32 × Int32} (hrec88 : ∀ (mrd : (Nat → Int32)) (mrh : (Nat → Int32)) (mrf : Int32) (mat : Int32) (mfa : Int32), rec88 mrd mrh mrf mat mfa = some res → Mx p l e ({ frames := 3, cells := 0, slots := 0, locals := 71 } : Room) s m args below meth c (MQ below (QI D (tyA cyI cyZ cyW) A (wMO cyI cyZ cyW md mflags mtubs mpegs mcl mws mho mnow res.2.1 res.2.2.1 res.2.2.2.1 mtx mlen res.2.2.2.2.1 res.2.2.2.2.2 mac mnx mrow msn mso msc msw mseed mik mkp) res.1) args s 0 0 A) 2 D A 0 0 (wMO cyI cyZ cyW md mflags mtubs mpegs mcl mws mho mnow mrd mrh mrf mtx mlen mat mfa mac mnx mrow msn mso msc msw mseed mik mkp) 88 [(0, .ref (md 0))] []) (h : gX10_readText_88 rec88 mrd mrh mrf mtx mlen mat mfa = some res) : Mx p l e ({ frames := 3, cells := 0, slots := 0, locals := 71 } : Room) s m args below meth c (MQ below (QI D (tyA cyI cyZ cyW) A (wMO cyI cyZ cyW md mflags mtubs mpegs mcl mws mho mnow res.2.1 res.2.2.1 res.2.2.2.1 mtx mlen res.2.2.2.2.1 res.2.2.2.2.2 mac mnx mrow msn mso msc msw mseed mik mkp) res.1) args s 0 0 A) 2 D A 0 0 (wMO cyI cyZ cyW md mflags mtubs mpegs mcl mws mho mnow mrd mrh mrf mtx mlen mat mfa mac mnx mrow msn mso msc msw mseed mik mkp) 88 [(0, .ref (md 0))] [] := by
  unfold gX10_readText_88 at h
  refine r_aload_n C dX10_readText_88 0 rfl rfl ?_
  refine r_get (ci := 7) (CC := RX10) (T := TX10) (N := 24) (v := .int mfa) C hinX10_readText_X10 0 rfl rfl 13 (by decide) mX10_readText_2 rfl rfl dX10_readText_89 ?_
  refine r_bipush (v := -9) C dX10_readText_92 bp_m9 ?_
  refine r_icmp_ne (tgt := 124) C dX10_readText_94 (by decide) (fun c8 => ?_) (fun c8 => ?_)
  · replace h := ob_f h c8
    refine r_aload_n C dX10_readText_124 0 rfl rfl ?_
    refine r_get (ci := 7) (CC := RX10) (T := TX10) (N := 24) (v := .int mfa) C hinX10_readText_X10 0 rfl rfl 13 (by decide) mX10_readText_2 rfl rfl dX10_readText_125 ?_
    have h9 := Option.some.inj h
    subst h9
    exact r_iret C rfl dX10_readText_128
  · replace h := ob_t h c8
    refine r_aload_n C dX10_readText_97 0 rfl rfl ?_
    refine r_get (ci := 7) (CC := RX10) (T := TX10) (N := 24) (v := .int mat) C hinX10_readText_X10 0 rfl rfl 12 (by decide) mX10_readText_1 rfl rfl dX10_readText_98 ?_
    refine r_aload_n C dX10_readText_101 0 rfl rfl ?_
    refine r_get (ci := 7) (CC := RX10) (T := TX10) (N := 24) (v := .int mlen) C hinX10_readText_X10 0 rfl rfl 11 (by decide) mX10_readText_5 rfl rfl dX10_readText_102 ?_
    refine r_icmp_ge (tgt := 124) C dX10_readText_105 (by decide) (fun c9 => ?_) (fun c9 => ?_)
    · replace h := ob_t h c9
      refine r_aload_n C dX10_readText_124 0 rfl rfl ?_
      refine r_get (ci := 7) (CC := RX10) (T := TX10) (N := 24) (v := .int mfa) C hinX10_readText_X10 0 rfl rfl 13 (by decide) mX10_readText_2 rfl rfl dX10_readText_125 ?_
      have h9 := Option.some.inj h
      subst h9
      exact r_iret C rfl dX10_readText_128
    · replace h := ob_f h c9
      refine r_aload_n C dX10_readText_108 0 rfl rfl ?_
      refine r_aload_n C dX10_readText_109 0 rfl rfl ?_
      refine r_get (ci := 7) (CC := RX10) (T := TX10) (N := 24) (v := .ref (md 7)) C hinX10_readText_X10 0 rfl rfl 10 (by decide) mX10_readText_6 rfl rfl dX10_readText_110 ?_
      refine r_aload_n C dX10_readText_113 0 rfl rfl ?_
      refine r_get (ci := 7) (CC := RX10) (T := TX10) (N := 24) (v := .int mat) C hinX10_readText_X10 0 rfl rfl 12 (by decide) mX10_readText_1 rfl rfl dX10_readText_114 ?_
      obtain ⟨hu10, h⟩ := ob_if h
      refine r_iald C 7 0 rfl rfl (inb_vp hu10) dX10_readText_117 ?_
      obtain ⟨u11, hu11, h⟩ := ob_bind h
      refine r_callVV (q0 := 0) (As := [.int (mtx mat.toNatClampNeg)]) (rest := []) (ws1 := (wMO cyI cyZ cyW md mflags mtubs mpegs mcl mws mho mnow u11.1 u11.2.1 u11.2.2.1 mtx mlen u11.2.2.2.1 u11.2.2.2.2 mac mnx mrow msn mso msc msw mseed mik mkp)) C (kX10_readPart (md := md) (mflags := mflags) (mtubs := mtubs) (mpegs := mpegs) (mcl := mcl) (mws := mws) (mho := mho) (mnow := mnow) (mrd := mrd) (mrh := mrh) (mrf := mrf) (mtx := mtx) (mlen := mlen) (mat := mat) (mfa := mfa) (mac := mac) (mnx := mnx) (mrow := mrow) (msn := msn) (mso := mso) (msc := msc) (msw := msw) (mseed := mseed) (mik := mik) (mkp := mkp) (x1 := (mtx mat.toNatClampNeg)) hu11) gX10_readText_X10_readPart rfl rfl rfl ⟨rfl, hd_X10_readPart⟩ ⟨by decide, by decide⟩ rfl rfl rfl rfl [0, 1, 2, 3, 4, 5, 6, 7, 8, 9, 10, 11, 12, 13] (by decide) in_78 se_78 (adrMO.trans adrMO.symm) rfl (Nat.le_of_ble_eq_true rfl) dX10_readText_118 ⟨Nat.zero_le _, Nat.zero_le _⟩ ?_
      refine r_goto (tgt := 88) C dX10_readText_121 (by decide) ?_
      refine r_lv (lv' := [(0, .ref (md 0))]) [0] rfl ?_
      exact hrec88 u11.1 u11.2.1 u11.2.2.1 u11.2.2.2.1 u11.2.2.2.2 h
set_option maxHeartbeats 4000000 in
set_option maxRecDepth 100000 in
theorem LX10_readText_88 {p : Program} {l : Launch} {e : Env} {s : State} {m : MethodId} {args : Array Value} {below : List Frame} {meth : Method} {c : Code} {D : va_G} {cyI cyZ cyW : ClassId} {zW zO : Nat} {A : Nat → Prop} (C : Cx p s m args meth c cX10_readText RX10 "readText" wsX10_readText (some .int) 2 D (tyA cyI cyZ cyW) zW zO A) {md : Nat → Nat} {mflags : Int32} {mtubs : Int32} {mpegs : Int32} {mcl : (Nat → Int32)} {mws : (Nat → Int32)} {mho : (Nat → Int32)} {mnow : (Nat → Int32)} {mtx : (Nat → Int32)} {mlen : Int32} {mac : Int32} {mnx : Int32} {mrow : (Nat → Int32)} {msn : Int32} {mso : (Nat → Int32)} {msc : (Nat → Int32)} {msw : (Nat → Int32)} {mseed : Int64} {mik : (Nat → Int32)} {mkp : (Nat → Int32)}  {res : Int32 × (Nat → Int32) × (Nat → Int32) × Int32 × Int32 × Int32}  : ∀ (n : Nat) (mrd : (Nat → Int32)) (mrh : (Nat → Int32)) (mrf : Int32) (mat : Int32) (mfa : Int32), fX10_readText_88  mtx mlen n mrd mrh mrf mat mfa = some res → Mx p l e ({ frames := 3, cells := 0, slots := 0, locals := 71 } : Room) s m args below meth c (MQ below (QI D (tyA cyI cyZ cyW) A (wMO cyI cyZ cyW md mflags mtubs mpegs mcl mws mho mnow res.2.1 res.2.2.1 res.2.2.2.1 mtx mlen res.2.2.2.2.1 res.2.2.2.2.2 mac mnx mrow msn mso msc msw mseed mik mkp) res.1) args s 0 0 A) 2 D A 0 0 (wMO cyI cyZ cyW md mflags mtubs mpegs mcl mws mho mnow mrd mrh mrf mtx mlen mat mfa mac mnx mrow msn mso msc msw mseed mik mkp) 88 [(0, .ref (md 0))] [] := by
  intro n
  induction n with
  | zero => intro mrd mrh mrf mat mfa h; cases h
  | succ n ih => intro mrd mrh mrf mat mfa h; exact LGX10_readText_88 C ih h
set_option maxHeartbeats 4000000 in
set_option maxRecDepth 100000 in
theorem LGX10_readText_18 {p : Program} {l : Launch} {e : Env} {s : State} {m : MethodId} {args : Array Value} {below : List Frame} {meth : Method} {c : Code} {D : va_G} {cyI cyZ cyW : ClassId} {zW zO : Nat} {A : Nat → Prop} (C : Cx p s m args meth c cX10_readText RX10 "readText" wsX10_readText (some .int) 2 D (tyA cyI cyZ cyW) zW zO A) {md : Nat → Nat} {mflags : Int32} {mtubs : Int32} {mpegs : Int32} {mcl : (Nat → Int32)} {mws : (Nat → Int32)} {mho : (Nat → Int32)} {mnow : (Nat → Int32)} {mrd : (Nat → Int32)} {mrh : (Nat → Int32)} {mrf : Int32} {mtx : (Nat → Int32)} {mlen : Int32} {mat : Int32} {mfa : Int32} {mac : Int32} {mnx : Int32} {mrow : (Nat → Int32)} {msn : Int32} {mso : (Nat → Int32)} {msc : (Nat → Int32)} {msw : (Nat → Int32)} {mseed : Int64} {mik : (Nat → Int32)} {mkp : (Nat → Int32)} {x1 : Int32} {rec18 : Int32 → (Nat → Int32) → Option (Int32 × (Nat → Int32) × (Nat → Int32) × Int32 × Int32 × Int32)} {res : Int32 × (Nat → Int32) × (Nat → Int32) × Int32 × Int32 × Int32} (hrec18 : ∀ (x1 : Int32) (mrh : (Nat → Int32)), rec18 x1 mrh = some res → Mx p l e ({ frames := 3, cells := 0, slots := 0, locals := 71 } : Room) s m args below meth c (MQ below (QI D (tyA cyI cyZ cyW) A (wMO cyI cyZ cyW md mflags mtubs mpegs mcl mws mho mnow res.2.1 res.2.2.1 res.2.2.2.1 mtx mlen res.2.2.2.2.1 res.2.2.2.2.2 mac mnx mrow msn mso msc msw mseed mik mkp) res.1) args s 0 0 A) 2 D A 0 0 (wMO cyI cyZ cyW md mflags mtubs mpegs mcl mws mho mnow mrd mrh mrf mtx mlen mat mfa mac mnx mrow msn mso msc msw mseed mik mkp) 18 [(0, .ref (md 0)), (1, .int x1)] []) (h : gX10_readText_18 rec18 x1 mrd mrh mrf mtx mlen mat mfa = some res) : Mx p l e ({ frames := 3, cells := 0, slots := 0, locals := 71 } : Room) s m args below meth c (MQ below (QI D (tyA cyI cyZ cyW) A (wMO cyI cyZ cyW md mflags mtubs mpegs mcl mws mho mnow res.2.1 res.2.2.1 res.2.2.2.1 mtx mlen res.2.2.2.2.1 res.2.2.2.2.2 mac mnx mrow msn mso msc msw mseed mik mkp) res.1) args s 0 0 A) 2 D A 0 0 (wMO cyI cyZ cyW md mflags mtubs mpegs mcl mws mho mnow mrd mrh mrf mtx mlen mat mfa mac mnx mrow msn mso msc msw mseed mik mkp) 18 [(0, .ref (md 0)), (1, .int x1)] [] := by
  unfold gX10_readText_18 at h
  refine r_iload_n C dX10_readText_18 1 rfl rfl ?_
  refine r_iconst (v := 5) C dX10_readText_19 ic_5 ?_
  refine r_icmp_ge (tgt := 36) C dX10_readText_20 (by decide) (fun c1 => ?_) (fun c1 => ?_)
  · replace h := ob_t h c1
    refine r_aload_n C dX10_readText_36 0 rfl rfl ?_
    refine r_get (ci := 7) (CC := RX10) (T := TX10) (N := 24) (v := .int mlen) C hinX10_readText_X10 0 rfl rfl 11 (by decide) mX10_readText_5 rfl rfl dX10_readText_37 ?_
    refine r_if_eq (tgt := 54) C dX10_readText_40 (by decide) (fun c2 => ?_) (fun c2 => ?_)
    · replace h := ob_t h c2
      refine r_iconst (v := 0) C dX10_readText_54 ic_0 ?_
      have h9 := Option.some.inj h
      subst h9
      exact r_iret C rfl dX10_readText_55
    · replace h := ob_f h c2
      refine r_aload_n C dX10_readText_43 0 rfl rfl ?_
      refine r_get (ci := 7) (CC := RX10) (T := TX10) (N := 24) (v := .ref (md 7)) C hinX10_readText_X10 0 rfl rfl 10 (by decide) mX10_readText_6 rfl rfl dX10_readText_44 ?_
      refine r_iconst (v := 0) C dX10_readText_47 ic_0 ?_
      refine r_iald C 7 0 rfl rfl (inb_vp (by decide)) dX10_readText_48 ?_
      refine r_bipush (v := 85) C dX10_readText_49 bp_85 ?_
      refine r_icmp_eq (tgt := 56) C dX10_readText_51 (by decide) (fun c3 => ?_) (fun c3 => ?_)
      · replace h := ob_t h c3
        refine r_aload_n C dX10_readText_56 0 rfl rfl ?_
        refine r_iconst (v := 1) C dX10_readText_57 ic_1 ?_
        refine r_put (ci := 7) (CC := RX10) (T := TX10) (N := 24) (v := .int (1 : Int32)) (ws1 := (wMO cyI cyZ cyW md mflags mtubs mpegs mcl mws mho mnow mrd mrh mrf mtx mlen (1 : Int32) mfa mac mnx mrow msn mso msc msw mseed mik mkp)) (ty := .int) C hinX10_readText_X10 tyX10 tyX10_ok nmX10 0 rfl rfl 12 (by decide) mX10_readText_1 rfl rfl rfl rfl rfl (Nat.le_of_ble_eq_true rfl) rfl dX10_readText_58 ?_
        refine r_aload_n C dX10_readText_61 0 rfl rfl ?_
        refine r_bipush (v := 48) C dX10_readText_62 bp_48 ?_
        refine r_bipush (v := 14) C dX10_readText_64 bp_14 ?_
        obtain ⟨u4, hu4, h⟩ := ob_bind h
        refine r_callVI (q0 := 0) (As := [.int (48 : Int32), .int (14 : Int32)]) (rest := []) (ws1 := (wMO cyI cyZ cyW md mflags mtubs mpegs mcl mws mho mnow mrd mrh mrf mtx mlen u4.2.1 u4.2.2 mac mnx mrow msn mso msc msw mseed mik mkp)) C (kX10_takeOf (md := md) (mflags := mflags) (mtubs := mtubs) (mpegs := mpegs) (mcl := mcl) (mws := mws) (mho := mho) (mnow := mnow) (mrd := mrd) (mrh := mrh) (mrf := mrf) (mtx := mtx) (mlen := mlen) (mat := (1 : Int32)) (mfa := mfa) (mac := mac) (mnx := mnx) (mrow := mrow) (msn := msn) (mso := mso) (msc := msc) (msw := msw) (mseed := mseed) (mik := mik) (mkp := mkp) (x1 := (48 : Int32)) (x2 := (14 : Int32)) hu4) gX10_readText_X10_takeOf rfl rfl rfl ⟨rfl, hd_X10_takeOf⟩ ⟨by decide, by decide⟩ rfl rfl rfl rfl [0, 1, 2, 3, 4, 5, 6, 7, 8, 9, 10, 11, 12, 13] (by decide) in_77 se_77 (adrMO.trans adrMO.symm) rfl (Nat.le_of_ble_eq_true rfl) dX10_readText_66 ⟨Nat.zero_le _, Nat.zero_le _⟩ ?_
        refine r_pop C dX10_readText_69 rfl ?_
        refine r_aload_n C dX10_readText_70 0 rfl rfl ?_
        refine r_bipush (v := 48) C dX10_readText_71 bp_48 ?_
        refine r_bipush (v := 30) C dX10_readText_73 bp_30 ?_
        obtain ⟨u5, hu5, h⟩ := ob_bind h
        refine r_callVI (q0 := 0) (As := [.int (48 : Int32), .int (30 : Int32)]) (rest := []) (ws1 := (wMO cyI cyZ cyW md mflags mtubs mpegs mcl mws mho mnow mrd mrh mrf mtx mlen u5.2.1 u5.2.2 mac mnx mrow msn mso msc msw mseed mik mkp)) C (kX10_takeOf (md := md) (mflags := mflags) (mtubs := mtubs) (mpegs := mpegs) (mcl := mcl) (mws := mws) (mho := mho) (mnow := mnow) (mrd := mrd) (mrh := mrh) (mrf := mrf) (mtx := mtx) (mlen := mlen) (mat := u4.2.1) (mfa := u4.2.2) (mac := mac) (mnx := mnx) (mrow := mrow) (msn := msn) (mso := mso) (msc := msc) (msw := msw) (mseed := mseed) (mik := mik) (mkp := mkp) (x1 := (48 : Int32)) (x2 := (30 : Int32)) hu5) gX10_readText_X10_takeOf rfl rfl rfl ⟨rfl, hd_X10_takeOf⟩ ⟨by decide, by decide⟩ rfl rfl rfl rfl [0, 1, 2, 3, 4, 5, 6, 7, 8, 9, 10, 11, 12, 13] (by decide) in_77 se_77 (adrMO.trans adrMO.symm) rfl (Nat.le_of_ble_eq_true rfl) dX10_readText_75 ⟨Nat.zero_le _, Nat.zero_le _⟩ ?_
        refine r_pop C dX10_readText_78 rfl ?_
        refine r_aload_n C dX10_readText_79 0 rfl rfl ?_
        refine r_bipush (v := 48) C dX10_readText_80 bp_48 ?_
        refine r_bipush (v := 7) C dX10_readText_82 bp_7 ?_
        obtain ⟨u6, hu6, h⟩ := ob_bind h
        refine r_callVI (q0 := 0) (As := [.int (48 : Int32), .int (7 : Int32)]) (rest := []) (ws1 := (wMO cyI cyZ cyW md mflags mtubs mpegs mcl mws mho mnow mrd mrh mrf mtx mlen u6.2.1 u6.2.2 mac mnx mrow msn mso msc msw mseed mik mkp)) C (kX10_takeOf (md := md) (mflags := mflags) (mtubs := mtubs) (mpegs := mpegs) (mcl := mcl) (mws := mws) (mho := mho) (mnow := mnow) (mrd := mrd) (mrh := mrh) (mrf := mrf) (mtx := mtx) (mlen := mlen) (mat := u5.2.1) (mfa := u5.2.2) (mac := mac) (mnx := mnx) (mrow := mrow) (msn := msn) (mso := mso) (msc := msc) (msw := msw) (mseed := mseed) (mik := mik) (mkp := mkp) (x1 := (48 : Int32)) (x2 := (7 : Int32)) hu6) gX10_readText_X10_takeOf rfl rfl rfl ⟨rfl, hd_X10_takeOf⟩ ⟨by decide, by decide⟩ rfl rfl rfl rfl [0, 1, 2, 3, 4, 5, 6, 7, 8, 9, 10, 11, 12, 13] (by decide) in_77 se_77 (adrMO.trans adrMO.symm) rfl (Nat.le_of_ble_eq_true rfl) dX10_readText_84 ⟨Nat.zero_le _, Nat.zero_le _⟩ ?_
        refine r_pop C dX10_readText_87 rfl ?_
        refine r_lv (lv' := [(0, .ref (md 0))]) [0] rfl ?_
        exact LX10_readText_88 C (mflags := mflags) (mtubs := mtubs) (mpegs := mpegs) (mcl := mcl) (mws := mws) (mho := mho) (mnow := mnow) (mtx := mtx) (mlen := mlen) (mac := mac) (mnx := mnx) (mrow := mrow) (msn := msn) (mso := mso) (msc := msc) (msw := msw) (mseed := mseed) (mik := mik) (mkp := mkp)  FU mrd mrh mrf u6.2.1 u6.2.2 h
      · replace h := ob_f h c3
        refine r_iconst (v := 0) C dX10_readText_54 ic_0 ?_
        have h9 := Option.some.inj h
        subst h9
        exact r_iret C rfl dX10_readText_55
  · replace h := ob_f h c1
    refine r_aload_n C dX10_readText_23 0 rfl rfl ?_
    refine r_get (ci := 7) (CC := RX10) (T := TX10) (N := 24) (v := .ref (md 6)) C hinX10_readText_X10 0 rfl rfl 8 (by decide) mX10_readText_4 rfl rfl dX10_readText_24 ?_
    refine r_iload_n C dX10_readText_27 1 rfl rfl ?_
    refine r_iconst (v := 0) C dX10_readText_28 ic_0 ?_
    obtain ⟨hu7, h⟩ := ob_if h
    refine r_iast (ws1 := (wMO cyI cyZ cyW md mflags mtubs mpegs mcl mws mho mnow mrd (upd mrh x1.toNatClampNeg (0 : Int32)) mrf mtx mlen mat mfa mac mnx mrow msn mso msc msw mseed mik mkp)) C 6 0 rfl rfl (inb_vp hu7) rfl dX10_readText_29 ?_
    refine r_iinc (v := 1) (lv' := [(1, .int (x1 + (1 : Int32))), (0, .ref (md 0))]) C dX10_readText_30 1 rfl ic_1 (by decide) rfl ?_
    refine r_goto (tgt := 18) C dX10_readText_33 (by decide) ?_
    refine r_lv (lv' := [(0, .ref (md 0)), (1, .int (x1 + (1 : Int32)))]) [1, 0] rfl ?_
    exact hrec18 (x1 + (1 : Int32)) (upd mrh x1.toNatClampNeg (0 : Int32)) h
set_option maxHeartbeats 4000000 in
set_option maxRecDepth 100000 in
theorem LX10_readText_18 {p : Program} {l : Launch} {e : Env} {s : State} {m : MethodId} {args : Array Value} {below : List Frame} {meth : Method} {c : Code} {D : va_G} {cyI cyZ cyW : ClassId} {zW zO : Nat} {A : Nat → Prop} (C : Cx p s m args meth c cX10_readText RX10 "readText" wsX10_readText (some .int) 2 D (tyA cyI cyZ cyW) zW zO A) {md : Nat → Nat} {mflags : Int32} {mtubs : Int32} {mpegs : Int32} {mcl : (Nat → Int32)} {mws : (Nat → Int32)} {mho : (Nat → Int32)} {mnow : (Nat → Int32)} {mrd : (Nat → Int32)} {mrf : Int32} {mtx : (Nat → Int32)} {mlen : Int32} {mat : Int32} {mfa : Int32} {mac : Int32} {mnx : Int32} {mrow : (Nat → Int32)} {msn : Int32} {mso : (Nat → Int32)} {msc : (Nat → Int32)} {msw : (Nat → Int32)} {mseed : Int64} {mik : (Nat → Int32)} {mkp : (Nat → Int32)}  {res : Int32 × (Nat → Int32) × (Nat → Int32) × Int32 × Int32 × Int32}  : ∀ (n : Nat) (x1 : Int32) (mrh : (Nat → Int32)), fX10_readText_18  mrd mrf mtx mlen mat mfa n x1 mrh = some res → Mx p l e ({ frames := 3, cells := 0, slots := 0, locals := 71 } : Room) s m args below meth c (MQ below (QI D (tyA cyI cyZ cyW) A (wMO cyI cyZ cyW md mflags mtubs mpegs mcl mws mho mnow res.2.1 res.2.2.1 res.2.2.2.1 mtx mlen res.2.2.2.2.1 res.2.2.2.2.2 mac mnx mrow msn mso msc msw mseed mik mkp) res.1) args s 0 0 A) 2 D A 0 0 (wMO cyI cyZ cyW md mflags mtubs mpegs mcl mws mho mnow mrd mrh mrf mtx mlen mat mfa mac mnx mrow msn mso msc msw mseed mik mkp) 18 [(0, .ref (md 0)), (1, .int x1)] [] := by
  intro n
  induction n with
  | zero => intro x1 mrh h; cases h
  | succ n ih => intro x1 mrh h; exact LGX10_readText_18 C ih h
set_option maxHeartbeats 4000000 in
set_option maxRecDepth 100000 in
theorem kX10_readText {l : Launch} {D : va_G} {cyI cyZ cyW : ClassId} {zW zO : Nat} {md : Nat → Nat} {mflags : Int32} {mtubs : Int32} {mpegs : Int32} {mcl : (Nat → Int32)} {mws : (Nat → Int32)} {mho : (Nat → Int32)} {mnow : (Nat → Int32)} {mrd : (Nat → Int32)} {mrh : (Nat → Int32)} {mrf : Int32} {mtx : (Nat → Int32)} {mlen : Int32} {mat : Int32} {mfa : Int32} {mac : Int32} {mnx : Int32} {mrow : (Nat → Int32)} {msn : Int32} {mso : (Nat → Int32)} {msc : (Nat → Int32)} {msw : (Nat → Int32)} {mseed : Int64} {mik : (Nat → Int32)} {mkp : (Nat → Int32)}  {res : Int32 × (Nat → Int32) × (Nat → Int32) × Int32 × Int32 × Int32} (h : fX10_readText mrd mrh mtx mlen = some res) : KI l yX10_readText wsX10_readText ({ frames := 3, cells := 0, slots := 0, locals := 71 } : Room) D (tyA cyI cyZ cyW) zW zO [.ref (md 0)] (wMO cyI cyZ cyW md mflags mtubs mpegs mcl mws mho mnow mrd mrh mrf mtx mlen mat mfa mac mnx mrow msn mso msc msw mseed mik mkp) (wMO cyI cyZ cyW md mflags mtubs mpegs mcl mws mho mnow res.2.1 res.2.2.1 res.2.2.2.1 mtx mlen res.2.2.2.2.1 res.2.2.2.2.2 mac mnx mrow msn mso msc msw mseed mik mkp) res.1 := by
  refine enterI (cc := cX10_readText) (nL := 2) (ret := (some .int)) (by decide) rfl (Nat.le_of_ble_eq_true rfl) (fun p e s m below meth c A C => ?_)
  refine r_lv (lv' := [(0, .ref (md 0))]) [0] rfl ?_
  unfold fX10_readText at h
  refine r_aload_n C dX10_readText_0 0 rfl rfl ?_
  refine r_iconst (v := 0) C dX10_readText_1 ic_0 ?_
  refine r_put (ci := 7) (CC := RX10) (T := TX10) (N := 24) (v := .int (0 : Int32)) (ws1 := (wMO cyI cyZ cyW md mflags mtubs mpegs mcl mws mho mnow mrd mrh mrf mtx mlen (0 : Int32) mfa mac mnx mrow msn mso msc msw mseed mik mkp)) (ty := .int) C hinX10_readText_X10 tyX10 tyX10_ok nmX10 0 rfl rfl 12 (by decide) mX10_readText_1 rfl rfl rfl rfl rfl (Nat.le_of_ble_eq_true rfl) rfl dX10_readText_2 ?_
  refine r_aload_n C dX10_readText_5 0 rfl rfl ?_
  refine r_bipush (v := -9) C dX10_readText_6 bp_m9 ?_
  refine r_put (ci := 7) (CC := RX10) (T := TX10) (N := 24) (v := .int (-9 : Int32)) (ws1 := (wMO cyI cyZ cyW md mflags mtubs mpegs mcl mws mho mnow mrd mrh mrf mtx mlen (0 : Int32) (-9 : Int32) mac mnx mrow msn mso msc msw mseed mik mkp)) (ty := .int) C hinX10_readText_X10 tyX10 tyX10_ok nmX10 0 rfl rfl 13 (by decide) mX10_readText_2 rfl rfl rfl rfl rfl (Nat.le_of_ble_eq_true rfl) rfl dX10_readText_8 ?_
  refine r_aload_n C dX10_readText_11 0 rfl rfl ?_
  refine r_iconst (v := 0) C dX10_readText_12 ic_0 ?_
  refine r_put (ci := 7) (CC := RX10) (T := TX10) (N := 24) (v := .int (0 : Int32)) (ws1 := (wMO cyI cyZ cyW md mflags mtubs mpegs mcl mws mho mnow mrd mrh (0 : Int32) mtx mlen (0 : Int32) (-9 : Int32) mac mnx mrow msn mso msc msw mseed mik mkp)) (ty := .int) C hinX10_readText_X10 tyX10 tyX10_ok nmX10 0 rfl rfl 9 (by decide) mX10_readText_3 rfl rfl rfl rfl rfl (Nat.le_of_ble_eq_true rfl) rfl dX10_readText_13 ?_
  refine r_iconst (v := 0) C dX10_readText_16 ic_0 ?_
  refine r_istore_n (lv' := [(1, .int (0 : Int32)), (0, .ref (md 0))]) C dX10_readText_17 rfl (by decide) rfl ?_
  refine r_lv (lv' := [(0, .ref (md 0)), (1, .int (0 : Int32))]) [1, 0] rfl ?_
  exact LX10_readText_18 C (mflags := mflags) (mtubs := mtubs) (mpegs := mpegs) (mcl := mcl) (mws := mws) (mho := mho) (mnow := mnow) (mrd := mrd) (mrf := (0 : Int32)) (mtx := mtx) (mlen := mlen) (mat := (0 : Int32)) (mfa := (-9 : Int32)) (mac := mac) (mnx := mnx) (mrow := mrow) (msn := msn) (mso := mso) (msc := msc) (msw := msw) (mseed := mseed) (mik := mik) (mkp := mkp)  FU (0 : Int32) mrh h

/-! ===== FlagWashModel.fault ===== -/
def fX10_fault  (mrd : (Nat → Int32)) (mrh : (Nat → Int32)) (mtx : (Nat → Int32)) (mlen : Int32) : Option (Int32 × (Nat → Int32) × (Nat → Int32) × Int32 × Int32 × Int32) :=
 ((fX10_readText mrd mrh mtx mlen).bind fun u1 => (some (u1.1, u1.2.1, u1.2.2.1, u1.2.2.2.1, u1.2.2.2.2.1, u1.2.2.2.2.2)))
theorem hd_X10_fault : yX10_fault.cls ≠ "java/lang/invoke/MethodHandle" ∧ yX10_fault.cls ≠ "java/lang/invoke/VarHandle" ∧ (parseMethodDescriptor yX10_fault.desc).map (fun d => d.parameters.length) = some 0 := by decide +kernel
set_option maxHeartbeats 4000000 in
set_option maxRecDepth 100000 in
theorem kX10_fault {l : Launch} {D : va_G} {cyI cyZ cyW : ClassId} {zW zO : Nat} {md : Nat → Nat} {mflags : Int32} {mtubs : Int32} {mpegs : Int32} {mcl : (Nat → Int32)} {mws : (Nat → Int32)} {mho : (Nat → Int32)} {mnow : (Nat → Int32)} {mrd : (Nat → Int32)} {mrh : (Nat → Int32)} {mrf : Int32} {mtx : (Nat → Int32)} {mlen : Int32} {mat : Int32} {mfa : Int32} {mac : Int32} {mnx : Int32} {mrow : (Nat → Int32)} {msn : Int32} {mso : (Nat → Int32)} {msc : (Nat → Int32)} {msw : (Nat → Int32)} {mseed : Int64} {mik : (Nat → Int32)} {mkp : (Nat → Int32)}  {res : Int32 × (Nat → Int32) × (Nat → Int32) × Int32 × Int32 × Int32} (h : fX10_fault mrd mrh mtx mlen = some res) : KI l yX10_fault wsX10_fault ({ frames := 4, cells := 0, slots := 0, locals := 92 } : Room) D (tyA cyI cyZ cyW) zW zO [.ref (md 0)] (wMO cyI cyZ cyW md mflags mtubs mpegs mcl mws mho mnow mrd mrh mrf mtx mlen mat mfa mac mnx mrow msn mso msc msw mseed mik mkp) (wMO cyI cyZ cyW md mflags mtubs mpegs mcl mws mho mnow res.2.1 res.2.2.1 res.2.2.2.1 mtx mlen res.2.2.2.2.1 res.2.2.2.2.2 mac mnx mrow msn mso msc msw mseed mik mkp) res.1 := by
  refine enterI (cc := cX10_fault) (nL := 1) (ret := (some .int)) (by decide) rfl (Nat.le_of_ble_eq_true rfl) (fun p e s m below meth c A C => ?_)
  refine r_lv (lv' := [(0, .ref (md 0))]) [0] rfl ?_
  unfold fX10_fault at h
  refine r_aload_n C dX10_fault_0 0 rfl rfl ?_
  obtain ⟨u1, hu1, h⟩ := ob_bind h
  refine r_callVI (q0 := 0) (As := []) (rest := []) (ws1 := (wMO cyI cyZ cyW md mflags mtubs mpegs mcl mws mho mnow u1.2.1 u1.2.2.1 u1.2.2.2.1 mtx mlen u1.2.2.2.2.1 u1.2.2.2.2.2 mac mnx mrow msn mso msc msw mseed mik mkp)) C (kX10_readText (md := md) (mflags := mflags) (mtubs := mtubs) (mpegs := mpegs) (mcl := mcl) (mws := mws) (mho := mho) (mnow := mnow) (mrd := mrd) (mrh := mrh) (mrf := mrf) (mtx := mtx) (mlen := mlen) (mat := mat) (mfa := mfa) (mac := mac) (mnx := mnx) (mrow := mrow) (msn := msn) (mso := mso) (msc := msc) (msw := msw) (mseed := mseed) (mik := mik) (mkp := mkp)  hu1) gX10_fault_X10_readText rfl rfl rfl ⟨rfl, hd_X10_readText⟩ ⟨by decide, by decide⟩ rfl rfl rfl rfl [0, 1, 2, 3, 4, 5, 6, 7, 8, 9, 10, 11, 12, 13] (by decide) in_78 se_78 (adrMO.trans adrMO.symm) rfl (Nat.le_of_ble_eq_true rfl) dX10_fault_1 ⟨Nat.zero_le _, Nat.zero_le _⟩ ?_
  have h9 := Option.some.inj h
  subst h9
  exact r_iret C rfl dX10_fault_4
