/-! ===== FlagWashModel.laundry ===== -/
def gX10_laundry_85 (rec85 : Int32 → (Nat → Int32) → (Nat → Int32) → (Nat → Int32) → (Nat → Int32) → Option (Int32 × Int32 × Int32 × Int32 × (Nat → Int32) × (Nat → Int32) × (Nat → Int32) × (Nat → Int32) × (Nat → Int32) × (Nat → Int32) × Int32 × Int32 × Int32 × Int32 × (Nat → Int32))) (x1 : Int32) (mflags : Int32) (mtubs : Int32) (mpegs : Int32) (mcl : (Nat → Int32)) (mws : (Nat → Int32)) (mho : (Nat → Int32)) (mnow : (Nat → Int32)) (mrd : (Nat → Int32)) (mrh : (Nat → Int32)) (mrf : Int32) (mat : Int32) (mfa : Int32) (mik : (Nat → Int32)) : Option (Int32 × Int32 × Int32 × Int32 × (Nat → Int32) × (Nat → Int32) × (Nat → Int32) × (Nat → Int32) × (Nat → Int32) × (Nat → Int32) × Int32 × Int32 × Int32 × Int32 × (Nat → Int32)) :=
 (if mflags ≤ x1 then (some (mflags, mflags, mtubs, mpegs, mcl, mws, mho, mnow, mrd, mrh, mrf, mat, mfa, (0 : Int32), (upd (upd mik (0 : Int32).toNatClampNeg (0 : Int32)) (1 : Int32).toNatClampNeg (0 : Int32))))
 else (if inb ((3 : Int32) * x1) 15 = true then (if inb x1 34 = true then (if inb (((3 : Int32) * x1) + (1 : Int32)) 15 = true then (if inb x1 5 = true then (if inb (((3 : Int32) * x1) + (2 : Int32)) 15 = true then (if inb x1 5 = true then (if inb x1 5 = true then (if inb x1 5 = true then (rec85 (x1 + (1 : Int32)) (upd mcl x1.toNatClampNeg (mrd (((3 : Int32) * x1) + (1 : Int32)).toNatClampNeg)) (upd mws x1.toNatClampNeg (mrd (((3 : Int32) * x1) + (2 : Int32)).toNatClampNeg)) (upd mho x1.toNatClampNeg (mrh x1.toNatClampNeg)) (upd mnow x1.toNatClampNeg (mrd ((3 : Int32) * x1).toNatClampNeg))) else none) else none) else none) else none) else none) else none) else none) else none))
def fX10_laundry_85  (mflags : Int32) (mtubs : Int32) (mpegs : Int32) (mrd : (Nat → Int32)) (mrh : (Nat → Int32)) (mrf : Int32) (mat : Int32) (mfa : Int32) (mik : (Nat → Int32)) : Nat → Int32 → (Nat → Int32) → (Nat → Int32) → (Nat → Int32) → (Nat → Int32) → Option (Int32 × Int32 × Int32 × Int32 × (Nat → Int32) × (Nat → Int32) × (Nat → Int32) × (Nat → Int32) × (Nat → Int32) × (Nat → Int32) × Int32 × Int32 × Int32 × Int32 × (Nat → Int32))
  | 0 => fun _ _ _ _ _ => none
  | n + 1 => fun x1 mcl mws mho mnow => gX10_laundry_85 (fX10_laundry_85  mflags mtubs mpegs mrd mrh mrf mat mfa mik n) x1 mflags mtubs mpegs mcl mws mho mnow mrd mrh mrf mat mfa mik
def gX10_laundry_48 (rec48 : Int32 → (Nat → Int32) → Option (Int32 × Int32 × Int32 × Int32 × (Nat → Int32) × (Nat → Int32) × (Nat → Int32) × (Nat → Int32) × (Nat → Int32) × (Nat → Int32) × Int32 × Int32 × Int32 × Int32 × (Nat → Int32))) (x1 : Int32) (mflags : Int32) (mtubs : Int32) (mpegs : Int32) (mcl : (Nat → Int32)) (mws : (Nat → Int32)) (mho : (Nat → Int32)) (mnow : (Nat → Int32)) (mrd : (Nat → Int32)) (mrh : (Nat → Int32)) (mrf : Int32) (mtx : (Nat → Int32)) (mat : Int32) (mfa : Int32) (mik : (Nat → Int32)) : Option (Int32 × Int32 × Int32 × Int32 × (Nat → Int32) × (Nat → Int32) × (Nat → Int32) × (Nat → Int32) × (Nat → Int32) × (Nat → Int32) × Int32 × Int32 × Int32 × Int32 × (Nat → Int32)) :=
 (if (17 : Int32) ≤ x1 then (fX10_laundry_85  mflags mtubs mpegs mrd mrh mrf mat mfa mik FU (0 : Int32) mcl mws mho (upd mnow (15 : Int32).toNatClampNeg ((mtx (3 : Int32).toNatClampNeg) - (48 : Int32))))
 else (if inb x1 34 = true then (rec48 (x1 + (1 : Int32)) (upd mnow x1.toNatClampNeg (0 : Int32))) else none))
def fX10_laundry_48  (mflags : Int32) (mtubs : Int32) (mpegs : Int32) (mcl : (Nat → Int32)) (mws : (Nat → Int32)) (mho : (Nat → Int32)) (mrd : (Nat → Int32)) (mrh : (Nat → Int32)) (mrf : Int32) (mtx : (Nat → Int32)) (mat : Int32) (mfa : Int32) (mik : (Nat → Int32)) : Nat → Int32 → (Nat → Int32) → Option (Int32 × Int32 × Int32 × Int32 × (Nat → Int32) × (Nat → Int32) × (Nat → Int32) × (Nat → Int32) × (Nat → Int32) × (Nat → Int32) × Int32 × Int32 × Int32 × Int32 × (Nat → Int32))
  | 0 => fun _ _ => none
  | n + 1 => fun x1 mnow => gX10_laundry_48 (fX10_laundry_48  mflags mtubs mpegs mcl mws mho mrd mrh mrf mtx mat mfa mik n) x1 mflags mtubs mpegs mcl mws mho mnow mrd mrh mrf mtx mat mfa mik
def fX10_laundry  (mflags : Int32) (mtubs : Int32) (mpegs : Int32) (mcl : (Nat → Int32)) (mws : (Nat → Int32)) (mho : (Nat → Int32)) (mnow : (Nat → Int32)) (mrd : (Nat → Int32)) (mrh : (Nat → Int32)) (mtx : (Nat → Int32)) (mlen : Int32) (mac : Int32) (mik : (Nat → Int32)) : Option (Int32 × Int32 × Int32 × Int32 × (Nat → Int32) × (Nat → Int32) × (Nat → Int32) × (Nat → Int32) × (Nat → Int32) × (Nat → Int32) × Int32 × Int32 × Int32 × Int32 × (Nat → Int32)) :=
 ((fX10_readText mrd mrh mtx mlen).bind fun u1 => (if u1.1 = (-9 : Int32) then (fX10_laundry_48  u1.2.2.2.1 ((mtx (1 : Int32).toNatClampNeg) - (48 : Int32)) ((mtx (2 : Int32).toNatClampNeg) - (48 : Int32)) mcl mws mho u1.2.1 u1.2.2.1 u1.2.2.2.1 mtx u1.2.2.2.2.1 u1.2.2.2.2.2 mik FU (0 : Int32) mnow)
 else (some ((-3 : Int32), mflags, mtubs, mpegs, mcl, mws, mho, mnow, u1.2.1, u1.2.2.1, u1.2.2.2.1, u1.2.2.2.2.1, u1.2.2.2.2.2, mac, mik))))
theorem hinX10_laundry_X10 : ∀ w ∈ u_ws RX10 TX10 24, w ∈ wsX10_laundry := fun w h => List.mem_cons_of_mem _ (List.mem_append_right _ h)
theorem mX10_laundry_1 : Cond.fieldLink RX10 78 "FlagWashModel" "readFlags" "I" ∈ wsX10_laundry := List.mem_of_getElem? (i := 1) rfl
theorem mX10_laundry_2 : Cond.fieldLink RX10 101 "FlagWashModel" "flags" "I" ∈ wsX10_laundry := List.mem_of_getElem? (i := 2) rfl
theorem mX10_laundry_3 : Cond.fieldLink RX10 28 "FlagWashModel" "text" "[I" ∈ wsX10_laundry := List.mem_of_getElem? (i := 3) rfl
theorem mX10_laundry_4 : Cond.fieldLink RX10 50 "FlagWashModel" "tubs" "I" ∈ wsX10_laundry := List.mem_of_getElem? (i := 4) rfl
theorem mX10_laundry_5 : Cond.fieldLink RX10 54 "FlagWashModel" "pegs" "I" ∈ wsX10_laundry := List.mem_of_getElem? (i := 5) rfl
theorem mX10_laundry_6 : Cond.fieldLink RX10 19 "FlagWashModel" "now" "[I" ∈ wsX10_laundry := List.mem_of_getElem? (i := 6) rfl
theorem mX10_laundry_12 : Cond.fieldLink RX10 104 "FlagWashModel" "acts" "I" ∈ wsX10_laundry := List.mem_of_getElem? (i := 12) rfl
theorem mX10_laundry_13 : Cond.fieldLink RX10 43 "FlagWashModel" "isKept" "[Z" ∈ wsX10_laundry := List.mem_of_getElem? (i := 13) rfl
theorem mX10_laundry_7 : Cond.fieldLink RX10 22 "FlagWashModel" "readOf" "[I" ∈ wsX10_laundry := List.mem_of_getElem? (i := 7) rfl
theorem mX10_laundry_8 : Cond.fieldLink RX10 7 "FlagWashModel" "cloth" "[I" ∈ wsX10_laundry := List.mem_of_getElem? (i := 8) rfl
theorem mX10_laundry_9 : Cond.fieldLink RX10 13 "FlagWashModel" "washed" "[I" ∈ wsX10_laundry := List.mem_of_getElem? (i := 9) rfl
theorem mX10_laundry_10 : Cond.fieldLink RX10 16 "FlagWashModel" "hostile" "[I" ∈ wsX10_laundry := List.mem_of_getElem? (i := 10) rfl
theorem mX10_laundry_11 : Cond.fieldLink RX10 25 "FlagWashModel" "readHostile" "[I" ∈ wsX10_laundry := List.mem_of_getElem? (i := 11) rfl
theorem hd_X10_laundry : yX10_laundry.cls ≠ "java/lang/invoke/MethodHandle" ∧ yX10_laundry.cls ≠ "java/lang/invoke/VarHandle" ∧ (parseMethodDescriptor yX10_laundry.desc).map (fun d => d.parameters.length) = some 0 := by decide +kernel
set_option maxHeartbeats 4000000 in
set_option maxRecDepth 100000 in
theorem LGX10_laundry_85 {p : Program} {l : Launch} {e : Env} {s : State} {m : MethodId} {args : Array Value} {below : List Frame} {meth : Method} {c : Code} {D : va_G} {cyI cyZ cyW : ClassId} {zW zO : Nat} {A : Nat → Prop} (C : Cx p s m args meth c cX10_laundry RX10 "laundry" wsX10_laundry (some .int) 2 D (tyA cyI cyZ cyW) zW zO A) {md : Nat → Nat} {mflags : Int32} {mtubs : Int32} {mpegs : Int32} {mcl : (Nat → Int32)} {mws : (Nat → Int32)} {mho : (Nat → Int32)} {mnow : (Nat → Int32)} {mrd : (Nat → Int32)} {mrh : (Nat → Int32)} {mrf : Int32} {mtx : (Nat → Int32)} {mlen : Int32} {mat : Int32} {mfa : Int32} {mac : Int32} {mnx : Int32} {mrow : (Nat → Int32)} {msn : Int32} {mso : (Nat → Int32)} {msc : (Nat → Int32)} {msw : (Nat → Int32)} {mseed : Int64} {mik : (Nat → Int32)} {mkp : (Nat → Int32)} {x1 : Int32} {rec85 : Int32 → (Nat → Int32) → (Nat → Int32) → (Nat → Int32) → (Nat → Int32) → Option (Int32 × Int32 × Int32 × Int32 × (Nat → Int32) × (Nat → Int32) × (Nat → Int32) × (Nat → Int32) × (Nat → Int32) × (Nat → Int32) × Int32 × Int32 × Int32 × Int32 × (Nat → Int32))} {res : Int32 × Int32 × Int32 × Int32 × (Nat → Int32) × (Nat → Int32) × (Nat → Int32) × (Nat → Int32) × (Nat → Int32) × (Nat → Int32) × Int32 × Int32 × Int32 × Int32 × (Nat → Int32)} (hrec85 : ∀ (x1 : Int32) (mcl : (Nat → Int32)) (mws : (Nat → Int32)) (mho : (Nat → Int32)) (mnow : (Nat → Int32)), rec85 x1 mcl mws mho mnow = some res → Mx p l e ({ frames := 4, cells := 0, slots := 0, locals := 92 } : Room) s m args below meth c (MQ below (QI D (tyA cyI cyZ cyW) A (wMO cyI cyZ cyW md res.2.1 res.2.2.1 res.2.2.2.1 res.2.2.2.2.1 res.2.2.2.2.2.1 res.2.2.2.2.2.2.1 res.2.2.2.2.2.2.2.1 res.2.2.2.2.2.2.2.2.1 res.2.2.2.2.2.2.2.2.2.1 res.2.2.2.2.2.2.2.2.2.2.1 mtx mlen res.2.2.2.2.2.2.2.2.2.2.2.1 res.2.2.2.2.2.2.2.2.2.2.2.2.1 res.2.2.2.2.2.2.2.2.2.2.2.2.2.1 mnx mrow msn mso msc msw mseed res.2.2.2.2.2.2.2.2.2.2.2.2.2.2 mkp) res.1) args s 0 0 A) 2 D A 0 0 (wMO cyI cyZ cyW md mflags mtubs mpegs mcl mws mho mnow mrd mrh mrf mtx mlen mat mfa mac mnx mrow msn mso msc msw mseed mik mkp) 85 [(0, .ref (md 0)), (1, .int x1)] []) (h : gX10_laundry_85 rec85 x1 mflags mtubs mpegs mcl mws mho mnow mrd mrh mrf mat mfa mik = some res) : Mx p l e ({ frames := 4, cells := 0, slots := 0, locals := 92 } : Room) s m args below meth c (MQ below (QI D (tyA cyI cyZ cyW) A (wMO cyI cyZ cyW md res.2.1 res.2.2.1 res.2.2.2.1 res.2.2.2.2.1 res.2.2.2.2.2.1 res.2.2.2.2.2.2.1 res.2.2.2.2.2.2.2.1 res.2.2.2.2.2.2.2.2.1 res.2.2.2.2.2.2.2.2.2.1 res.2.2.2.2.2.2.2.2.2.2.1 mtx mlen res.2.2.2.2.2.2.2.2.2.2.2.1 res.2.2.2.2.2.2.2.2.2.2.2.2.1 res.2.2.2.2.2.2.2.2.2.2.2.2.2.1 mnx mrow msn mso msc msw mseed res.2.2.2.2.2.2.2.2.2.2.2.2.2.2 mkp) res.1) args s 0 0 A) 2 D A 0 0 (wMO cyI cyZ cyW md mflags mtubs mpegs mcl mws mho mnow mrd mrh mrf mtx mlen mat mfa mac mnx mrow msn mso msc msw mseed mik mkp) 85 [(0, .ref (md 0)), (1, .int x1)] [] := by
  unfold gX10_laundry_85 at h
  refine r_iload_n C dX10_laundry_85 1 rfl rfl ?_
  refine r_aload_n C dX10_laundry_86 0 rfl rfl ?_
  refine r_get (ci := 7) (CC := RX10) (T := TX10) (N := 24) (v := .int mflags) C hinX10_laundry_X10 0 rfl rfl 0 (by decide) mX10_laundry_2 rfl rfl dX10_laundry_87 ?_
  refine r_icmp_ge (tgt := 157) C dX10_laundry_90 (by decide) (fun c5 => ?_) (fun c5 => ?_)
  · replace h := ob_t h c5
    refine r_aload_n C dX10_laundry_157 0 rfl rfl ?_
    refine r_iconst (v := 0) C dX10_laundry_158 ic_0 ?_
    refine r_put (ci := 7) (CC := RX10) (T := TX10) (N := 24) (v := .int (0 : Int32)) (ws1 := (wMO cyI cyZ cyW md mflags mtubs mpegs mcl mws mho mnow mrd mrh mrf mtx mlen mat mfa (0 : Int32) mnx mrow msn mso msc msw mseed mik mkp)) (ty := .int) C hinX10_laundry_X10 tyX10 tyX10_ok nmX10 0 rfl rfl 14 (by decide) mX10_laundry_12 rfl rfl rfl rfl rfl (Nat.le_of_ble_eq_true rfl) rfl dX10_laundry_159 ?_
    refine r_aload_n C dX10_laundry_162 0 rfl rfl ?_
    refine r_get (ci := 7) (CC := RX10) (T := TX10) (N := 24) (v := .ref (md 12)) C hinX10_laundry_X10 0 rfl rfl 22 (by decide) mX10_laundry_13 rfl rfl dX10_laundry_163 ?_
    refine r_iconst (v := 0) C dX10_laundry_166 ic_0 ?_
    refine r_iconst (v := 0) C dX10_laundry_167 ic_0 ?_
    refine r_zast (x1 := 0) (ws1 := (wMO cyI cyZ cyW md mflags mtubs mpegs mcl mws mho mnow mrd mrh mrf mtx mlen mat mfa (0 : Int32) mnx mrow msn mso msc msw mseed (upd mik (0 : Int32).toNatClampNeg (0 : Int32)) mkp)) C 12 1 rfl rfl rfl (inb_vp (by decide)) rfl dX10_laundry_168 ?_
    refine r_aload_n C dX10_laundry_169 0 rfl rfl ?_
    refine r_get (ci := 7) (CC := RX10) (T := TX10) (N := 24) (v := .ref (md 12)) C hinX10_laundry_X10 0 rfl rfl 22 (by decide) mX10_laundry_13 rfl rfl dX10_laundry_170 ?_
    refine r_iconst (v := 1) C dX10_laundry_173 ic_1 ?_
    refine r_iconst (v := 0) C dX10_laundry_174 ic_0 ?_
    refine r_zast (x1 := 0) (ws1 := (wMO cyI cyZ cyW md mflags mtubs mpegs mcl mws mho mnow mrd mrh mrf mtx mlen mat mfa (0 : Int32) mnx mrow msn mso msc msw mseed (upd (upd mik (0 : Int32).toNatClampNeg (0 : Int32)) (1 : Int32).toNatClampNeg (0 : Int32)) mkp)) C 12 1 rfl rfl rfl (inb_vp (by decide)) rfl dX10_laundry_175 ?_
    refine r_aload_n C dX10_laundry_176 0 rfl rfl ?_
    refine r_get (ci := 7) (CC := RX10) (T := TX10) (N := 24) (v := .int mflags) C hinX10_laundry_X10 0 rfl rfl 0 (by decide) mX10_laundry_2 rfl rfl dX10_laundry_177 ?_
    have h9 := Option.some.inj h
    subst h9
    exact r_iret C rfl dX10_laundry_180
  · replace h := ob_f h c5
    refine r_aload_n C dX10_laundry_93 0 rfl rfl ?_
    refine r_get (ci := 7) (CC := RX10) (T := TX10) (N := 24) (v := .ref (md 4)) C hinX10_laundry_X10 0 rfl rfl 6 (by decide) mX10_laundry_6 rfl rfl dX10_laundry_94 ?_
    refine r_iload_n C dX10_laundry_97 1 rfl rfl ?_
    refine r_aload_n C dX10_laundry_98 0 rfl rfl ?_
    refine r_get (ci := 7) (CC := RX10) (T := TX10) (N := 24) (v := .ref (md 5)) C hinX10_laundry_X10 0 rfl rfl 7 (by decide) mX10_laundry_7 rfl rfl dX10_laundry_99 ?_
    refine r_iconst (v := 3) C dX10_laundry_102 ic_3 ?_
    refine r_iload_n C dX10_laundry_103 1 rfl rfl ?_
    refine r_imul C dX10_laundry_104 ?_
    obtain ⟨hu6, h⟩ := ob_if h
    refine r_iald C 5 0 rfl rfl (inb_vp hu6) dX10_laundry_105 ?_
    obtain ⟨hu7, h⟩ := ob_if h
    refine r_iast (ws1 := (wMO cyI cyZ cyW md mflags mtubs mpegs mcl mws mho (upd mnow x1.toNatClampNeg (mrd ((3 : Int32) * x1).toNatClampNeg)) mrd mrh mrf mtx mlen mat mfa mac mnx mrow msn mso msc msw mseed mik mkp)) C 4 0 rfl rfl (inb_vp hu7) rfl dX10_laundry_106 ?_
    refine r_aload_n C dX10_laundry_107 0 rfl rfl ?_
    refine r_get (ci := 7) (CC := RX10) (T := TX10) (N := 24) (v := .ref (md 1)) C hinX10_laundry_X10 0 rfl rfl 3 (by decide) mX10_laundry_8 rfl rfl dX10_laundry_108 ?_
    refine r_iload_n C dX10_laundry_111 1 rfl rfl ?_
    refine r_aload_n C dX10_laundry_112 0 rfl rfl ?_
    refine r_get (ci := 7) (CC := RX10) (T := TX10) (N := 24) (v := .ref (md 5)) C hinX10_laundry_X10 0 rfl rfl 7 (by decide) mX10_laundry_7 rfl rfl dX10_laundry_113 ?_
    refine r_iconst (v := 3) C dX10_laundry_116 ic_3 ?_
    refine r_iload_n C dX10_laundry_117 1 rfl rfl ?_
    refine r_imul C dX10_laundry_118 ?_
    refine r_iconst (v := 1) C dX10_laundry_119 ic_1 ?_
    refine r_iadd C dX10_laundry_120 ?_
    obtain ⟨hu8, h⟩ := ob_if h
    refine r_iald C 5 0 rfl rfl (inb_vp hu8) dX10_laundry_121 ?_
    obtain ⟨hu9, h⟩ := ob_if h
    refine r_iast (ws1 := (wMO cyI cyZ cyW md mflags mtubs mpegs (upd mcl x1.toNatClampNeg (mrd (((3 : Int32) * x1) + (1 : Int32)).toNatClampNeg)) mws mho (upd mnow x1.toNatClampNeg (mrd ((3 : Int32) * x1).toNatClampNeg)) mrd mrh mrf mtx mlen mat mfa mac mnx mrow msn mso msc msw mseed mik mkp)) C 1 0 rfl rfl (inb_vp hu9) rfl dX10_laundry_122 ?_
    refine r_aload_n C dX10_laundry_123 0 rfl rfl ?_
    refine r_get (ci := 7) (CC := RX10) (T := TX10) (N := 24) (v := .ref (md 2)) C hinX10_laundry_X10 0 rfl rfl 4 (by decide) mX10_laundry_9 rfl rfl dX10_laundry_124 ?_
    refine r_iload_n C dX10_laundry_127 1 rfl rfl ?_
    refine r_aload_n C dX10_laundry_128 0 rfl rfl ?_
    refine r_get (ci := 7) (CC := RX10) (T := TX10) (N := 24) (v := .ref (md 5)) C hinX10_laundry_X10 0 rfl rfl 7 (by decide) mX10_laundry_7 rfl rfl dX10_laundry_129 ?_
    refine r_iconst (v := 3) C dX10_laundry_132 ic_3 ?_
    refine r_iload_n C dX10_laundry_133 1 rfl rfl ?_
    refine r_imul C dX10_laundry_134 ?_
    refine r_iconst (v := 2) C dX10_laundry_135 ic_2 ?_
    refine r_iadd C dX10_laundry_136 ?_
    obtain ⟨hu10, h⟩ := ob_if h
    refine r_iald C 5 0 rfl rfl (inb_vp hu10) dX10_laundry_137 ?_
    obtain ⟨hu11, h⟩ := ob_if h
    refine r_iast (ws1 := (wMO cyI cyZ cyW md mflags mtubs mpegs (upd mcl x1.toNatClampNeg (mrd (((3 : Int32) * x1) + (1 : Int32)).toNatClampNeg)) (upd mws x1.toNatClampNeg (mrd (((3 : Int32) * x1) + (2 : Int32)).toNatClampNeg)) mho (upd mnow x1.toNatClampNeg (mrd ((3 : Int32) * x1).toNatClampNeg)) mrd mrh mrf mtx mlen mat mfa mac mnx mrow msn mso msc msw mseed mik mkp)) C 2 0 rfl rfl (inb_vp hu11) rfl dX10_laundry_138 ?_
    refine r_aload_n C dX10_laundry_139 0 rfl rfl ?_
    refine r_get (ci := 7) (CC := RX10) (T := TX10) (N := 24) (v := .ref (md 3)) C hinX10_laundry_X10 0 rfl rfl 5 (by decide) mX10_laundry_10 rfl rfl dX10_laundry_140 ?_
    refine r_iload_n C dX10_laundry_143 1 rfl rfl ?_
    refine r_aload_n C dX10_laundry_144 0 rfl rfl ?_
    refine r_get (ci := 7) (CC := RX10) (T := TX10) (N := 24) (v := .ref (md 6)) C hinX10_laundry_X10 0 rfl rfl 8 (by decide) mX10_laundry_11 rfl rfl dX10_laundry_145 ?_
    refine r_iload_n C dX10_laundry_148 1 rfl rfl ?_
    obtain ⟨hu12, h⟩ := ob_if h
    refine r_iald C 6 0 rfl rfl (inb_vp hu12) dX10_laundry_149 ?_
    obtain ⟨hu13, h⟩ := ob_if h
    refine r_iast (ws1 := (wMO cyI cyZ cyW md mflags mtubs mpegs (upd mcl x1.toNatClampNeg (mrd (((3 : Int32) * x1) + (1 : Int32)).toNatClampNeg)) (upd mws x1.toNatClampNeg (mrd (((3 : Int32) * x1) + (2 : Int32)).toNatClampNeg)) (upd mho x1.toNatClampNeg (mrh x1.toNatClampNeg)) (upd mnow x1.toNatClampNeg (mrd ((3 : Int32) * x1).toNatClampNeg)) mrd mrh mrf mtx mlen mat mfa mac mnx mrow msn mso msc msw mseed mik mkp)) C 3 0 rfl rfl (inb_vp hu13) rfl dX10_laundry_150 ?_
    refine r_iinc (v := 1) (lv' := [(1, .int (x1 + (1 : Int32))), (0, .ref (md 0))]) C dX10_laundry_151 1 rfl ic_1 (by decide) rfl ?_
    refine r_goto (tgt := 85) C dX10_laundry_154 (by decide) ?_
    refine r_lv (lv' := [(0, .ref (md 0)), (1, .int (x1 + (1 : Int32)))]) [1, 0] rfl ?_
    exact hrec85 (x1 + (1 : Int32)) (upd mcl x1.toNatClampNeg (mrd (((3 : Int32) * x1) + (1 : Int32)).toNatClampNeg)) (upd mws x1.toNatClampNeg (mrd (((3 : Int32) * x1) + (2 : Int32)).toNatClampNeg)) (upd mho x1.toNatClampNeg (mrh x1.toNatClampNeg)) (upd mnow x1.toNatClampNeg (mrd ((3 : Int32) * x1).toNatClampNeg)) h
set_option maxHeartbeats 4000000 in
set_option maxRecDepth 100000 in
theorem LX10_laundry_85 {p : Program} {l : Launch} {e : Env} {s : State} {m : MethodId} {args : Array Value} {below : List Frame} {meth : Method} {c : Code} {D : va_G} {cyI cyZ cyW : ClassId} {zW zO : Nat} {A : Nat → Prop} (C : Cx p s m args meth c cX10_laundry RX10 "laundry" wsX10_laundry (some .int) 2 D (tyA cyI cyZ cyW) zW zO A) {md : Nat → Nat} {mflags : Int32} {mtubs : Int32} {mpegs : Int32} {mrd : (Nat → Int32)} {mrh : (Nat → Int32)} {mrf : Int32} {mtx : (Nat → Int32)} {mlen : Int32} {mat : Int32} {mfa : Int32} {mac : Int32} {mnx : Int32} {mrow : (Nat → Int32)} {msn : Int32} {mso : (Nat → Int32)} {msc : (Nat → Int32)} {msw : (Nat → Int32)} {mseed : Int64} {mik : (Nat → Int32)} {mkp : (Nat → Int32)}  {res : Int32 × Int32 × Int32 × Int32 × (Nat → Int32) × (Nat → Int32) × (Nat → Int32) × (Nat → Int32) × (Nat → Int32) × (Nat → Int32) × Int32 × Int32 × Int32 × Int32 × (Nat → Int32)}  : ∀ (n : Nat) (x1 : Int32) (mcl : (Nat → Int32)) (mws : (Nat → Int32)) (mho : (Nat → Int32)) (mnow : (Nat → Int32)), fX10_laundry_85  mflags mtubs mpegs mrd mrh mrf mat mfa mik n x1 mcl mws mho mnow = some res → Mx p l e ({ frames := 4, cells := 0, slots := 0, locals := 92 } : Room) s m args below meth c (MQ below (QI D (tyA cyI cyZ cyW) A (wMO cyI cyZ cyW md res.2.1 res.2.2.1 res.2.2.2.1 res.2.2.2.2.1 res.2.2.2.2.2.1 res.2.2.2.2.2.2.1 res.2.2.2.2.2.2.2.1 res.2.2.2.2.2.2.2.2.1 res.2.2.2.2.2.2.2.2.2.1 res.2.2.2.2.2.2.2.2.2.2.1 mtx mlen res.2.2.2.2.2.2.2.2.2.2.2.1 res.2.2.2.2.2.2.2.2.2.2.2.2.1 res.2.2.2.2.2.2.2.2.2.2.2.2.2.1 mnx mrow msn mso msc msw mseed res.2.2.2.2.2.2.2.2.2.2.2.2.2.2 mkp) res.1) args s 0 0 A) 2 D A 0 0 (wMO cyI cyZ cyW md mflags mtubs mpegs mcl mws mho mnow mrd mrh mrf mtx mlen mat mfa mac mnx mrow msn mso msc msw mseed mik mkp) 85 [(0, .ref (md 0)), (1, .int x1)] [] := by
  intro n
  induction n with
  | zero => intro x1 mcl mws mho mnow h; cases h
  | succ n ih => intro x1 mcl mws mho mnow h; exact LGX10_laundry_85 C ih h
set_option maxHeartbeats 4000000 in
set_option maxRecDepth 100000 in
theorem LGX10_laundry_48 {p : Program} {l : Launch} {e : Env} {s : State} {m : MethodId} {args : Array Value} {below : List Frame} {meth : Method} {c : Code} {D : va_G} {cyI cyZ cyW : ClassId} {zW zO : Nat} {A : Nat → Prop} (C : Cx p s m args meth c cX10_laundry RX10 "laundry" wsX10_laundry (some .int) 2 D (tyA cyI cyZ cyW) zW zO A) {md : Nat → Nat} {mflags : Int32} {mtubs : Int32} {mpegs : Int32} {mcl : (Nat → Int32)} {mws : (Nat → Int32)} {mho : (Nat → Int32)} {mnow : (Nat → Int32)} {mrd : (Nat → Int32)} {mrh : (Nat → Int32)} {mrf : Int32} {mtx : (Nat → Int32)} {mlen : Int32} {mat : Int32} {mfa : Int32} {mac : Int32} {mnx : Int32} {mrow : (Nat → Int32)} {msn : Int32} {mso : (Nat → Int32)} {msc : (Nat → Int32)} {msw : (Nat → Int32)} {mseed : Int64} {mik : (Nat → Int32)} {mkp : (Nat → Int32)} {x1 : Int32} {rec48 : Int32 → (Nat → Int32) → Option (Int32 × Int32 × Int32 × Int32 × (Nat → Int32) × (Nat → Int32) × (Nat → Int32) × (Nat → Int32) × (Nat → Int32) × (Nat → Int32) × Int32 × Int32 × Int32 × Int32 × (Nat → Int32))} {res : Int32 × Int32 × Int32 × Int32 × (Nat → Int32) × (Nat → Int32) × (Nat → Int32) × (Nat → Int32) × (Nat → Int32) × (Nat → Int32) × Int32 × Int32 × Int32 × Int32 × (Nat → Int32)} (hrec48 : ∀ (x1 : Int32) (mnow : (Nat → Int32)), rec48 x1 mnow = some res → Mx p l e ({ frames := 4, cells := 0, slots := 0, locals := 92 } : Room) s m args below meth c (MQ below (QI D (tyA cyI cyZ cyW) A (wMO cyI cyZ cyW md res.2.1 res.2.2.1 res.2.2.2.1 res.2.2.2.2.1 res.2.2.2.2.2.1 res.2.2.2.2.2.2.1 res.2.2.2.2.2.2.2.1 res.2.2.2.2.2.2.2.2.1 res.2.2.2.2.2.2.2.2.2.1 res.2.2.2.2.2.2.2.2.2.2.1 mtx mlen res.2.2.2.2.2.2.2.2.2.2.2.1 res.2.2.2.2.2.2.2.2.2.2.2.2.1 res.2.2.2.2.2.2.2.2.2.2.2.2.2.1 mnx mrow msn mso msc msw mseed res.2.2.2.2.2.2.2.2.2.2.2.2.2.2 mkp) res.1) args s 0 0 A) 2 D A 0 0 (wMO cyI cyZ cyW md mflags mtubs mpegs mcl mws mho mnow mrd mrh mrf mtx mlen mat mfa mac mnx mrow msn mso msc msw mseed mik mkp) 48 [(0, .ref (md 0)), (1, .int x1)] []) (h : gX10_laundry_48 rec48 x1 mflags mtubs mpegs mcl mws mho mnow mrd mrh mrf mtx mat mfa mik = some res) : Mx p l e ({ frames := 4, cells := 0, slots := 0, locals := 92 } : Room) s m args below meth c (MQ below (QI D (tyA cyI cyZ cyW) A (wMO cyI cyZ cyW md res.2.1 res.2.2.1 res.2.2.2.1 res.2.2.2.2.1 res.2.2.2.2.2.1 res.2.2.2.2.2.2.1 res.2.2.2.2.2.2.2.1 res.2.2.2.2.2.2.2.2.1 res.2.2.2.2.2.2.2.2.2.1 res.2.2.2.2.2.2.2.2.2.2.1 mtx mlen res.2.2.2.2.2.2.2.2.2.2.2.1 res.2.2.2.2.2.2.2.2.2.2.2.2.1 res.2.2.2.2.2.2.2.2.2.2.2.2.2.1 mnx mrow msn mso msc msw mseed res.2.2.2.2.2.2.2.2.2.2.2.2.2.2 mkp) res.1) args s 0 0 A) 2 D A 0 0 (wMO cyI cyZ cyW md mflags mtubs mpegs mcl mws mho mnow mrd mrh mrf mtx mlen mat mfa mac mnx mrow msn mso msc msw mseed mik mkp) 48 [(0, .ref (md 0)), (1, .int x1)] [] := by
  unfold gX10_laundry_48 at h
  refine r_iload_n C dX10_laundry_48 1 rfl rfl ?_
  refine r_bipush (v := 17) C dX10_laundry_49 bp_17 ?_
  refine r_icmp_ge (tgt := 67) C dX10_laundry_51 (by decide) (fun c3 => ?_) (fun c3 => ?_)
  · replace h := ob_t h c3
    refine r_aload_n C dX10_laundry_67 0 rfl rfl ?_
    refine r_get (ci := 7) (CC := RX10) (T := TX10) (N := 24) (v := .ref (md 4)) C hinX10_laundry_X10 0 rfl rfl 6 (by decide) mX10_laundry_6 rfl rfl dX10_laundry_68 ?_
    refine r_bipush (v := 15) C dX10_laundry_71 bp_15 ?_
    refine r_aload_n C dX10_laundry_73 0 rfl rfl ?_
    refine r_get (ci := 7) (CC := RX10) (T := TX10) (N := 24) (v := .ref (md 7)) C hinX10_laundry_X10 0 rfl rfl 10 (by decide) mX10_laundry_3 rfl rfl dX10_laundry_74 ?_
    refine r_iconst (v := 3) C dX10_laundry_77 ic_3 ?_
    refine r_iald C 7 0 rfl rfl (inb_vp (by decide)) dX10_laundry_78 ?_
    refine r_bipush (v := 48) C dX10_laundry_79 bp_48 ?_
    refine r_isub C dX10_laundry_81 ?_
    refine r_iast (ws1 := (wMO cyI cyZ cyW md mflags mtubs mpegs mcl mws mho (upd mnow (15 : Int32).toNatClampNeg ((mtx (3 : Int32).toNatClampNeg) - (48 : Int32))) mrd mrh mrf mtx mlen mat mfa mac mnx mrow msn mso msc msw mseed mik mkp)) C 4 0 rfl rfl (inb_vp (by decide)) rfl dX10_laundry_82 ?_
    refine r_iconst (v := 0) C dX10_laundry_83 ic_0 ?_
    refine r_istore_n (lv' := [(1, .int (0 : Int32)), (0, .ref (md 0))]) C dX10_laundry_84 rfl (by decide) rfl ?_
    refine r_lv (lv' := [(0, .ref (md 0)), (1, .int (0 : Int32))]) [1, 0] rfl ?_
    exact LX10_laundry_85 C (mflags := mflags) (mtubs := mtubs) (mpegs := mpegs) (mrd := mrd) (mrh := mrh) (mrf := mrf) (mtx := mtx) (mlen := mlen) (mat := mat) (mfa := mfa) (mac := mac) (mnx := mnx) (mrow := mrow) (msn := msn) (mso := mso) (msc := msc) (msw := msw) (mseed := mseed) (mik := mik) (mkp := mkp)  FU (0 : Int32) mcl mws mho (upd mnow (15 : Int32).toNatClampNeg ((mtx (3 : Int32).toNatClampNeg) - (48 : Int32))) h
  · replace h := ob_f h c3
    refine r_aload_n C dX10_laundry_54 0 rfl rfl ?_
    refine r_get (ci := 7) (CC := RX10) (T := TX10) (N := 24) (v := .ref (md 4)) C hinX10_laundry_X10 0 rfl rfl 6 (by decide) mX10_laundry_6 rfl rfl dX10_laundry_55 ?_
    refine r_iload_n C dX10_laundry_58 1 rfl rfl ?_
    refine r_iconst (v := 0) C dX10_laundry_59 ic_0 ?_
    obtain ⟨hu4, h⟩ := ob_if h
    refine r_iast (ws1 := (wMO cyI cyZ cyW md mflags mtubs mpegs mcl mws mho (upd mnow x1.toNatClampNeg (0 : Int32)) mrd mrh mrf mtx mlen mat mfa mac mnx mrow msn mso msc msw mseed mik mkp)) C 4 0 rfl rfl (inb_vp hu4) rfl dX10_laundry_60 ?_
    refine r_iinc (v := 1) (lv' := [(1, .int (x1 + (1 : Int32))), (0, .ref (md 0))]) C dX10_laundry_61 1 rfl ic_1 (by decide) rfl ?_
    refine r_goto (tgt := 48) C dX10_laundry_64 (by decide) ?_
    refine r_lv (lv' := [(0, .ref (md 0)), (1, .int (x1 + (1 : Int32)))]) [1, 0] rfl ?_
    exact hrec48 (x1 + (1 : Int32)) (upd mnow x1.toNatClampNeg (0 : Int32)) h
set_option maxHeartbeats 4000000 in
set_option maxRecDepth 100000 in
theorem LX10_laundry_48 {p : Program} {l : Launch} {e : Env} {s : State} {m : MethodId} {args : Array Value} {below : List Frame} {meth : Method} {c : Code} {D : va_G} {cyI cyZ cyW : ClassId} {zW zO : Nat} {A : Nat → Prop} (C : Cx p s m args meth c cX10_laundry RX10 "laundry" wsX10_laundry (some .int) 2 D (tyA cyI cyZ cyW) zW zO A) {md : Nat → Nat} {mflags : Int32} {mtubs : Int32} {mpegs : Int32} {mcl : (Nat → Int32)} {mws : (Nat → Int32)} {mho : (Nat → Int32)} {mrd : (Nat → Int32)} {mrh : (Nat → Int32)} {mrf : Int32} {mtx : (Nat → Int32)} {mlen : Int32} {mat : Int32} {mfa : Int32} {mac : Int32} {mnx : Int32} {mrow : (Nat → Int32)} {msn : Int32} {mso : (Nat → Int32)} {msc : (Nat → Int32)} {msw : (Nat → Int32)} {mseed : Int64} {mik : (Nat → Int32)} {mkp : (Nat → Int32)}  {res : Int32 × Int32 × Int32 × Int32 × (Nat → Int32) × (Nat → Int32) × (Nat → Int32) × (Nat → Int32) × (Nat → Int32) × (Nat → Int32) × Int32 × Int32 × Int32 × Int32 × (Nat → Int32)}  : ∀ (n : Nat) (x1 : Int32) (mnow : (Nat → Int32)), fX10_laundry_48  mflags mtubs mpegs mcl mws mho mrd mrh mrf mtx mat mfa mik n x1 mnow = some res → Mx p l e ({ frames := 4, cells := 0, slots := 0, locals := 92 } : Room) s m args below meth c (MQ below (QI D (tyA cyI cyZ cyW) A (wMO cyI cyZ cyW md res.2.1 res.2.2.1 res.2.2.2.1 res.2.2.2.2.1 res.2.2.2.2.2.1 res.2.2.2.2.2.2.1 res.2.2.2.2.2.2.2.1 res.2.2.2.2.2.2.2.2.1 res.2.2.2.2.2.2.2.2.2.1 res.2.2.2.2.2.2.2.2.2.2.1 mtx mlen res.2.2.2.2.2.2.2.2.2.2.2.1 res.2.2.2.2.2.2.2.2.2.2.2.2.1 res.2.2.2.2.2.2.2.2.2.2.2.2.2.1 mnx mrow msn mso msc msw mseed res.2.2.2.2.2.2.2.2.2.2.2.2.2.2 mkp) res.1) args s 0 0 A) 2 D A 0 0 (wMO cyI cyZ cyW md mflags mtubs mpegs mcl mws mho mnow mrd mrh mrf mtx mlen mat mfa mac mnx mrow msn mso msc msw mseed mik mkp) 48 [(0, .ref (md 0)), (1, .int x1)] [] := by
  intro n
  induction n with
  | zero => intro x1 mnow h; cases h
  | succ n ih => intro x1 mnow h; exact LGX10_laundry_48 C ih h
set_option maxHeartbeats 4000000 in
set_option maxRecDepth 100000 in
theorem kX10_laundry {l : Launch} {D : va_G} {cyI cyZ cyW : ClassId} {zW zO : Nat} {md : Nat → Nat} {mflags : Int32} {mtubs : Int32} {mpegs : Int32} {mcl : (Nat → Int32)} {mws : (Nat → Int32)} {mho : (Nat → Int32)} {mnow : (Nat → Int32)} {mrd : (Nat → Int32)} {mrh : (Nat → Int32)} {mrf : Int32} {mtx : (Nat → Int32)} {mlen : Int32} {mat : Int32} {mfa : Int32} {mac : Int32} {mnx : Int32} {mrow : (Nat → Int32)} {msn : Int32} {mso : (Nat → Int32)} {msc : (Nat → Int32)} {msw : (Nat → Int32)} {mseed : Int64} {mik : (Nat → Int32)} {mkp : (Nat → Int32)}  {res : Int32 × Int32 × Int32 × Int32 × (Nat → Int32) × (Nat → Int32) × (Nat → Int32) × (Nat → Int32) × (Nat → Int32) × (Nat → Int32) × Int32 × Int32 × Int32 × Int32 × (Nat → Int32)} (h : fX10_laundry mflags mtubs mpegs mcl mws mho mnow mrd mrh mtx mlen mac mik = some res) : KI l yX10_laundry wsX10_laundry ({ frames := 4, cells := 0, slots := 0, locals := 92 } : Room) D (tyA cyI cyZ cyW) zW zO [.ref (md 0)] (wMO cyI cyZ cyW md mflags mtubs mpegs mcl mws mho mnow mrd mrh mrf mtx mlen mat mfa mac mnx mrow msn mso msc msw mseed mik mkp) (wMO cyI cyZ cyW md res.2.1 res.2.2.1 res.2.2.2.1 res.2.2.2.2.1 res.2.2.2.2.2.1 res.2.2.2.2.2.2.1 res.2.2.2.2.2.2.2.1 res.2.2.2.2.2.2.2.2.1 res.2.2.2.2.2.2.2.2.2.1 res.2.2.2.2.2.2.2.2.2.2.1 mtx mlen res.2.2.2.2.2.2.2.2.2.2.2.1 res.2.2.2.2.2.2.2.2.2.2.2.2.1 res.2.2.2.2.2.2.2.2.2.2.2.2.2.1 mnx mrow msn mso msc msw mseed res.2.2.2.2.2.2.2.2.2.2.2.2.2.2 mkp) res.1 := by
  refine enterI (cc := cX10_laundry) (nL := 2) (ret := (some .int)) (by decide) rfl (Nat.le_of_ble_eq_true rfl) (fun p e s m below meth c A C => ?_)
  refine r_lv (lv' := [(0, .ref (md 0))]) [0] rfl ?_
  unfold fX10_laundry at h
  refine r_aload_n C dX10_laundry_0 0 rfl rfl ?_
  obtain ⟨u1, hu1, h⟩ := ob_bind h
  refine r_callVI (q0 := 0) (As := []) (rest := []) (ws1 := (wMO cyI cyZ cyW md mflags mtubs mpegs mcl mws mho mnow u1.2.1 u1.2.2.1 u1.2.2.2.1 mtx mlen u1.2.2.2.2.1 u1.2.2.2.2.2 mac mnx mrow msn mso msc msw mseed mik mkp)) C (kX10_readText (md := md) (mflags := mflags) (mtubs := mtubs) (mpegs := mpegs) (mcl := mcl) (mws := mws) (mho := mho) (mnow := mnow) (mrd := mrd) (mrh := mrh) (mrf := mrf) (mtx := mtx) (mlen := mlen) (mat := mat) (mfa := mfa) (mac := mac) (mnx := mnx) (mrow := mrow) (msn := msn) (mso := mso) (msc := msc) (msw := msw) (mseed := mseed) (mik := mik) (mkp := mkp)  hu1) gX10_laundry_X10_readText rfl rfl rfl ⟨rfl, hd_X10_readText⟩ ⟨by decide, by decide⟩ rfl rfl rfl rfl [0, 1, 2, 3, 4, 5, 6, 7, 8, 9, 10, 11, 12, 13] (by decide) in_78 se_78 (adrMO.trans adrMO.symm) rfl (Nat.le_of_ble_eq_true rfl) dX10_laundry_1 ⟨Nat.zero_le _, Nat.zero_le _⟩ ?_
  refine r_bipush (v := -9) C dX10_laundry_4 bp_m9 ?_
  refine r_icmp_eq (tgt := 12) C dX10_laundry_6 (by decide) (fun c2 => ?_) (fun c2 => ?_)
  · replace h := ob_t h c2
    refine r_aload_n C dX10_laundry_12 0 rfl rfl ?_
    refine r_aload_n C dX10_laundry_13 0 rfl rfl ?_
    refine r_get (ci := 7) (CC := RX10) (T := TX10) (N := 24) (v := .int u1.2.2.2.1) C hinX10_laundry_X10 0 rfl rfl 9 (by decide) mX10_laundry_1 rfl rfl dX10_laundry_14 ?_
    refine r_put (ci := 7) (CC := RX10) (T := TX10) (N := 24) (v := .int u1.2.2.2.1) (ws1 := (wMO cyI cyZ cyW md u1.2.2.2.1 mtubs mpegs mcl mws mho mnow u1.2.1 u1.2.2.1 u1.2.2.2.1 mtx mlen u1.2.2.2.2.1 u1.2.2.2.2.2 mac mnx mrow msn mso msc msw mseed mik mkp)) (ty := .int) C hinX10_laundry_X10 tyX10 tyX10_ok nmX10 0 rfl rfl 0 (by decide) mX10_laundry_2 rfl rfl rfl rfl rfl (Nat.le_of_ble_eq_true rfl) rfl dX10_laundry_17 ?_
    refine r_aload_n C dX10_laundry_20 0 rfl rfl ?_
    refine r_aload_n C dX10_laundry_21 0 rfl rfl ?_
    refine r_get (ci := 7) (CC := RX10) (T := TX10) (N := 24) (v := .ref (md 7)) C hinX10_laundry_X10 0 rfl rfl 10 (by decide) mX10_laundry_3 rfl rfl dX10_laundry_22 ?_
    refine r_iconst (v := 1) C dX10_laundry_25 ic_1 ?_
    refine r_iald C 7 0 rfl rfl (inb_vp (by decide)) dX10_laundry_26 ?_
    refine r_bipush (v := 48) C dX10_laundry_27 bp_48 ?_
    refine r_isub C dX10_laundry_29 ?_
    refine r_put (ci := 7) (CC := RX10) (T := TX10) (N := 24) (v := .int ((mtx (1 : Int32).toNatClampNeg) - (48 : Int32))) (ws1 := (wMO cyI cyZ cyW md u1.2.2.2.1 ((mtx (1 : Int32).toNatClampNeg) - (48 : Int32)) mpegs mcl mws mho mnow u1.2.1 u1.2.2.1 u1.2.2.2.1 mtx mlen u1.2.2.2.2.1 u1.2.2.2.2.2 mac mnx mrow msn mso msc msw mseed mik mkp)) (ty := .int) C hinX10_laundry_X10 tyX10 tyX10_ok nmX10 0 rfl rfl 1 (by decide) mX10_laundry_4 rfl rfl rfl rfl rfl (Nat.le_of_ble_eq_true rfl) rfl dX10_laundry_30 ?_
    refine r_aload_n C dX10_laundry_33 0 rfl rfl ?_
    refine r_aload_n C dX10_laundry_34 0 rfl rfl ?_
    refine r_get (ci := 7) (CC := RX10) (T := TX10) (N := 24) (v := .ref (md 7)) C hinX10_laundry_X10 0 rfl rfl 10 (by decide) mX10_laundry_3 rfl rfl dX10_laundry_35 ?_
    refine r_iconst (v := 2) C dX10_laundry_38 ic_2 ?_
    refine r_iald C 7 0 rfl rfl (inb_vp (by decide)) dX10_laundry_39 ?_
    refine r_bipush (v := 48) C dX10_laundry_40 bp_48 ?_
    refine r_isub C dX10_laundry_42 ?_
    refine r_put (ci := 7) (CC := RX10) (T := TX10) (N := 24) (v := .int ((mtx (2 : Int32).toNatClampNeg) - (48 : Int32))) (ws1 := (wMO cyI cyZ cyW md u1.2.2.2.1 ((mtx (1 : Int32).toNatClampNeg) - (48 : Int32)) ((mtx (2 : Int32).toNatClampNeg) - (48 : Int32)) mcl mws mho mnow u1.2.1 u1.2.2.1 u1.2.2.2.1 mtx mlen u1.2.2.2.2.1 u1.2.2.2.2.2 mac mnx mrow msn mso msc msw mseed mik mkp)) (ty := .int) C hinX10_laundry_X10 tyX10 tyX10_ok nmX10 0 rfl rfl 2 (by decide) mX10_laundry_5 rfl rfl rfl rfl rfl (Nat.le_of_ble_eq_true rfl) rfl dX10_laundry_43 ?_
    refine r_iconst (v := 0) C dX10_laundry_46 ic_0 ?_
    refine r_istore_n (lv' := [(1, .int (0 : Int32)), (0, .ref (md 0))]) C dX10_laundry_47 rfl (by decide) rfl ?_
    refine r_lv (lv' := [(0, .ref (md 0)), (1, .int (0 : Int32))]) [1, 0] rfl ?_
    exact LX10_laundry_48 C (mflags := u1.2.2.2.1) (mtubs := ((mtx (1 : Int32).toNatClampNeg) - (48 : Int32))) (mpegs := ((mtx (2 : Int32).toNatClampNeg) - (48 : Int32))) (mcl := mcl) (mws := mws) (mho := mho) (mrd := u1.2.1) (mrh := u1.2.2.1) (mrf := u1.2.2.2.1) (mtx := mtx) (mlen := mlen) (mat := u1.2.2.2.2.1) (mfa := u1.2.2.2.2.2) (mac := mac) (mnx := mnx) (mrow := mrow) (msn := msn) (mso := mso) (msc := msc) (msw := msw) (mseed := mseed) (mik := mik) (mkp := mkp)  FU (0 : Int32) mnow h
  · replace h := ob_f h c2
    refine r_bipush (v := -3) C dX10_laundry_9 bp_m3 ?_
    have h9 := Option.some.inj h
    subst h9
    exact r_iret C rfl dX10_laundry_11

/-! ===== FlagWashModel.isFlag ===== -/
def fX10_isFlag  (x1 : Int32) (mflags : Int32) : Option (Bool) :=
 ((fX10_in x1.toInt64 (0 : Int64) (mflags - (1 : Int32)).toInt64).bind fun u1 => (some u1))
theorem hinX10_isFlag_X10 : ∀ w ∈ u_ws RX10 TX10 24, w ∈ wsX10_isFlag := fun w h => List.mem_cons_of_mem _ (List.mem_append_right _ h)
theorem mX10_isFlag_1 : Cond.fieldLink RX10 101 "FlagWashModel" "flags" "I" ∈ wsX10_isFlag := List.mem_of_getElem? (i := 1) rfl
theorem hd_X10_isFlag : yX10_isFlag.cls ≠ "java/lang/invoke/MethodHandle" ∧ yX10_isFlag.cls ≠ "java/lang/invoke/VarHandle" ∧ (parseMethodDescriptor yX10_isFlag.desc).map (fun d => d.parameters.length) = some 1 := by decide +kernel
set_option maxHeartbeats 4000000 in
set_option maxRecDepth 100000 in
theorem kX10_isFlag {l : Launch} {D : va_G} {cyI cyZ cyW : ClassId} {zW zO : Nat} {md : Nat → Nat} {mflags : Int32} {mtubs : Int32} {mpegs : Int32} {mcl : (Nat → Int32)} {mws : (Nat → Int32)} {mho : (Nat → Int32)} {mnow : (Nat → Int32)} {mrd : (Nat → Int32)} {mrh : (Nat → Int32)} {mrf : Int32} {mtx : (Nat → Int32)} {mlen : Int32} {mat : Int32} {mfa : Int32} {mac : Int32} {mnx : Int32} {mrow : (Nat → Int32)} {msn : Int32} {mso : (Nat → Int32)} {msc : (Nat → Int32)} {msw : (Nat → Int32)} {mseed : Int64} {mik : (Nat → Int32)} {mkp : (Nat → Int32)} {x1 : Int32} {res : Bool} (h : fX10_isFlag x1 mflags = some res) : KI l yX10_isFlag wsX10_isFlag ({ frames := 1, cells := 0, slots := 0, locals := 25 } : Room) D (tyA cyI cyZ cyW) zW zO [.ref (md 0), .int x1] (wMO cyI cyZ cyW md mflags mtubs mpegs mcl mws mho mnow mrd mrh mrf mtx mlen mat mfa mac mnx mrow msn mso msc msw mseed mik mkp) (wMO cyI cyZ cyW md mflags mtubs mpegs mcl mws mho mnow mrd mrh mrf mtx mlen mat mfa mac mnx mrow msn mso msc msw mseed mik mkp) (b2i res) := by
  refine enterI (cc := cX10_isFlag) (nL := 2) (ret := (some .boolean)) (by decide) rfl (Nat.le_of_ble_eq_true rfl) (fun p e s m below meth c A C => ?_)
  refine r_lv (lv' := [(0, .ref (md 0)), (1, .int x1)]) [0, 1] rfl ?_
  unfold fX10_isFlag at h
  refine r_iload_n C dX10_isFlag_0 1 rfl rfl ?_
  refine r_i2l C dX10_isFlag_1 ?_
  refine r_lconst (v := 0) C dX10_isFlag_2 lc_0 ?_
  refine r_aload_n C dX10_isFlag_3 0 rfl rfl ?_
  refine r_get (ci := 7) (CC := RX10) (T := TX10) (N := 24) (v := .int mflags) C hinX10_isFlag_X10 0 rfl rfl 0 (by decide) mX10_isFlag_1 rfl rfl dX10_isFlag_4 ?_
  refine r_iconst (v := 1) C dX10_isFlag_7 ic_1 ?_
  refine r_isub C dX10_isFlag_8 ?_
  refine r_i2l C dX10_isFlag_9 ?_
  obtain ⟨u1, hu1, h⟩ := ob_bind h
  refine r_readSI (As := [.long x1.toInt64, .long (0 : Int64), .long (mflags - (1 : Int32)).toInt64]) (rest := []) C (kX10_in   (x0 := x1.toInt64) (x2 := (0 : Int64)) (x4 := (mflags - (1 : Int32)).toInt64) hu1) gX10_isFlag_X10_in rfl rfl rfl hd_X10_in ⟨by decide, by decide⟩ rfl [] (by decide) rfl rfl (Nat.le_of_ble_eq_true rfl) dX10_isFlag_10 ⟨Nat.zero_le _, Nat.zero_le _⟩ ?_
  have h9 := Option.some.inj h
  subst h9
  exact r_zret (b := u1) C rfl dX10_isFlag_13

/-! ===== FlagWashModel.areIn ===== -/
def fX10_areIn_41 (rec5 : Int32 → Int32 → Option (Int32)) (x1 : Int32) (x2 : Int32) (x4 : Int32) (y0 : Int32) (y1 : Int32) (mflags : Int32) (mnow : (Nat → Int32)) : Option (Int32) :=
 (rec5 (y1 ||| y0) (x4 + (1 : Int32)))
def gX10_areIn_5 (rec5 : Int32 → Int32 → Option (Int32)) (x1 : Int32) (x2 : Int32) (x3 : Int32) (x4 : Int32) (mflags : Int32) (mnow : (Nat → Int32)) : Option (Int32) :=
 (if mflags ≤ x4 then (some x3)
 else (if inb ((((17 : Int32) * x1) + (5 : Int32)) + x4) 34 = true then (if (mnow ((((17 : Int32) * x1) + (5 : Int32)) + x4).toNatClampNeg) = x2 then (fX10_areIn_41 rec5 x1 x2 x4 ((1 : Int32) <<< (x4 &&& 31)) x3 mflags mnow)
 else (fX10_areIn_41 rec5 x1 x2 x4 (0 : Int32) x3 mflags mnow)) else none))
def fX10_areIn_5  (x1 : Int32) (x2 : Int32) (mflags : Int32) (mnow : (Nat → Int32)) : Nat → Int32 → Int32 → Option (Int32)
  | 0 => fun _ _ => none
  | n + 1 => fun x3 x4 => gX10_areIn_5 (fX10_areIn_5  x1 x2 mflags mnow n) x1 x2 x3 x4 mflags mnow
def fX10_areIn  (x1 : Int32) (x2 : Int32) (mflags : Int32) (mnow : (Nat → Int32)) : Option (Int32) :=
 (fX10_areIn_5  x1 x2 mflags mnow FU (0 : Int32) (0 : Int32))
theorem hinX10_areIn_X10 : ∀ w ∈ u_ws RX10 TX10 24, w ∈ wsX10_areIn := fun w h => List.mem_cons_of_mem _ (List.mem_append_right _ h)
theorem mX10_areIn_1 : Cond.fieldLink RX10 101 "FlagWashModel" "flags" "I" ∈ wsX10_areIn := List.mem_of_getElem? (i := 1) rfl
theorem mX10_areIn_2 : Cond.fieldLink RX10 19 "FlagWashModel" "now" "[I" ∈ wsX10_areIn := List.mem_of_getElem? (i := 2) rfl
theorem hd_X10_areIn : yX10_areIn.cls ≠ "java/lang/invoke/MethodHandle" ∧ yX10_areIn.cls ≠ "java/lang/invoke/VarHandle" ∧ (parseMethodDescriptor yX10_areIn.desc).map (fun d => d.parameters.length) = some 2 := by decide +kernel
set_option maxHeartbeats 4000000 in
set_option maxRecDepth 100000 in
theorem LX10_areIn_41 {p : Program} {l : Launch} {e : Env} {s : State} {m : MethodId} {args : Array Value} {below : List Frame} {meth : Method} {c : Code} {D : va_G} {cyI cyZ cyW : ClassId} {zW zO : Nat} {A : Nat → Prop} (C : Cx p s m args meth c cX10_areIn RX10 "areIn" wsX10_areIn (some .int) 5 D (tyA cyI cyZ cyW) zW zO A) {md : Nat → Nat} {mflags : Int32} {mtubs : Int32} {mpegs : Int32} {mcl : (Nat → Int32)} {mws : (Nat → Int32)} {mho : (Nat → Int32)} {mnow : (Nat → Int32)} {mrd : (Nat → Int32)} {mrh : (Nat → Int32)} {mrf : Int32} {mtx : (Nat → Int32)} {mlen : Int32} {mat : Int32} {mfa : Int32} {mac : Int32} {mnx : Int32} {mrow : (Nat → Int32)} {msn : Int32} {mso : (Nat → Int32)} {msc : (Nat → Int32)} {msw : (Nat → Int32)} {mseed : Int64} {mik : (Nat → Int32)} {mkp : (Nat → Int32)} {x1 : Int32} {x2 : Int32} {x4 : Int32} {y0 : Int32} {y1 : Int32} {rec5 : Int32 → Int32 → Option (Int32)} {res : Int32} (hrec5 : ∀ (x3 : Int32) (x4 : Int32), rec5 x3 x4 = some res → Mx p l e ({ frames := 0, cells := 0, slots := 0, locals := 0 } : Room) s m args below meth c (MQ below (QI D (tyA cyI cyZ cyW) A (wMO cyI cyZ cyW md mflags mtubs mpegs mcl mws mho mnow mrd mrh mrf mtx mlen mat mfa mac mnx mrow msn mso msc msw mseed mik mkp) res) args s 0 0 A) 5 D A 0 0 (wMO cyI cyZ cyW md mflags mtubs mpegs mcl mws mho mnow mrd mrh mrf mtx mlen mat mfa mac mnx mrow msn mso msc msw mseed mik mkp) 5 [(0, .ref (md 0)), (1, .int x1), (2, .int x2), (3, .int x3), (4, .int x4)] []) (h : fX10_areIn_41 rec5 x1 x2 x4 y0 y1 mflags mnow = some res) : Mx p l e ({ frames := 0, cells := 0, slots := 0, locals := 0 } : Room) s m args below meth c (MQ below (QI D (tyA cyI cyZ cyW) A (wMO cyI cyZ cyW md mflags mtubs mpegs mcl mws mho mnow mrd mrh mrf mtx mlen mat mfa mac mnx mrow msn mso msc msw mseed mik mkp) res) args s 0 0 A) 5 D A 0 0 (wMO cyI cyZ cyW md mflags mtubs mpegs mcl mws mho mnow mrd mrh mrf mtx mlen mat mfa mac mnx mrow msn mso msc msw mseed mik mkp) 41 [(0, .ref (md 0)), (1, .int x1), (2, .int x2), (4, .int x4)] [.int y0, .int y1] := by
  unfold fX10_areIn_41 at h
  refine r_ior C dX10_areIn_41 ?_
  refine r_istore_n (lv' := [(3, .int (y1 ||| y0)), (0, .ref (md 0)), (1, .int x1), (2, .int x2), (4, .int x4)]) C dX10_areIn_42 rfl (by decide) rfl ?_
  refine r_iinc (v := 1) (lv' := [(4, .int (x4 + (1 : Int32))), (3, .int (y1 ||| y0)), (0, .ref (md 0)), (1, .int x1), (2, .int x2)]) C dX10_areIn_43 4 rfl ic_1 (by decide) rfl ?_
  refine r_goto (tgt := 5) C dX10_areIn_46 (by decide) ?_
  refine r_lv (lv' := [(0, .ref (md 0)), (1, .int x1), (2, .int x2), (3, .int (y1 ||| y0)), (4, .int (x4 + (1 : Int32)))]) [2, 3, 4, 1, 0] rfl ?_
  exact hrec5 (y1 ||| y0) (x4 + (1 : Int32)) h
set_option maxHeartbeats 4000000 in
set_option maxRecDepth 100000 in
theorem LGX10_areIn_5 {p : Program} {l : Launch} {e : Env} {s : State} {m : MethodId} {args : Array Value} {below : List Frame} {meth : Method} {c : Code} {D : va_G} {cyI cyZ cyW : ClassId} {zW zO : Nat} {A : Nat → Prop} (C : Cx p s m args meth c cX10_areIn RX10 "areIn" wsX10_areIn (some .int) 5 D (tyA cyI cyZ cyW) zW zO A) {md : Nat → Nat} {mflags : Int32} {mtubs : Int32} {mpegs : Int32} {mcl : (Nat → Int32)} {mws : (Nat → Int32)} {mho : (Nat → Int32)} {mnow : (Nat → Int32)} {mrd : (Nat → Int32)} {mrh : (Nat → Int32)} {mrf : Int32} {mtx : (Nat → Int32)} {mlen : Int32} {mat : Int32} {mfa : Int32} {mac : Int32} {mnx : Int32} {mrow : (Nat → Int32)} {msn : Int32} {mso : (Nat → Int32)} {msc : (Nat → Int32)} {msw : (Nat → Int32)} {mseed : Int64} {mik : (Nat → Int32)} {mkp : (Nat → Int32)} {x1 : Int32} {x2 : Int32} {x3 : Int32} {x4 : Int32} {rec5 : Int32 → Int32 → Option (Int32)} {res : Int32} (hrec5 : ∀ (x3 : Int32) (x4 : Int32), rec5 x3 x4 = some res → Mx p l e ({ frames := 0, cells := 0, slots := 0, locals := 0 } : Room) s m args below meth c (MQ below (QI D (tyA cyI cyZ cyW) A (wMO cyI cyZ cyW md mflags mtubs mpegs mcl mws mho mnow mrd mrh mrf mtx mlen mat mfa mac mnx mrow msn mso msc msw mseed mik mkp) res) args s 0 0 A) 5 D A 0 0 (wMO cyI cyZ cyW md mflags mtubs mpegs mcl mws mho mnow mrd mrh mrf mtx mlen mat mfa mac mnx mrow msn mso msc msw mseed mik mkp) 5 [(0, .ref (md 0)), (1, .int x1), (2, .int x2), (3, .int x3), (4, .int x4)] []) (h : gX10_areIn_5 rec5 x1 x2 x3 x4 mflags mnow = some res) : Mx p l e ({ frames := 0, cells := 0, slots := 0, locals := 0 } : Room) s m args below meth c (MQ below (QI D (tyA cyI cyZ cyW) A (wMO cyI cyZ cyW md mflags mtubs mpegs mcl mws mho mnow mrd mrh mrf mtx mlen mat mfa mac mnx mrow msn mso msc msw mseed mik mkp) res) args s 0 0 A) 5 D A 0 0 (wMO cyI cyZ cyW md mflags mtubs mpegs mcl mws mho mnow mrd mrh mrf mtx mlen mat mfa mac mnx mrow msn mso msc msw mseed mik mkp) 5 [(0, .ref (md 0)), (1, .int x1), (2, .int x2), (3, .int x3), (4, .int x4)] [] := by
  unfold gX10_areIn_5 at h
  refine r_iload C dX10_areIn_5 4 rfl ?_
  refine r_aload_n C dX10_areIn_7 0 rfl rfl ?_
  refine r_get (ci := 7) (CC := RX10) (T := TX10) (N := 24) (v := .int mflags) C hinX10_areIn_X10 0 rfl rfl 0 (by decide) mX10_areIn_1 rfl rfl dX10_areIn_8 ?_
  refine r_icmp_ge (tgt := 49) C dX10_areIn_11 (by decide) (fun c1 => ?_) (fun c1 => ?_)
  · replace h := ob_t h c1
    refine r_iload_n C dX10_areIn_49 3 rfl rfl ?_
    have h9 := Option.some.inj h
    subst h9
    exact r_iret C rfl dX10_areIn_50
  · replace h := ob_f h c1
    refine r_iload_n C dX10_areIn_14 3 rfl rfl ?_
    refine r_aload_n C dX10_areIn_15 0 rfl rfl ?_
    refine r_get (ci := 7) (CC := RX10) (T := TX10) (N := 24) (v := .ref (md 4)) C hinX10_areIn_X10 0 rfl rfl 6 (by decide) mX10_areIn_2 rfl rfl dX10_areIn_16 ?_
    refine r_bipush (v := 17) C dX10_areIn_19 bp_17 ?_
    refine r_iload_n C dX10_areIn_21 1 rfl rfl ?_
    refine r_imul C dX10_areIn_22 ?_
    refine r_iconst (v := 5) C dX10_areIn_23 ic_5 ?_
    refine r_iadd C dX10_areIn_24 ?_
    refine r_iload C dX10_areIn_25 4 rfl ?_
    refine r_iadd C dX10_areIn_27 ?_
    obtain ⟨hu2, h⟩ := ob_if h
    refine r_iald C 4 0 rfl rfl (inb_vp hu2) dX10_areIn_28 ?_
    refine r_iload_n C dX10_areIn_29 2 rfl rfl ?_
    refine r_icmp_ne (tgt := 40) C dX10_areIn_30 (by decide) (fun c3 => ?_) (fun c3 => ?_)
    · replace h := ob_f h c3
      refine r_iconst (v := 0) C dX10_areIn_40 ic_0 ?_
      refine r_lv (lv' := [(0, .ref (md 0)), (1, .int x1), (2, .int x2), (4, .int x4)]) [0, 1, 2, 4] rfl ?_
      exact LX10_areIn_41 C (x1 := x1) (x2 := x2) (x4 := x4) (y0 := (0 : Int32)) (y1 := x3) (mflags := mflags) (mtubs := mtubs) (mpegs := mpegs) (mcl := mcl) (mws := mws) (mho := mho) (mnow := mnow) (mrd := mrd) (mrh := mrh) (mrf := mrf) (mtx := mtx) (mlen := mlen) (mat := mat) (mfa := mfa) (mac := mac) (mnx := mnx) (mrow := mrow) (msn := msn) (mso := mso) (msc := msc) (msw := msw) (mseed := mseed) (mik := mik) (mkp := mkp) hrec5 h
    · replace h := ob_t h c3
      refine r_iconst (v := 1) C dX10_areIn_33 ic_1 ?_
      refine r_iload C dX10_areIn_34 4 rfl ?_
      refine r_ishl C dX10_areIn_36 ?_
      refine r_goto (tgt := 41) C dX10_areIn_37 (by decide) ?_
      refine r_lv (lv' := [(0, .ref (md 0)), (1, .int x1), (2, .int x2), (4, .int x4)]) [0, 1, 2, 4] rfl ?_
      exact LX10_areIn_41 C (x1 := x1) (x2 := x2) (x4 := x4) (y0 := ((1 : Int32) <<< (x4 &&& 31))) (y1 := x3) (mflags := mflags) (mtubs := mtubs) (mpegs := mpegs) (mcl := mcl) (mws := mws) (mho := mho) (mnow := mnow) (mrd := mrd) (mrh := mrh) (mrf := mrf) (mtx := mtx) (mlen := mlen) (mat := mat) (mfa := mfa) (mac := mac) (mnx := mnx) (mrow := mrow) (msn := msn) (mso := mso) (msc := msc) (msw := msw) (mseed := mseed) (mik := mik) (mkp := mkp) hrec5 h
set_option maxHeartbeats 4000000 in
set_option maxRecDepth 100000 in
theorem LX10_areIn_5 {p : Program} {l : Launch} {e : Env} {s : State} {m : MethodId} {args : Array Value} {below : List Frame} {meth : Method} {c : Code} {D : va_G} {cyI cyZ cyW : ClassId} {zW zO : Nat} {A : Nat → Prop} (C : Cx p s m args meth c cX10_areIn RX10 "areIn" wsX10_areIn (some .int) 5 D (tyA cyI cyZ cyW) zW zO A) {md : Nat → Nat} {x1 : Int32} {x2 : Int32} {mflags : Int32} {mtubs : Int32} {mpegs : Int32} {mcl : (Nat → Int32)} {mws : (Nat → Int32)} {mho : (Nat → Int32)} {mnow : (Nat → Int32)} {mrd : (Nat → Int32)} {mrh : (Nat → Int32)} {mrf : Int32} {mtx : (Nat → Int32)} {mlen : Int32} {mat : Int32} {mfa : Int32} {mac : Int32} {mnx : Int32} {mrow : (Nat → Int32)} {msn : Int32} {mso : (Nat → Int32)} {msc : (Nat → Int32)} {msw : (Nat → Int32)} {mseed : Int64} {mik : (Nat → Int32)} {mkp : (Nat → Int32)}  {res : Int32}  : ∀ (n : Nat) (x3 : Int32) (x4 : Int32), fX10_areIn_5  x1 x2 mflags mnow n x3 x4 = some res → Mx p l e ({ frames := 0, cells := 0, slots := 0, locals := 0 } : Room) s m args below meth c (MQ below (QI D (tyA cyI cyZ cyW) A (wMO cyI cyZ cyW md mflags mtubs mpegs mcl mws mho mnow mrd mrh mrf mtx mlen mat mfa mac mnx mrow msn mso msc msw mseed mik mkp) res) args s 0 0 A) 5 D A 0 0 (wMO cyI cyZ cyW md mflags mtubs mpegs mcl mws mho mnow mrd mrh mrf mtx mlen mat mfa mac mnx mrow msn mso msc msw mseed mik mkp) 5 [(0, .ref (md 0)), (1, .int x1), (2, .int x2), (3, .int x3), (4, .int x4)] [] := by
  intro n
  induction n with
  | zero => intro x3 x4 h; cases h
  | succ n ih => intro x3 x4 h; exact LGX10_areIn_5 C ih h
set_option maxHeartbeats 4000000 in
set_option maxRecDepth 100000 in
theorem kX10_areIn {l : Launch} {D : va_G} {cyI cyZ cyW : ClassId} {zW zO : Nat} {md : Nat → Nat} {mflags : Int32} {mtubs : Int32} {mpegs : Int32} {mcl : (Nat → Int32)} {mws : (Nat → Int32)} {mho : (Nat → Int32)} {mnow : (Nat → Int32)} {mrd : (Nat → Int32)} {mrh : (Nat → Int32)} {mrf : Int32} {mtx : (Nat → Int32)} {mlen : Int32} {mat : Int32} {mfa : Int32} {mac : Int32} {mnx : Int32} {mrow : (Nat → Int32)} {msn : Int32} {mso : (Nat → Int32)} {msc : (Nat → Int32)} {msw : (Nat → Int32)} {mseed : Int64} {mik : (Nat → Int32)} {mkp : (Nat → Int32)} {x1 : Int32} {x2 : Int32} {res : Int32} (h : fX10_areIn x1 x2 mflags mnow = some res) : KI l yX10_areIn wsX10_areIn ({ frames := 0, cells := 0, slots := 0, locals := 0 } : Room) D (tyA cyI cyZ cyW) zW zO [.ref (md 0), .int x1, .int x2] (wMO cyI cyZ cyW md mflags mtubs mpegs mcl mws mho mnow mrd mrh mrf mtx mlen mat mfa mac mnx mrow msn mso msc msw mseed mik mkp) (wMO cyI cyZ cyW md mflags mtubs mpegs mcl mws mho mnow mrd mrh mrf mtx mlen mat mfa mac mnx mrow msn mso msc msw mseed mik mkp) res := by
  refine enterI (cc := cX10_areIn) (nL := 5) (ret := (some .int)) (by decide) rfl (Nat.le_of_ble_eq_true rfl) (fun p e s m below meth c A C => ?_)
  refine r_lv (lv' := [(0, .ref (md 0)), (1, .int x1), (2, .int x2)]) [0, 1, 2] rfl ?_
  unfold fX10_areIn at h
  refine r_iconst (v := 0) C dX10_areIn_0 ic_0 ?_
  refine r_istore_n (lv' := [(3, .int (0 : Int32)), (0, .ref (md 0)), (1, .int x1), (2, .int x2)]) C dX10_areIn_1 rfl (by decide) rfl ?_
  refine r_iconst (v := 0) C dX10_areIn_2 ic_0 ?_
  refine r_istore (lv' := [(4, .int (0 : Int32)), (3, .int (0 : Int32)), (0, .ref (md 0)), (1, .int x1), (2, .int x2)]) C dX10_areIn_3 (by decide) rfl ?_
  refine r_lv (lv' := [(0, .ref (md 0)), (1, .int x1), (2, .int x2), (3, .int (0 : Int32)), (4, .int (0 : Int32))]) [2, 3, 4, 1, 0] rfl ?_
  exact LX10_areIn_5 C (x1 := x1) (x2 := x2) (mflags := mflags) (mtubs := mtubs) (mpegs := mpegs) (mcl := mcl) (mws := mws) (mho := mho) (mnow := mnow) (mrd := mrd) (mrh := mrh) (mrf := mrf) (mtx := mtx) (mlen := mlen) (mat := mat) (mfa := mfa) (mac := mac) (mnx := mnx) (mrow := mrow) (msn := msn) (mso := mso) (msc := msc) (msw := msw) (mseed := mseed) (mik := mik) (mkp := mkp)  FU (0 : Int32) (0 : Int32) h

/-! ===== FlagWashModel.free ===== -/
def fX10_free_16  (x1 : Int32) (x2 : Int32) (y0 : Int32) (mflags : Int32) (mnow : (Nat → Int32)) : Option (Int32) :=
 ((fX10_areIn x1 x2 mflags mnow).bind fun u2 => ((fX10_ones u2).bind fun u3 => (some (y0 - u3))))
def fX10_free  (x1 : Int32) (x2 : Int32) (mflags : Int32) (mtubs : Int32) (mpegs : Int32) (mnow : (Nat → Int32)) : Option (Int32) :=
 (if x2 = (1 : Int32) then (fX10_free_16  x1 x2 mtubs mflags mnow)
 else (fX10_free_16  x1 x2 mpegs mflags mnow))
theorem hinX10_free_X10 : ∀ w ∈ u_ws RX10 TX10 24, w ∈ wsX10_free := fun w h => List.mem_cons_of_mem _ (List.mem_append_right _ h)
theorem mX10_free_2 : Cond.fieldLink RX10 54 "FlagWashModel" "pegs" "I" ∈ wsX10_free := List.mem_of_getElem? (i := 2) rfl
theorem mX10_free_1 : Cond.fieldLink RX10 50 "FlagWashModel" "tubs" "I" ∈ wsX10_free := List.mem_of_getElem? (i := 1) rfl
theorem hd_X10_free : yX10_free.cls ≠ "java/lang/invoke/MethodHandle" ∧ yX10_free.cls ≠ "java/lang/invoke/VarHandle" ∧ (parseMethodDescriptor yX10_free.desc).map (fun d => d.parameters.length) = some 2 := by decide +kernel
set_option maxHeartbeats 4000000 in
set_option maxRecDepth 100000 in
theorem LX10_free_16 {p : Program} {l : Launch} {e : Env} {s : State} {m : MethodId} {args : Array Value} {below : List Frame} {meth : Method} {c : Code} {D : va_G} {cyI cyZ cyW : ClassId} {zW zO : Nat} {A : Nat → Prop} (C : Cx p s m args meth c cX10_free RX10 "free" wsX10_free (some .int) 3 D (tyA cyI cyZ cyW) zW zO A) {md : Nat → Nat} {mflags : Int32} {mtubs : Int32} {mpegs : Int32} {mcl : (Nat → Int32)} {mws : (Nat → Int32)} {mho : (Nat → Int32)} {mnow : (Nat → Int32)} {mrd : (Nat → Int32)} {mrh : (Nat → Int32)} {mrf : Int32} {mtx : (Nat → Int32)} {mlen : Int32} {mat : Int32} {mfa : Int32} {mac : Int32} {mnx : Int32} {mrow : (Nat → Int32)} {msn : Int32} {mso : (Nat → Int32)} {msc : (Nat → Int32)} {msw : (Nat → Int32)} {mseed : Int64} {mik : (Nat → Int32)} {mkp : (Nat → Int32)} {x1 : Int32} {x2 : Int32} {y0 : Int32}  {res : Int32}  (h : fX10_free_16  x1 x2 y0 mflags mnow = some res) : Mx p l e ({ frames := 1, cells := 0, slots := 0, locals := 24 } : Room) s m args below meth c (MQ below (QI D (tyA cyI cyZ cyW) A (wMO cyI cyZ cyW md mflags mtubs mpegs mcl mws mho mnow mrd mrh mrf mtx mlen mat mfa mac mnx mrow msn mso msc msw mseed mik mkp) res) args s 0 0 A) 3 D A 0 0 (wMO cyI cyZ cyW md mflags mtubs mpegs mcl mws mho mnow mrd mrh mrf mtx mlen mat mfa mac mnx mrow msn mso msc msw mseed mik mkp) 16 [(0, .ref (md 0)), (1, .int x1), (2, .int x2)] [.int y0] := by
  unfold fX10_free_16 at h
  refine r_aload_n C dX10_free_16 0 rfl rfl ?_
  refine r_iload_n C dX10_free_17 1 rfl rfl ?_
  refine r_iload_n C dX10_free_18 2 rfl rfl ?_
  obtain ⟨u2, hu2, h⟩ := ob_bind h
  refine r_readVI (q0 := 0) (As := [.int x1, .int x2]) (rest := [.int y0]) C (kX10_areIn (md := md) (mflags := mflags) (mtubs := mtubs) (mpegs := mpegs) (mcl := mcl) (mws := mws) (mho := mho) (mnow := mnow) (mrd := mrd) (mrh := mrh) (mrf := mrf) (mtx := mtx) (mlen := mlen) (mat := mat) (mfa := mfa) (mac := mac) (mnx := mnx) (mrow := mrow) (msn := msn) (mso := mso) (msc := msc) (msw := msw) (mseed := mseed) (mik := mik) (mkp := mkp) (x1 := x1) (x2 := x2) hu2) gX10_free_X10_areIn rfl rfl rfl ⟨rfl, hd_X10_areIn⟩ ⟨by decide, by decide⟩ rfl rfl rfl rfl [0, 1, 2, 3, 4, 5, 6, 7, 8, 9, 10, 11, 12, 13] (by decide) in_76 rfl (Nat.le_of_ble_eq_true rfl) dX10_free_19 ⟨Nat.zero_le _, Nat.zero_le _⟩ ?_
  obtain ⟨u3, hu3, h⟩ := ob_bind h
  refine r_readSI (As := [.int u2]) (rest := [.int y0]) C (kX10_ones   (x0 := u2) hu3) gX10_free_X10_ones rfl rfl rfl hd_X10_ones ⟨by decide, by decide⟩ rfl [] (by decide) rfl rfl (Nat.le_of_ble_eq_true rfl) dX10_free_22 ⟨Nat.zero_le _, Nat.zero_le _⟩ ?_
  refine r_isub C dX10_free_25 ?_
  have h9 := Option.some.inj h
  subst h9
  exact r_iret C rfl dX10_free_26
set_option maxHeartbeats 4000000 in
set_option maxRecDepth 100000 in
theorem kX10_free {l : Launch} {D : va_G} {cyI cyZ cyW : ClassId} {zW zO : Nat} {md : Nat → Nat} {mflags : Int32} {mtubs : Int32} {mpegs : Int32} {mcl : (Nat → Int32)} {mws : (Nat → Int32)} {mho : (Nat → Int32)} {mnow : (Nat → Int32)} {mrd : (Nat → Int32)} {mrh : (Nat → Int32)} {mrf : Int32} {mtx : (Nat → Int32)} {mlen : Int32} {mat : Int32} {mfa : Int32} {mac : Int32} {mnx : Int32} {mrow : (Nat → Int32)} {msn : Int32} {mso : (Nat → Int32)} {msc : (Nat → Int32)} {msw : (Nat → Int32)} {mseed : Int64} {mik : (Nat → Int32)} {mkp : (Nat → Int32)} {x1 : Int32} {x2 : Int32} {res : Int32} (h : fX10_free x1 x2 mflags mtubs mpegs mnow = some res) : KI l yX10_free wsX10_free ({ frames := 1, cells := 0, slots := 0, locals := 24 } : Room) D (tyA cyI cyZ cyW) zW zO [.ref (md 0), .int x1, .int x2] (wMO cyI cyZ cyW md mflags mtubs mpegs mcl mws mho mnow mrd mrh mrf mtx mlen mat mfa mac mnx mrow msn mso msc msw mseed mik mkp) (wMO cyI cyZ cyW md mflags mtubs mpegs mcl mws mho mnow mrd mrh mrf mtx mlen mat mfa mac mnx mrow msn mso msc msw mseed mik mkp) res := by
  refine enterI (cc := cX10_free) (nL := 3) (ret := (some .int)) (by decide) rfl (Nat.le_of_ble_eq_true rfl) (fun p e s m below meth c A C => ?_)
  refine r_lv (lv' := [(0, .ref (md 0)), (1, .int x1), (2, .int x2)]) [0, 1, 2] rfl ?_
  unfold fX10_free at h
  refine r_iload_n C dX10_free_0 2 rfl rfl ?_
  refine r_iconst (v := 1) C dX10_free_1 ic_1 ?_
  refine r_icmp_ne (tgt := 12) C dX10_free_2 (by decide) (fun c1 => ?_) (fun c1 => ?_)
  · replace h := ob_f h c1
    refine r_aload_n C dX10_free_12 0 rfl rfl ?_
    refine r_get (ci := 7) (CC := RX10) (T := TX10) (N := 24) (v := .int mpegs) C hinX10_free_X10 0 rfl rfl 2 (by decide) mX10_free_2 rfl rfl dX10_free_13 ?_
    refine r_lv (lv' := [(0, .ref (md 0)), (1, .int x1), (2, .int x2)]) [0, 1, 2] rfl ?_
    exact LX10_free_16 C (x1 := x1) (x2 := x2) (y0 := mpegs) (mflags := mflags) (mtubs := mtubs) (mpegs := mpegs) (mcl := mcl) (mws := mws) (mho := mho) (mnow := mnow) (mrd := mrd) (mrh := mrh) (mrf := mrf) (mtx := mtx) (mlen := mlen) (mat := mat) (mfa := mfa) (mac := mac) (mnx := mnx) (mrow := mrow) (msn := msn) (mso := mso) (msc := msc) (msw := msw) (mseed := mseed) (mik := mik) (mkp := mkp)  h
  · replace h := ob_t h c1
    refine r_aload_n C dX10_free_5 0 rfl rfl ?_
    refine r_get (ci := 7) (CC := RX10) (T := TX10) (N := 24) (v := .int mtubs) C hinX10_free_X10 0 rfl rfl 1 (by decide) mX10_free_1 rfl rfl dX10_free_6 ?_
    refine r_goto (tgt := 16) C dX10_free_9 (by decide) ?_
    refine r_lv (lv' := [(0, .ref (md 0)), (1, .int x1), (2, .int x2)]) [0, 1, 2] rfl ?_
    exact LX10_free_16 C (x1 := x1) (x2 := x2) (y0 := mtubs) (mflags := mflags) (mtubs := mtubs) (mpegs := mpegs) (mcl := mcl) (mws := mws) (mho := mho) (mnow := mnow) (mrd := mrd) (mrh := mrh) (mrf := mrf) (mtx := mtx) (mlen := mlen) (mat := mat) (mfa := mfa) (mac := mac) (mnx := mnx) (mrow := mrow) (msn := msn) (mso := mso) (msc := msc) (msw := msw) (mseed := mseed) (mik := mik) (mkp := mkp)  h
