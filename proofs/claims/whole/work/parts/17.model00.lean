/-! ===== FlagWashModel.in ===== -/
def fX10_in  (x0 : Int64) (x2 : Int64) (x4 : Int64) : Option (Bool) :=
 (if (lg_cmp x0 x2) < 0 then (some false)
 else (if 0 < (lg_cmp x0 x4) then (some false)
 else (some true)))
theorem hd_X10_in : yX10_in.cls ≠ "java/lang/invoke/MethodHandle" ∧ yX10_in.cls ≠ "java/lang/invoke/VarHandle" ∧ (parseMethodDescriptor yX10_in.desc).map (fun d => d.parameters.length) = some 3 := by decide +kernel
set_option maxHeartbeats 4000000 in
set_option maxRecDepth 100000 in
theorem kX10_in {l : Launch} {D : va_G} {cyI cyZ cyW : ClassId} {zW zO : Nat}   {x0 : Int64} {x2 : Int64} {x4 : Int64} {res : Bool} (h : fX10_in x0 x2 x4 = some res) : KI l yX10_in wsX10_in ({ frames := 0, cells := 0, slots := 0, locals := 0 } : Room) D (tyA cyI cyZ cyW) zW zO [.long x0, .long x2, .long x4] ([] : va_W) ([] : va_W) (b2i res) := by
  refine enterI (cc := cX10_in) (nL := 6) (ret := (some .boolean)) (by decide) rfl (Nat.le_of_ble_eq_true rfl) (fun p e s m below meth c A C => ?_)
  refine r_lv (lv' := [(0, .long x0), (2, .long x2), (4, .long x4)]) [0, 1, 2] rfl ?_
  unfold fX10_in at h
  refine r_lload_n C dX10_in_0 0 rfl rfl ?_
  refine r_lload_n C dX10_in_1 1 rfl rfl ?_
  refine r_lcmp C dX10_in_2 ?_
  refine r_if_lt (tgt := 17) C dX10_in_3 (by decide) (fun c1 => ?_) (fun c1 => ?_)
  · replace h := ob_t h c1
    refine r_iconst (v := 0) C dX10_in_17 ic_0 ?_
    have h9 := Option.some.inj h
    subst h9
    exact r_zret (b := false) C rfl dX10_in_18
  · replace h := ob_f h c1
    refine r_lload_n C dX10_in_6 0 rfl rfl ?_
    refine r_lload C dX10_in_7 2 rfl ?_
    refine r_lcmp C dX10_in_9 ?_
    refine r_if_gt (tgt := 17) C dX10_in_10 (by decide) (fun c2 => ?_) (fun c2 => ?_)
    · replace h := ob_t h c2
      refine r_iconst (v := 0) C dX10_in_17 ic_0 ?_
      have h9 := Option.some.inj h
      subst h9
      exact r_zret (b := false) C rfl dX10_in_18
    · replace h := ob_f h c2
      refine r_iconst (v := 1) C dX10_in_13 ic_1 ?_
      refine r_goto (tgt := 18) C dX10_in_14 (by decide) ?_
      have h9 := Option.some.inj h
      subst h9
      exact r_zret (b := true) C rfl dX10_in_18

/-! ===== FlagWashModel.has ===== -/
def fX10_has  (x0 : Int32) (x1 : Int32) : Option (Bool) :=
 (if ((x0 >>> (x1 &&& 31)) &&& (1 : Int32)) = (1 : Int32) then (some true)
 else (some false))
theorem hd_X10_has : yX10_has.cls ≠ "java/lang/invoke/MethodHandle" ∧ yX10_has.cls ≠ "java/lang/invoke/VarHandle" ∧ (parseMethodDescriptor yX10_has.desc).map (fun d => d.parameters.length) = some 2 := by decide +kernel
set_option maxHeartbeats 4000000 in
set_option maxRecDepth 100000 in
theorem kX10_has {l : Launch} {D : va_G} {cyI cyZ cyW : ClassId} {zW zO : Nat}   {x0 : Int32} {x1 : Int32} {res : Bool} (h : fX10_has x0 x1 = some res) : KI l yX10_has wsX10_has ({ frames := 0, cells := 0, slots := 0, locals := 0 } : Room) D (tyA cyI cyZ cyW) zW zO [.int x0, .int x1] ([] : va_W) ([] : va_W) (b2i res) := by
  refine enterI (cc := cX10_has) (nL := 2) (ret := (some .boolean)) (by decide) rfl (Nat.le_of_ble_eq_true rfl) (fun p e s m below meth c A C => ?_)
  refine r_lv (lv' := [(0, .int x0), (1, .int x1)]) [0, 1] rfl ?_
  unfold fX10_has at h
  refine r_iload_n C dX10_has_0 0 rfl rfl ?_
  refine r_iload_n C dX10_has_1 1 rfl rfl ?_
  refine r_ishr C dX10_has_2 ?_
  refine r_iconst (v := 1) C dX10_has_3 ic_1 ?_
  refine r_iand C dX10_has_4 ?_
  refine r_iconst (v := 1) C dX10_has_5 ic_1 ?_
  refine r_icmp_ne (tgt := 13) C dX10_has_6 (by decide) (fun c1 => ?_) (fun c1 => ?_)
  · replace h := ob_f h c1
    refine r_iconst (v := 0) C dX10_has_13 ic_0 ?_
    have h9 := Option.some.inj h
    subst h9
    exact r_zret (b := false) C rfl dX10_has_14
  · replace h := ob_t h c1
    refine r_iconst (v := 1) C dX10_has_9 ic_1 ?_
    refine r_goto (tgt := 14) C dX10_has_10 (by decide) ?_
    have h9 := Option.some.inj h
    subst h9
    exact r_zret (b := true) C rfl dX10_has_14

/-! ===== FlagWashModel.ones ===== -/
def fX10_ones_17 (rec4 : Int32 → Int32 → Option (Int32)) (x0 : Int32) (x1 : Int32) (x2 : Int32) : Option (Int32) :=
 (rec4 x1 (x2 + (1 : Int32)))
def gX10_ones_4 (rec4 : Int32 → Int32 → Option (Int32)) (x0 : Int32) (x1 : Int32) (x2 : Int32) : Option (Int32) :=
 (if (5 : Int32) ≤ x2 then (some x1)
 else (fX10_ones_17 rec4 x0 (x1 + ((x0 >>> (x2 &&& 31)) &&& (1 : Int32))) x2))
def fX10_ones_4  (x0 : Int32) : Nat → Int32 → Int32 → Option (Int32)
  | 0 => fun _ _ => none
  | n + 1 => fun x1 x2 => gX10_ones_4 (fX10_ones_4  x0 n) x0 x1 x2
def fX10_ones  (x0 : Int32) : Option (Int32) :=
 (fX10_ones_4  x0 FU (0 : Int32) (0 : Int32))
theorem hd_X10_ones : yX10_ones.cls ≠ "java/lang/invoke/MethodHandle" ∧ yX10_ones.cls ≠ "java/lang/invoke/VarHandle" ∧ (parseMethodDescriptor yX10_ones.desc).map (fun d => d.parameters.length) = some 1 := by decide +kernel
set_option maxHeartbeats 4000000 in
set_option maxRecDepth 100000 in
theorem LX10_ones_17 {p : Program} {l : Launch} {e : Env} {s : State} {m : MethodId} {args : Array Value} {below : List Frame} {meth : Method} {c : Code} {D : va_G} {cyI cyZ cyW : ClassId} {zW zO : Nat} {A : Nat → Prop} (C : Cx p s m args meth c cX10_ones RX10 "ones" wsX10_ones (some .int) 3 D (tyA cyI cyZ cyW) zW zO A)   {x0 : Int32} {x1 : Int32} {x2 : Int32} {rec4 : Int32 → Int32 → Option (Int32)} {res : Int32} (hrec4 : ∀ (x1 : Int32) (x2 : Int32), rec4 x1 x2 = some res → Mx p l e ({ frames := 0, cells := 0, slots := 0, locals := 0 } : Room) s m args below meth c (MQ below (QI D (tyA cyI cyZ cyW) A ([] : va_W) res) args s 0 0 A) 3 D A 0 0 ([] : va_W) 4 [(0, .int x0), (1, .int x1), (2, .int x2)] []) (h : fX10_ones_17 rec4 x0 x1 x2 = some res) : Mx p l e ({ frames := 0, cells := 0, slots := 0, locals := 0 } : Room) s m args below meth c (MQ below (QI D (tyA cyI cyZ cyW) A ([] : va_W) res) args s 0 0 A) 3 D A 0 0 ([] : va_W) 17 [(0, .int x0), (1, .int x1), (2, .int x2)] [] := by
  unfold fX10_ones_17 at h
  refine r_iinc (v := 1) (lv' := [(2, .int (x2 + (1 : Int32))), (0, .int x0), (1, .int x1)]) C dX10_ones_17 2 rfl ic_1 (by decide) rfl ?_
  refine r_goto (tgt := 4) C dX10_ones_20 (by decide) ?_
  refine r_lv (lv' := [(0, .int x0), (1, .int x1), (2, .int (x2 + (1 : Int32)))]) [1, 2, 0] rfl ?_
  exact hrec4 x1 (x2 + (1 : Int32)) h
set_option maxHeartbeats 4000000 in
set_option maxRecDepth 100000 in
theorem LGX10_ones_4 {p : Program} {l : Launch} {e : Env} {s : State} {m : MethodId} {args : Array Value} {below : List Frame} {meth : Method} {c : Code} {D : va_G} {cyI cyZ cyW : ClassId} {zW zO : Nat} {A : Nat → Prop} (C : Cx p s m args meth c cX10_ones RX10 "ones" wsX10_ones (some .int) 3 D (tyA cyI cyZ cyW) zW zO A)   {x0 : Int32} {x1 : Int32} {x2 : Int32} {rec4 : Int32 → Int32 → Option (Int32)} {res : Int32} (hrec4 : ∀ (x1 : Int32) (x2 : Int32), rec4 x1 x2 = some res → Mx p l e ({ frames := 0, cells := 0, slots := 0, locals := 0 } : Room) s m args below meth c (MQ below (QI D (tyA cyI cyZ cyW) A ([] : va_W) res) args s 0 0 A) 3 D A 0 0 ([] : va_W) 4 [(0, .int x0), (1, .int x1), (2, .int x2)] []) (h : gX10_ones_4 rec4 x0 x1 x2 = some res) : Mx p l e ({ frames := 0, cells := 0, slots := 0, locals := 0 } : Room) s m args below meth c (MQ below (QI D (tyA cyI cyZ cyW) A ([] : va_W) res) args s 0 0 A) 3 D A 0 0 ([] : va_W) 4 [(0, .int x0), (1, .int x1), (2, .int x2)] [] := by
  unfold gX10_ones_4 at h
  refine r_iload_n C dX10_ones_4 2 rfl rfl ?_
  refine r_iconst (v := 5) C dX10_ones_5 ic_5 ?_
  refine r_icmp_ge (tgt := 23) C dX10_ones_6 (by decide) (fun c1 => ?_) (fun c1 => ?_)
  · replace h := ob_t h c1
    refine r_iload_n C dX10_ones_23 1 rfl rfl ?_
    have h9 := Option.some.inj h
    subst h9
    exact r_iret C rfl dX10_ones_24
  · replace h := ob_f h c1
    refine r_iload_n C dX10_ones_9 1 rfl rfl ?_
    refine r_iload_n C dX10_ones_10 0 rfl rfl ?_
    refine r_iload_n C dX10_ones_11 2 rfl rfl ?_
    refine r_ishr C dX10_ones_12 ?_
    refine r_iconst (v := 1) C dX10_ones_13 ic_1 ?_
    refine r_iand C dX10_ones_14 ?_
    refine r_iadd C dX10_ones_15 ?_
    refine r_istore_n (lv' := [(1, .int (x1 + ((x0 >>> (x2 &&& 31)) &&& (1 : Int32)))), (0, .int x0), (2, .int x2)]) C dX10_ones_16 rfl (by decide) rfl ?_
    refine r_lv (lv' := [(0, .int x0), (1, .int (x1 + ((x0 >>> (x2 &&& 31)) &&& (1 : Int32)))), (2, .int x2)]) [1, 0, 2] rfl ?_
    exact LX10_ones_17 C (x0 := x0) (x1 := (x1 + ((x0 >>> (x2 &&& 31)) &&& (1 : Int32)))) (x2 := x2) hrec4 h
set_option maxHeartbeats 4000000 in
set_option maxRecDepth 100000 in
theorem LX10_ones_4 {p : Program} {l : Launch} {e : Env} {s : State} {m : MethodId} {args : Array Value} {below : List Frame} {meth : Method} {c : Code} {D : va_G} {cyI cyZ cyW : ClassId} {zW zO : Nat} {A : Nat → Prop} (C : Cx p s m args meth c cX10_ones RX10 "ones" wsX10_ones (some .int) 3 D (tyA cyI cyZ cyW) zW zO A)  {x0 : Int32}  {res : Int32}  : ∀ (n : Nat) (x1 : Int32) (x2 : Int32), fX10_ones_4  x0 n x1 x2 = some res → Mx p l e ({ frames := 0, cells := 0, slots := 0, locals := 0 } : Room) s m args below meth c (MQ below (QI D (tyA cyI cyZ cyW) A ([] : va_W) res) args s 0 0 A) 3 D A 0 0 ([] : va_W) 4 [(0, .int x0), (1, .int x1), (2, .int x2)] [] := by
  intro n
  induction n with
  | zero => intro x1 x2 h; cases h
  | succ n ih => intro x1 x2 h; exact LGX10_ones_4 C ih h
set_option maxHeartbeats 4000000 in
set_option maxRecDepth 100000 in
theorem kX10_ones {l : Launch} {D : va_G} {cyI cyZ cyW : ClassId} {zW zO : Nat}   {x0 : Int32} {res : Int32} (h : fX10_ones x0 = some res) : KI l yX10_ones wsX10_ones ({ frames := 0, cells := 0, slots := 0, locals := 0 } : Room) D (tyA cyI cyZ cyW) zW zO [.int x0] ([] : va_W) ([] : va_W) res := by
  refine enterI (cc := cX10_ones) (nL := 3) (ret := (some .int)) (by decide) rfl (Nat.le_of_ble_eq_true rfl) (fun p e s m below meth c A C => ?_)
  refine r_lv (lv' := [(0, .int x0)]) [0] rfl ?_
  unfold fX10_ones at h
  refine r_iconst (v := 0) C dX10_ones_0 ic_0 ?_
  refine r_istore_n (lv' := [(1, .int (0 : Int32)), (0, .int x0)]) C dX10_ones_1 rfl (by decide) rfl ?_
  refine r_iconst (v := 0) C dX10_ones_2 ic_0 ?_
  refine r_istore_n (lv' := [(2, .int (0 : Int32)), (1, .int (0 : Int32)), (0, .int x0)]) C dX10_ones_3 rfl (by decide) rfl ?_
  refine r_lv (lv' := [(0, .int x0), (1, .int (0 : Int32)), (2, .int (0 : Int32))]) [2, 1, 0] rfl ?_
  exact LX10_ones_4 C (x0 := x0)  FU (0 : Int32) (0 : Int32) h

/-! ===== FlagWashModel.write ===== -/
def fX10_write  (x1 : Int32) (mtx : (Nat → Int32)) (mlen : Int32) : Option (Int32 × (Nat → Int32) × Int32) :=
 ((fX10_in x1.toInt64 (0 : Int64) (255 : Int64)).bind fun u1 => (if u1 = true then (if mlen = (48 : Int32) then (some ((-4 : Int32), mtx, mlen))
 else (if inb mlen 48 = true then (some ((mlen + (1 : Int32)), (upd mtx mlen.toNatClampNeg x1), (mlen + (1 : Int32)))) else none))
 else (some ((-2 : Int32), mtx, mlen))))
theorem mX10_write_1 : Cond.constantLong RX10 57 (255) ∈ wsX10_write := List.mem_of_getElem? (i := 1) rfl
theorem hinX10_write_X10 : ∀ w ∈ u_ws RX10 TX10 24, w ∈ wsX10_write := fun w h => List.mem_cons_of_mem _ (List.mem_append_right _ h)
theorem mX10_write_2 : Cond.fieldLink RX10 63 "FlagWashModel" "length" "I" ∈ wsX10_write := List.mem_of_getElem? (i := 2) rfl
theorem mX10_write_3 : Cond.fieldLink RX10 28 "FlagWashModel" "text" "[I" ∈ wsX10_write := List.mem_of_getElem? (i := 3) rfl
theorem hd_X10_write : yX10_write.cls ≠ "java/lang/invoke/MethodHandle" ∧ yX10_write.cls ≠ "java/lang/invoke/VarHandle" ∧ (parseMethodDescriptor yX10_write.desc).map (fun d => d.parameters.length) = some 1 := by decide +kernel
set_option maxHeartbeats 4000000 in
set_option maxRecDepth 100000 in
theorem kX10_write {l : Launch} {D : va_G} {cyI cyZ cyW : ClassId} {zW zO : Nat} {md : Nat → Nat} {mflags : Int32} {mtubs : Int32} {mpegs : Int32} {mcl : (Nat → Int32)} {mws : (Nat → Int32)} {mho : (Nat → Int32)} {mnow : (Nat → Int32)} {mrd : (Nat → Int32)} {mrh : (Nat → Int32)} {mrf : Int32} {mtx : (Nat → Int32)} {mlen : Int32} {mat : Int32} {mfa : Int32} {mac : Int32} {mnx : Int32} {mrow : (Nat → Int32)} {msn : Int32} {mso : (Nat → Int32)} {msc : (Nat → Int32)} {msw : (Nat → Int32)} {mseed : Int64} {mik : (Nat → Int32)} {mkp : (Nat → Int32)} {x1 : Int32} {res : Int32 × (Nat → Int32) × Int32} (h : fX10_write x1 mtx mlen = some res) : KI l yX10_write wsX10_write ({ frames := 1, cells := 0, slots := 0, locals := 25 } : Room) D (tyA cyI cyZ cyW) zW zO [.ref (md 0), .int x1] (wMO cyI cyZ cyW md mflags mtubs mpegs mcl mws mho mnow mrd mrh mrf mtx mlen mat mfa mac mnx mrow msn mso msc msw mseed mik mkp) (wMO cyI cyZ cyW md mflags mtubs mpegs mcl mws mho mnow mrd mrh mrf res.2.1 res.2.2 mat mfa mac mnx mrow msn mso msc msw mseed mik mkp) res.1 := by
  refine enterI (cc := cX10_write) (nL := 2) (ret := (some .int)) (by decide) rfl (Nat.le_of_ble_eq_true rfl) (fun p e s m below meth c A C => ?_)
  refine r_lv (lv' := [(0, .ref (md 0)), (1, .int x1)]) [0, 1] rfl ?_
  unfold fX10_write at h
  refine r_iload_n C dX10_write_0 1 rfl rfl ?_
  refine r_i2l C dX10_write_1 ?_
  refine r_lconst (v := 0) C dX10_write_2 lc_0 ?_
  refine r_ldc2 (v := 255) C mX10_write_1 dX10_write_3 ?_
  obtain ⟨u1, hu1, h⟩ := ob_bind h
  refine r_readSI (As := [.long x1.toInt64, .long (0 : Int64), .long (255 : Int64)]) (rest := []) C (kX10_in   (x0 := x1.toInt64) (x2 := (0 : Int64)) (x4 := (255 : Int64)) hu1) gX10_write_X10_in rfl rfl rfl hd_X10_in ⟨by decide, by decide⟩ rfl [] (by decide) rfl rfl (Nat.le_of_ble_eq_true rfl) dX10_write_6 ⟨Nat.zero_le _, Nat.zero_le _⟩ ?_
  refine r_ifb_ne (tgt := 15) C dX10_write_9 (by decide) (fun c2 => ?_) (fun c2 => ?_)
  · replace h := ob_t h c2
    refine r_aload_n C dX10_write_15 0 rfl rfl ?_
    refine r_get (ci := 7) (CC := RX10) (T := TX10) (N := 24) (v := .int mlen) C hinX10_write_X10 0 rfl rfl 11 (by decide) mX10_write_2 rfl rfl dX10_write_16 ?_
    refine r_bipush (v := 48) C dX10_write_19 bp_48 ?_
    refine r_icmp_ne (tgt := 27) C dX10_write_21 (by decide) (fun c3 => ?_) (fun c3 => ?_)
    · replace h := ob_f h c3
      refine r_aload_n C dX10_write_27 0 rfl rfl ?_
      refine r_get (ci := 7) (CC := RX10) (T := TX10) (N := 24) (v := .ref (md 7)) C hinX10_write_X10 0 rfl rfl 10 (by decide) mX10_write_3 rfl rfl dX10_write_28 ?_
      refine r_aload_n C dX10_write_31 0 rfl rfl ?_
      refine r_get (ci := 7) (CC := RX10) (T := TX10) (N := 24) (v := .int mlen) C hinX10_write_X10 0 rfl rfl 11 (by decide) mX10_write_2 rfl rfl dX10_write_32 ?_
      refine r_iload_n C dX10_write_35 1 rfl rfl ?_
      obtain ⟨hu4, h⟩ := ob_if h
      refine r_iast (ws1 := (wMO cyI cyZ cyW md mflags mtubs mpegs mcl mws mho mnow mrd mrh mrf (upd mtx mlen.toNatClampNeg x1) mlen mat mfa mac mnx mrow msn mso msc msw mseed mik mkp)) C 7 0 rfl rfl (inb_vp hu4) rfl dX10_write_36 ?_
      refine r_aload_n C dX10_write_37 0 rfl rfl ?_
      refine r_dup C dX10_write_38 rfl ?_
      refine r_get (ci := 7) (CC := RX10) (T := TX10) (N := 24) (v := .int mlen) C hinX10_write_X10 0 rfl rfl 11 (by decide) mX10_write_2 rfl rfl dX10_write_39 ?_
      refine r_iconst (v := 1) C dX10_write_42 ic_1 ?_
      refine r_iadd C dX10_write_43 ?_
      refine r_put (ci := 7) (CC := RX10) (T := TX10) (N := 24) (v := .int (mlen + (1 : Int32))) (ws1 := (wMO cyI cyZ cyW md mflags mtubs mpegs mcl mws mho mnow mrd mrh mrf (upd mtx mlen.toNatClampNeg x1) (mlen + (1 : Int32)) mat mfa mac mnx mrow msn mso msc msw mseed mik mkp)) (ty := .int) C hinX10_write_X10 tyX10 tyX10_ok nmX10 0 rfl rfl 11 (by decide) mX10_write_2 rfl rfl rfl rfl rfl (Nat.le_of_ble_eq_true rfl) rfl dX10_write_44 ?_
      refine r_aload_n C dX10_write_47 0 rfl rfl ?_
      refine r_get (ci := 7) (CC := RX10) (T := TX10) (N := 24) (v := .int (mlen + (1 : Int32))) C hinX10_write_X10 0 rfl rfl 11 (by decide) mX10_write_2 rfl rfl dX10_write_48 ?_
      have h9 := Option.some.inj h
      subst h9
      exact r_iret C rfl dX10_write_51
    · replace h := ob_t h c3
      refine r_bipush (v := -4) C dX10_write_24 bp_m4 ?_
      have h9 := Option.some.inj h
      subst h9
      exact r_iret C rfl dX10_write_26
  · replace h := ob_bf h c2
    refine r_bipush (v := -2) C dX10_write_12 bp_m2 ?_
    have h9 := Option.some.inj h
    subst h9
    exact r_iret C rfl dX10_write_14

/-! ===== FlagWashModel.wipe ===== -/
def fX10_wipe  (mlen : Int32) : Option (Int32 × Int32) :=
 (some (mlen, (0 : Int32)))
theorem hinX10_wipe_X10 : ∀ w ∈ u_ws RX10 TX10 24, w ∈ wsX10_wipe := fun w h => List.mem_cons_of_mem _ (List.mem_append_right _ h)
theorem mX10_wipe_1 : Cond.fieldLink RX10 63 "FlagWashModel" "length" "I" ∈ wsX10_wipe := List.mem_of_getElem? (i := 1) rfl
theorem hd_X10_wipe : yX10_wipe.cls ≠ "java/lang/invoke/MethodHandle" ∧ yX10_wipe.cls ≠ "java/lang/invoke/VarHandle" ∧ (parseMethodDescriptor yX10_wipe.desc).map (fun d => d.parameters.length) = some 0 := by decide +kernel
set_option maxHeartbeats 4000000 in
set_option maxRecDepth 100000 in
theorem kX10_wipe {l : Launch} {D : va_G} {cyI cyZ cyW : ClassId} {zW zO : Nat} {md : Nat → Nat} {mflags : Int32} {mtubs : Int32} {mpegs : Int32} {mcl : (Nat → Int32)} {mws : (Nat → Int32)} {mho : (Nat → Int32)} {mnow : (Nat → Int32)} {mrd : (Nat → Int32)} {mrh : (Nat → Int32)} {mrf : Int32} {mtx : (Nat → Int32)} {mlen : Int32} {mat : Int32} {mfa : Int32} {mac : Int32} {mnx : Int32} {mrow : (Nat → Int32)} {msn : Int32} {mso : (Nat → Int32)} {msc : (Nat → Int32)} {msw : (Nat → Int32)} {mseed : Int64} {mik : (Nat → Int32)} {mkp : (Nat → Int32)}  {res : Int32 × Int32} (h : fX10_wipe mlen = some res) : KI l yX10_wipe wsX10_wipe ({ frames := 0, cells := 0, slots := 0, locals := 0 } : Room) D (tyA cyI cyZ cyW) zW zO [.ref (md 0)] (wMO cyI cyZ cyW md mflags mtubs mpegs mcl mws mho mnow mrd mrh mrf mtx mlen mat mfa mac mnx mrow msn mso msc msw mseed mik mkp) (wMO cyI cyZ cyW md mflags mtubs mpegs mcl mws mho mnow mrd mrh mrf mtx res.2 mat mfa mac mnx mrow msn mso msc msw mseed mik mkp) res.1 := by
  refine enterI (cc := cX10_wipe) (nL := 2) (ret := (some .int)) (by decide) rfl (Nat.le_of_ble_eq_true rfl) (fun p e s m below meth c A C => ?_)
  refine r_lv (lv' := [(0, .ref (md 0))]) [0] rfl ?_
  unfold fX10_wipe at h
  refine r_aload_n C dX10_wipe_0 0 rfl rfl ?_
  refine r_get (ci := 7) (CC := RX10) (T := TX10) (N := 24) (v := .int mlen) C hinX10_wipe_X10 0 rfl rfl 11 (by decide) mX10_wipe_1 rfl rfl dX10_wipe_1 ?_
  refine r_istore_n (lv' := [(1, .int mlen), (0, .ref (md 0))]) C dX10_wipe_4 rfl (by decide) rfl ?_
  refine r_aload_n C dX10_wipe_5 1 rfl rfl ?_
  refine r_iconst (v := 0) C dX10_wipe_6 ic_0 ?_
  refine r_put (ci := 7) (CC := RX10) (T := TX10) (N := 24) (v := .int (0 : Int32)) (ws1 := (wMO cyI cyZ cyW md mflags mtubs mpegs mcl mws mho mnow mrd mrh mrf mtx (0 : Int32) mat mfa mac mnx mrow msn mso msc msw mseed mik mkp)) (ty := .int) C hinX10_wipe_X10 tyX10 tyX10_ok nmX10 0 rfl rfl 11 (by decide) mX10_wipe_1 rfl rfl rfl rfl rfl (Nat.le_of_ble_eq_true rfl) rfl dX10_wipe_7 ?_
  refine r_iload_n C dX10_wipe_10 0 rfl rfl ?_
  have h9 := Option.some.inj h
  subst h9
  exact r_iret C rfl dX10_wipe_11

/-! ===== FlagWashModel.takeOf ===== -/
def fX10_takeOf_57  (mat : Int32) (mfa : Int32) : Option (Int32 × Int32 × Int32) :=
 (if mfa = (-9 : Int32) then (some ((0 : Int32), mat, mat))
 else (some ((0 : Int32), mat, mfa)))
def fX10_takeOf_36  (x2 : Int32) (y0 : Int32) (mat : Int32) (mfa : Int32) : Option (Int32 × Int32 × Int32) :=
 ((fX10_in y0.toInt64 (0 : Int64) (15 : Int64)).bind fun u4 => (if u4 = true then ((fX10_has x2 y0).bind fun u6 => (if u6 = true then (some (y0, (mat + (1 : Int32)), mfa))
 else (fX10_takeOf_57  mat mfa)))
 else (fX10_takeOf_57  mat mfa)))
def fX10_takeOf_34  (x2 : Int32) (mat : Int32) (mfa : Int32) : Option (Int32 × Int32 × Int32) :=
 (fX10_takeOf_36  x2 (-9 : Int32) mat mfa)
def fX10_takeOf  (x1 : Int32) (x2 : Int32) (mtx : (Nat → Int32)) (mlen : Int32) (mat : Int32) (mfa : Int32) : Option (Int32 × Int32 × Int32) :=
 (if mfa = (-9 : Int32) then (if mlen ≤ mat then (fX10_takeOf_34  x2 mat mfa)
 else (if inb mat 48 = true then (fX10_takeOf_36  x2 ((mtx mat.toNatClampNeg) - x1) mat mfa) else none))
 else (fX10_takeOf_34  x2 mat mfa))
theorem hinX10_takeOf_X10 : ∀ w ∈ u_ws RX10 TX10 24, w ∈ wsX10_takeOf := fun w h => List.mem_cons_of_mem _ (List.mem_append_right _ h)
theorem mX10_takeOf_1 : Cond.fieldLink RX10 66 "FlagWashModel" "faultAt" "I" ∈ wsX10_takeOf := List.mem_of_getElem? (i := 1) rfl
theorem mX10_takeOf_2 : Cond.fieldLink RX10 69 "FlagWashModel" "at" "I" ∈ wsX10_takeOf := List.mem_of_getElem? (i := 2) rfl
theorem mX10_takeOf_3 : Cond.fieldLink RX10 63 "FlagWashModel" "length" "I" ∈ wsX10_takeOf := List.mem_of_getElem? (i := 3) rfl
theorem mX10_takeOf_4 : Cond.fieldLink RX10 28 "FlagWashModel" "text" "[I" ∈ wsX10_takeOf := List.mem_of_getElem? (i := 4) rfl
theorem mX10_takeOf_5 : Cond.constantLong RX10 72 (15) ∈ wsX10_takeOf := List.mem_of_getElem? (i := 5) rfl
theorem hd_X10_takeOf : yX10_takeOf.cls ≠ "java/lang/invoke/MethodHandle" ∧ yX10_takeOf.cls ≠ "java/lang/invoke/VarHandle" ∧ (parseMethodDescriptor yX10_takeOf.desc).map (fun d => d.parameters.length) = some 2 := by decide +kernel
set_option maxHeartbeats 4000000 in
set_option maxRecDepth 100000 in
theorem LX10_takeOf_57 {p : Program} {l : Launch} {e : Env} {s : State} {m : MethodId} {args : Array Value} {below : List Frame} {meth : Method} {c : Code} {D : va_G} {cyI cyZ cyW : ClassId} {zW zO : Nat} {A : Nat → Prop} (C : Cx p s m args meth c cX10_takeOf RX10 "takeOf" wsX10_takeOf (some .int) 4 D (tyA cyI cyZ cyW) zW zO A) {md : Nat → Nat} {mflags : Int32} {mtubs : Int32} {mpegs : Int32} {mcl : (Nat → Int32)} {mws : (Nat → Int32)} {mho : (Nat → Int32)} {mnow : (Nat → Int32)} {mrd : (Nat → Int32)} {mrh : (Nat → Int32)} {mrf : Int32} {mtx : (Nat → Int32)} {mlen : Int32} {mat : Int32} {mfa : Int32} {mac : Int32} {mnx : Int32} {mrow : (Nat → Int32)} {msn : Int32} {mso : (Nat → Int32)} {msc : (Nat → Int32)} {msw : (Nat → Int32)} {mseed : Int64} {mik : (Nat → Int32)} {mkp : (Nat → Int32)}   {res : Int32 × Int32 × Int32}  (h : fX10_takeOf_57  mat mfa = some res) : Mx p l e ({ frames := 1, cells := 0, slots := 0, locals := 25 } : Room) s m args below meth c (MQ below (QI D (tyA cyI cyZ cyW) A (wMO cyI cyZ cyW md mflags mtubs mpegs mcl mws mho mnow mrd mrh mrf mtx mlen res.2.1 res.2.2 mac mnx mrow msn mso msc msw mseed mik mkp) res.1) args s 0 0 A) 4 D A 0 0 (wMO cyI cyZ cyW md mflags mtubs mpegs mcl mws mho mnow mrd mrh mrf mtx mlen mat mfa mac mnx mrow msn mso msc msw mseed mik mkp) 57 [(0, .ref (md 0))] [] := by
  unfold fX10_takeOf_57 at h
  refine r_aload_n C dX10_takeOf_57 0 rfl rfl ?_
  refine r_aload_n C dX10_takeOf_58 0 rfl rfl ?_
  refine r_get (ci := 7) (CC := RX10) (T := TX10) (N := 24) (v := .int mfa) C hinX10_takeOf_X10 0 rfl rfl 13 (by decide) mX10_takeOf_1 rfl rfl dX10_takeOf_59 ?_
  refine r_bipush (v := -9) C dX10_takeOf_62 bp_m9 ?_
  refine r_icmp_ne (tgt := 74) C dX10_takeOf_64 (by decide) (fun c8 => ?_) (fun c8 => ?_)
  · replace h := ob_f h c8
    refine r_aload_n C dX10_takeOf_74 0 rfl rfl ?_
    refine r_get (ci := 7) (CC := RX10) (T := TX10) (N := 24) (v := .int mfa) C hinX10_takeOf_X10 0 rfl rfl 13 (by decide) mX10_takeOf_1 rfl rfl dX10_takeOf_75 ?_
    refine r_put (ci := 7) (CC := RX10) (T := TX10) (N := 24) (v := .int mfa) (ws1 := (wMO cyI cyZ cyW md mflags mtubs mpegs mcl mws mho mnow mrd mrh mrf mtx mlen mat mfa mac mnx mrow msn mso msc msw mseed mik mkp)) (ty := .int) C hinX10_takeOf_X10 tyX10 tyX10_ok nmX10 0 rfl rfl 13 (by decide) mX10_takeOf_1 rfl rfl rfl rfl rfl (Nat.le_of_ble_eq_true rfl) rfl dX10_takeOf_78 ?_
    refine r_iconst (v := 0) C dX10_takeOf_81 ic_0 ?_
    have h9 := Option.some.inj h
    subst h9
    exact r_iret C rfl dX10_takeOf_82
  · replace h := ob_t h c8
    refine r_aload_n C dX10_takeOf_67 0 rfl rfl ?_
    refine r_get (ci := 7) (CC := RX10) (T := TX10) (N := 24) (v := .int mat) C hinX10_takeOf_X10 0 rfl rfl 12 (by decide) mX10_takeOf_2 rfl rfl dX10_takeOf_68 ?_
    refine r_goto (tgt := 78) C dX10_takeOf_71 (by decide) ?_
    refine r_put (ci := 7) (CC := RX10) (T := TX10) (N := 24) (v := .int mat) (ws1 := (wMO cyI cyZ cyW md mflags mtubs mpegs mcl mws mho mnow mrd mrh mrf mtx mlen mat mat mac mnx mrow msn mso msc msw mseed mik mkp)) (ty := .int) C hinX10_takeOf_X10 tyX10 tyX10_ok nmX10 0 rfl rfl 13 (by decide) mX10_takeOf_1 rfl rfl rfl rfl rfl (Nat.le_of_ble_eq_true rfl) rfl dX10_takeOf_78 ?_
    refine r_iconst (v := 0) C dX10_takeOf_81 ic_0 ?_
    have h9 := Option.some.inj h
    subst h9
    exact r_iret C rfl dX10_takeOf_82
set_option maxHeartbeats 4000000 in
set_option maxRecDepth 100000 in
theorem LX10_takeOf_36 {p : Program} {l : Launch} {e : Env} {s : State} {m : MethodId} {args : Array Value} {below : List Frame} {meth : Method} {c : Code} {D : va_G} {cyI cyZ cyW : ClassId} {zW zO : Nat} {A : Nat → Prop} (C : Cx p s m args meth c cX10_takeOf RX10 "takeOf" wsX10_takeOf (some .int) 4 D (tyA cyI cyZ cyW) zW zO A) {md : Nat → Nat} {mflags : Int32} {mtubs : Int32} {mpegs : Int32} {mcl : (Nat → Int32)} {mws : (Nat → Int32)} {mho : (Nat → Int32)} {mnow : (Nat → Int32)} {mrd : (Nat → Int32)} {mrh : (Nat → Int32)} {mrf : Int32} {mtx : (Nat → Int32)} {mlen : Int32} {mat : Int32} {mfa : Int32} {mac : Int32} {mnx : Int32} {mrow : (Nat → Int32)} {msn : Int32} {mso : (Nat → Int32)} {msc : (Nat → Int32)} {msw : (Nat → Int32)} {mseed : Int64} {mik : (Nat → Int32)} {mkp : (Nat → Int32)} {x2 : Int32} {y0 : Int32}  {res : Int32 × Int32 × Int32}  (h : fX10_takeOf_36  x2 y0 mat mfa = some res) : Mx p l e ({ frames := 1, cells := 0, slots := 0, locals := 25 } : Room) s m args below meth c (MQ below (QI D (tyA cyI cyZ cyW) A (wMO cyI cyZ cyW md mflags mtubs mpegs mcl mws mho mnow mrd mrh mrf mtx mlen res.2.1 res.2.2 mac mnx mrow msn mso msc msw mseed mik mkp) res.1) args s 0 0 A) 4 D A 0 0 (wMO cyI cyZ cyW md mflags mtubs mpegs mcl mws mho mnow mrd mrh mrf mtx mlen mat mfa mac mnx mrow msn mso msc msw mseed mik mkp) 36 [(0, .ref (md 0)), (2, .int x2)] [.int y0] := by
  unfold fX10_takeOf_36 at h
  refine r_istore_n (lv' := [(3, .int y0), (0, .ref (md 0)), (2, .int x2)]) C dX10_takeOf_36 rfl (by decide) rfl ?_
  refine r_iload_n C dX10_takeOf_37 0 rfl rfl ?_
  refine r_i2l C dX10_takeOf_38 ?_
  refine r_lconst (v := 0) C dX10_takeOf_39 lc_0 ?_
  refine r_ldc2 (v := 15) C mX10_takeOf_5 dX10_takeOf_40 ?_
  obtain ⟨u4, hu4, h⟩ := ob_bind h
  refine r_readSI (As := [.long y0.toInt64, .long (0 : Int64), .long (15 : Int64)]) (rest := []) C (kX10_in   (x0 := y0.toInt64) (x2 := (0 : Int64)) (x4 := (15 : Int64)) hu4) gX10_takeOf_X10_in rfl rfl rfl hd_X10_in ⟨by decide, by decide⟩ rfl [] (by decide) rfl rfl (Nat.le_of_ble_eq_true rfl) dX10_takeOf_43 ⟨Nat.zero_le _, Nat.zero_le _⟩ ?_
  refine r_ifb_eq (tgt := 57) C dX10_takeOf_46 (by decide) (fun c5 => ?_) (fun c5 => ?_)
  · replace h := ob_bf h c5
    refine r_lv (lv' := [(0, .ref (md 0))]) [1] rfl ?_
    exact LX10_takeOf_57 C (mflags := mflags) (mtubs := mtubs) (mpegs := mpegs) (mcl := mcl) (mws := mws) (mho := mho) (mnow := mnow) (mrd := mrd) (mrh := mrh) (mrf := mrf) (mtx := mtx) (mlen := mlen) (mat := mat) (mfa := mfa) (mac := mac) (mnx := mnx) (mrow := mrow) (msn := msn) (mso := mso) (msc := msc) (msw := msw) (mseed := mseed) (mik := mik) (mkp := mkp)  h
  · replace h := ob_t h c5
    refine r_iload_n C dX10_takeOf_49 2 rfl rfl ?_
    refine r_iload_n C dX10_takeOf_50 0 rfl rfl ?_
    obtain ⟨u6, hu6, h⟩ := ob_bind h
    refine r_readSI (As := [.int x2, .int y0]) (rest := []) C (kX10_has   (x0 := x2) (x1 := y0) hu6) gX10_takeOf_X10_has rfl rfl rfl hd_X10_has ⟨by decide, by decide⟩ rfl [] (by decide) rfl rfl (Nat.le_of_ble_eq_true rfl) dX10_takeOf_51 ⟨Nat.zero_le _, Nat.zero_le _⟩ ?_
    refine r_ifb_ne (tgt := 83) C dX10_takeOf_54 (by decide) (fun c7 => ?_) (fun c7 => ?_)
    · replace h := ob_t h c7
      refine r_aload_n C dX10_takeOf_83 1 rfl rfl ?_
      refine r_dup C dX10_takeOf_84 rfl ?_
      refine r_get (ci := 7) (CC := RX10) (T := TX10) (N := 24) (v := .int mat) C hinX10_takeOf_X10 0 rfl rfl 12 (by decide) mX10_takeOf_2 rfl rfl dX10_takeOf_85 ?_
      refine r_iconst (v := 1) C dX10_takeOf_88 ic_1 ?_
      refine r_iadd C dX10_takeOf_89 ?_
      refine r_put (ci := 7) (CC := RX10) (T := TX10) (N := 24) (v := .int (mat + (1 : Int32))) (ws1 := (wMO cyI cyZ cyW md mflags mtubs mpegs mcl mws mho mnow mrd mrh mrf mtx mlen (mat + (1 : Int32)) mfa mac mnx mrow msn mso msc msw mseed mik mkp)) (ty := .int) C hinX10_takeOf_X10 tyX10 tyX10_ok nmX10 0 rfl rfl 12 (by decide) mX10_takeOf_2 rfl rfl rfl rfl rfl (Nat.le_of_ble_eq_true rfl) rfl dX10_takeOf_90 ?_
      refine r_iload_n C dX10_takeOf_93 0 rfl rfl ?_
      have h9 := Option.some.inj h
      subst h9
      exact r_iret C rfl dX10_takeOf_94
    · replace h := ob_bf h c7
      refine r_lv (lv' := [(0, .ref (md 0))]) [1] rfl ?_
      exact LX10_takeOf_57 C (mflags := mflags) (mtubs := mtubs) (mpegs := mpegs) (mcl := mcl) (mws := mws) (mho := mho) (mnow := mnow) (mrd := mrd) (mrh := mrh) (mrf := mrf) (mtx := mtx) (mlen := mlen) (mat := mat) (mfa := mfa) (mac := mac) (mnx := mnx) (mrow := mrow) (msn := msn) (mso := mso) (msc := msc) (msw := msw) (mseed := mseed) (mik := mik) (mkp := mkp)  h
set_option maxHeartbeats 4000000 in
set_option maxRecDepth 100000 in
theorem LX10_takeOf_34 {p : Program} {l : Launch} {e : Env} {s : State} {m : MethodId} {args : Array Value} {below : List Frame} {meth : Method} {c : Code} {D : va_G} {cyI cyZ cyW : ClassId} {zW zO : Nat} {A : Nat → Prop} (C : Cx p s m args meth c cX10_takeOf RX10 "takeOf" wsX10_takeOf (some .int) 4 D (tyA cyI cyZ cyW) zW zO A) {md : Nat → Nat} {mflags : Int32} {mtubs : Int32} {mpegs : Int32} {mcl : (Nat → Int32)} {mws : (Nat → Int32)} {mho : (Nat → Int32)} {mnow : (Nat → Int32)} {mrd : (Nat → Int32)} {mrh : (Nat → Int32)} {mrf : Int32} {mtx : (Nat → Int32)} {mlen : Int32} {mat : Int32} {mfa : Int32} {mac : Int32} {mnx : Int32} {mrow : (Nat → Int32)} {msn : Int32} {mso : (Nat → Int32)} {msc : (Nat → Int32)} {msw : (Nat → Int32)} {mseed : Int64} {mik : (Nat → Int32)} {mkp : (Nat → Int32)} {x2 : Int32}  {res : Int32 × Int32 × Int32}  (h : fX10_takeOf_34  x2 mat mfa = some res) : Mx p l e ({ frames := 1, cells := 0, slots := 0, locals := 25 } : Room) s m args below meth c (MQ below (QI D (tyA cyI cyZ cyW) A (wMO cyI cyZ cyW md mflags mtubs mpegs mcl mws mho mnow mrd mrh mrf mtx mlen res.2.1 res.2.2 mac mnx mrow msn mso msc msw mseed mik mkp) res.1) args s 0 0 A) 4 D A 0 0 (wMO cyI cyZ cyW md mflags mtubs mpegs mcl mws mho mnow mrd mrh mrf mtx mlen mat mfa mac mnx mrow msn mso msc msw mseed mik mkp) 34 [(0, .ref (md 0)), (2, .int x2)] [] := by
  unfold fX10_takeOf_34 at h
  refine r_bipush (v := -9) C dX10_takeOf_34 bp_m9 ?_
  refine r_lv (lv' := [(0, .ref (md 0)), (2, .int x2)]) [0, 1] rfl ?_
  exact LX10_takeOf_36 C (x2 := x2) (y0 := (-9 : Int32)) (mflags := mflags) (mtubs := mtubs) (mpegs := mpegs) (mcl := mcl) (mws := mws) (mho := mho) (mnow := mnow) (mrd := mrd) (mrh := mrh) (mrf := mrf) (mtx := mtx) (mlen := mlen) (mat := mat) (mfa := mfa) (mac := mac) (mnx := mnx) (mrow := mrow) (msn := msn) (mso := mso) (msc := msc) (msw := msw) (mseed := mseed) (mik := mik) (mkp := mkp)  h
set_option maxHeartbeats 4000000 in
set_option maxRecDepth 100000 in
theorem kX10_takeOf {l : Launch} {D : va_G} {cyI cyZ cyW : ClassId} {zW zO : Nat} {md : Nat → Nat} {mflags : Int32} {mtubs : Int32} {mpegs : Int32} {mcl : (Nat → Int32)} {mws : (Nat → Int32)} {mho : (Nat → Int32)} {mnow : (Nat → Int32)} {mrd : (Nat → Int32)} {mrh : (Nat → Int32)} {mrf : Int32} {mtx : (Nat → Int32)} {mlen : Int32} {mat : Int32} {mfa : Int32} {mac : Int32} {mnx : Int32} {mrow : (Nat → Int32)} {msn : Int32} {mso : (Nat → Int32)} {msc : (Nat → Int32)} {msw : (Nat → Int32)} {mseed : Int64} {mik : (Nat → Int32)} {mkp : (Nat → Int32)} {x1 : Int32} {x2 : Int32} {res : Int32 × Int32 × Int32} (h : fX10_takeOf x1 x2 mtx mlen mat mfa = some res) : KI l yX10_takeOf wsX10_takeOf ({ frames := 1, cells := 0, slots := 0, locals := 25 } : Room) D (tyA cyI cyZ cyW) zW zO [.ref (md 0), .int x1, .int x2] (wMO cyI cyZ cyW md mflags mtubs mpegs mcl mws mho mnow mrd mrh mrf mtx mlen mat mfa mac mnx mrow msn mso msc msw mseed mik mkp) (wMO cyI cyZ cyW md mflags mtubs mpegs mcl mws mho mnow mrd mrh mrf mtx mlen res.2.1 res.2.2 mac mnx mrow msn mso msc msw mseed mik mkp) res.1 := by
  refine enterI (cc := cX10_takeOf) (nL := 4) (ret := (some .int)) (by decide) rfl (Nat.le_of_ble_eq_true rfl) (fun p e s m below meth c A C => ?_)
  refine r_lv (lv' := [(0, .ref (md 0)), (1, .int x1), (2, .int x2)]) [0, 1, 2] rfl ?_
  unfold fX10_takeOf at h
  refine r_aload_n C dX10_takeOf_0 0 rfl rfl ?_
  refine r_get (ci := 7) (CC := RX10) (T := TX10) (N := 24) (v := .int mfa) C hinX10_takeOf_X10 0 rfl rfl 13 (by decide) mX10_takeOf_1 rfl rfl dX10_takeOf_1 ?_
  refine r_bipush (v := -9) C dX10_takeOf_4 bp_m9 ?_
  refine r_icmp_ne (tgt := 34) C dX10_takeOf_6 (by decide) (fun c1 => ?_) (fun c1 => ?_)
  · replace h := ob_f h c1
    refine r_lv (lv' := [(0, .ref (md 0)), (2, .int x2)]) [0, 2] rfl ?_
    exact LX10_takeOf_34 C (x2 := x2) (mflags := mflags) (mtubs := mtubs) (mpegs := mpegs) (mcl := mcl) (mws := mws) (mho := mho) (mnow := mnow) (mrd := mrd) (mrh := mrh) (mrf := mrf) (mtx := mtx) (mlen := mlen) (mat := mat) (mfa := mfa) (mac := mac) (mnx := mnx) (mrow := mrow) (msn := msn) (mso := mso) (msc := msc) (msw := msw) (mseed := mseed) (mik := mik) (mkp := mkp)  h
  · replace h := ob_t h c1
    refine r_aload_n C dX10_takeOf_9 0 rfl rfl ?_
    refine r_get (ci := 7) (CC := RX10) (T := TX10) (N := 24) (v := .int mat) C hinX10_takeOf_X10 0 rfl rfl 12 (by decide) mX10_takeOf_2 rfl rfl dX10_takeOf_10 ?_
    refine r_aload_n C dX10_takeOf_13 0 rfl rfl ?_
    refine r_get (ci := 7) (CC := RX10) (T := TX10) (N := 24) (v := .int mlen) C hinX10_takeOf_X10 0 rfl rfl 11 (by decide) mX10_takeOf_3 rfl rfl dX10_takeOf_14 ?_
    refine r_icmp_ge (tgt := 34) C dX10_takeOf_17 (by decide) (fun c2 => ?_) (fun c2 => ?_)
    · replace h := ob_t h c2
      refine r_lv (lv' := [(0, .ref (md 0)), (2, .int x2)]) [0, 2] rfl ?_
      exact LX10_takeOf_34 C (x2 := x2) (mflags := mflags) (mtubs := mtubs) (mpegs := mpegs) (mcl := mcl) (mws := mws) (mho := mho) (mnow := mnow) (mrd := mrd) (mrh := mrh) (mrf := mrf) (mtx := mtx) (mlen := mlen) (mat := mat) (mfa := mfa) (mac := mac) (mnx := mnx) (mrow := mrow) (msn := msn) (mso := mso) (msc := msc) (msw := msw) (mseed := mseed) (mik := mik) (mkp := mkp)  h
    · replace h := ob_f h c2
      refine r_aload_n C dX10_takeOf_20 0 rfl rfl ?_
      refine r_get (ci := 7) (CC := RX10) (T := TX10) (N := 24) (v := .ref (md 7)) C hinX10_takeOf_X10 0 rfl rfl 10 (by decide) mX10_takeOf_4 rfl rfl dX10_takeOf_21 ?_
      refine r_aload_n C dX10_takeOf_24 0 rfl rfl ?_
      refine r_get (ci := 7) (CC := RX10) (T := TX10) (N := 24) (v := .int mat) C hinX10_takeOf_X10 0 rfl rfl 12 (by decide) mX10_takeOf_2 rfl rfl dX10_takeOf_25 ?_
      obtain ⟨hu3, h⟩ := ob_if h
      refine r_iald C 7 0 rfl rfl (inb_vp hu3) dX10_takeOf_28 ?_
      refine r_iload_n C dX10_takeOf_29 1 rfl rfl ?_
      refine r_isub C dX10_takeOf_30 ?_
      refine r_goto (tgt := 36) C dX10_takeOf_31 (by decide) ?_
      refine r_lv (lv' := [(0, .ref (md 0)), (2, .int x2)]) [0, 2] rfl ?_
      exact LX10_takeOf_36 C (x2 := x2) (y0 := ((mtx mat.toNatClampNeg) - x1)) (mflags := mflags) (mtubs := mtubs) (mpegs := mpegs) (mcl := mcl) (mws := mws) (mho := mho) (mnow := mnow) (mrd := mrd) (mrh := mrh) (mrf := mrf) (mtx := mtx) (mlen := mlen) (mat := mat) (mfa := mfa) (mac := mac) (mnx := mnx) (mrow := mrow) (msn := msn) (mso := mso) (msc := msc) (msw := msw) (mseed := mseed) (mik := mik) (mkp := mkp)  h

/-! ===== FlagWashModel.left ===== -/
def fX10_left  (x1 : Int32) (mrh : (Nat → Int32)) (mrf : Int32) : Option (Int32) :=
 (if inb x1 5 = true then (some (((((1 : Int32) <<< (mrf &&& 31)) - (1 : Int32)) &&& ((mrh x1.toNatClampNeg) ^^^ (-1 : Int32))) &&& (((1 : Int32) <<< (x1 &&& 31)) ^^^ (-1 : Int32)))) else none)
theorem hinX10_left_X10 : ∀ w ∈ u_ws RX10 TX10 24, w ∈ wsX10_left := fun w h => List.mem_cons_of_mem _ (List.mem_append_right _ h)
theorem mX10_left_1 : Cond.fieldLink RX10 78 "FlagWashModel" "readFlags" "I" ∈ wsX10_left := List.mem_of_getElem? (i := 1) rfl
theorem mX10_left_2 : Cond.fieldLink RX10 25 "FlagWashModel" "readHostile" "[I" ∈ wsX10_left := List.mem_of_getElem? (i := 2) rfl
theorem hd_X10_left : yX10_left.cls ≠ "java/lang/invoke/MethodHandle" ∧ yX10_left.cls ≠ "java/lang/invoke/VarHandle" ∧ (parseMethodDescriptor yX10_left.desc).map (fun d => d.parameters.length) = some 1 := by decide +kernel
set_option maxHeartbeats 4000000 in
set_option maxRecDepth 100000 in
theorem kX10_left {l : Launch} {D : va_G} {cyI cyZ cyW : ClassId} {zW zO : Nat} {md : Nat → Nat} {mflags : Int32} {mtubs : Int32} {mpegs : Int32} {mcl : (Nat → Int32)} {mws : (Nat → Int32)} {mho : (Nat → Int32)} {mnow : (Nat → Int32)} {mrd : (Nat → Int32)} {mrh : (Nat → Int32)} {mrf : Int32} {mtx : (Nat → Int32)} {mlen : Int32} {mat : Int32} {mfa : Int32} {mac : Int32} {mnx : Int32} {mrow : (Nat → Int32)} {msn : Int32} {mso : (Nat → Int32)} {msc : (Nat → Int32)} {msw : (Nat → Int32)} {mseed : Int64} {mik : (Nat → Int32)} {mkp : (Nat → Int32)} {x1 : Int32} {res : Int32} (h : fX10_left x1 mrh mrf = some res) : KI l yX10_left wsX10_left ({ frames := 0, cells := 0, slots := 0, locals := 0 } : Room) D (tyA cyI cyZ cyW) zW zO [.ref (md 0), .int x1] (wMO cyI cyZ cyW md mflags mtubs mpegs mcl mws mho mnow mrd mrh mrf mtx mlen mat mfa mac mnx mrow msn mso msc msw mseed mik mkp) (wMO cyI cyZ cyW md mflags mtubs mpegs mcl mws mho mnow mrd mrh mrf mtx mlen mat mfa mac mnx mrow msn mso msc msw mseed mik mkp) res := by
  refine enterI (cc := cX10_left) (nL := 2) (ret := (some .int)) (by decide) rfl (Nat.le_of_ble_eq_true rfl) (fun p e s m below meth c A C => ?_)
  refine r_lv (lv' := [(0, .ref (md 0)), (1, .int x1)]) [0, 1] rfl ?_
  unfold fX10_left at h
  refine r_iconst (v := 1) C dX10_left_0 ic_1 ?_
  refine r_aload_n C dX10_left_1 0 rfl rfl ?_
  refine r_get (ci := 7) (CC := RX10) (T := TX10) (N := 24) (v := .int mrf) C hinX10_left_X10 0 rfl rfl 9 (by decide) mX10_left_1 rfl rfl dX10_left_2 ?_
  refine r_ishl C dX10_left_5 ?_
  refine r_iconst (v := 1) C dX10_left_6 ic_1 ?_
  refine r_isub C dX10_left_7 ?_
  refine r_aload_n C dX10_left_8 0 rfl rfl ?_
  refine r_get (ci := 7) (CC := RX10) (T := TX10) (N := 24) (v := .ref (md 6)) C hinX10_left_X10 0 rfl rfl 8 (by decide) mX10_left_2 rfl rfl dX10_left_9 ?_
  refine r_iload_n C dX10_left_12 1 rfl rfl ?_
  obtain ⟨hu1, h⟩ := ob_if h
  refine r_iald C 6 0 rfl rfl (inb_vp hu1) dX10_left_13 ?_
  refine r_iconst (v := -1) C dX10_left_14 ic_m1 ?_
  refine r_ixor C dX10_left_15 ?_
  refine r_iand C dX10_left_16 ?_
  refine r_iconst (v := 1) C dX10_left_17 ic_1 ?_
  refine r_iload_n C dX10_left_18 1 rfl rfl ?_
  refine r_ishl C dX10_left_19 ?_
  refine r_iconst (v := -1) C dX10_left_20 ic_m1 ?_
  refine r_ixor C dX10_left_21 ?_
  refine r_iand C dX10_left_22 ?_
  have h9 := Option.some.inj h
  subst h9
  exact r_iret C rfl dX10_left_23

/-! ===== FlagWashModel.firstsLeft ===== -/
def fX10_firstsLeft_28 (rec4 : Int32 → Int32 → Option (Int32)) (x2 : Int32) (y0 : Int32) (y1 : Int32) (mrh : (Nat → Int32)) (mrf : Int32) : Option (Int32) :=
 (rec4 (y1 ||| y0) (x2 + (1 : Int32)))
def gX10_firstsLeft_4 (rec4 : Int32 → Int32 → Option (Int32)) (x1 : Int32) (x2 : Int32) (mrh : (Nat → Int32)) (mrf : Int32) : Option (Int32) :=
 (if mrf ≤ x2 then (some x1)
 else ((fX10_left x2 mrh mrf).bind fun u2 => (if u2 = 0 then (fX10_firstsLeft_28 rec4 x2 (0 : Int32) x1 mrh mrf)
 else (fX10_firstsLeft_28 rec4 x2 ((1 : Int32) <<< (x2 &&& 31)) x1 mrh mrf))))
def fX10_firstsLeft_4  (mrh : (Nat → Int32)) (mrf : Int32) : Nat → Int32 → Int32 → Option (Int32)
  | 0 => fun _ _ => none
  | n + 1 => fun x1 x2 => gX10_firstsLeft_4 (fX10_firstsLeft_4  mrh mrf n) x1 x2 mrh mrf
def fX10_firstsLeft  (mrh : (Nat → Int32)) (mrf : Int32) : Option (Int32) :=
 (fX10_firstsLeft_4  mrh mrf FU (0 : Int32) (0 : Int32))
theorem hinX10_firstsLeft_X10 : ∀ w ∈ u_ws RX10 TX10 24, w ∈ wsX10_firstsLeft := fun w h => List.mem_cons_of_mem _ (List.mem_append_right _ h)
theorem mX10_firstsLeft_1 : Cond.fieldLink RX10 78 "FlagWashModel" "readFlags" "I" ∈ wsX10_firstsLeft := List.mem_of_getElem? (i := 1) rfl
theorem hd_X10_firstsLeft : yX10_firstsLeft.cls ≠ "java/lang/invoke/MethodHandle" ∧ yX10_firstsLeft.cls ≠ "java/lang/invoke/VarHandle" ∧ (parseMethodDescriptor yX10_firstsLeft.desc).map (fun d => d.parameters.length) = some 0 := by decide +kernel
set_option maxHeartbeats 4000000 in
set_option maxRecDepth 100000 in
theorem LX10_firstsLeft_28 {p : Program} {l : Launch} {e : Env} {s : State} {m : MethodId} {args : Array Value} {below : List Frame} {meth : Method} {c : Code} {D : va_G} {cyI cyZ cyW : ClassId} {zW zO : Nat} {A : Nat → Prop} (C : Cx p s m args meth c cX10_firstsLeft RX10 "firstsLeft" wsX10_firstsLeft (some .int) 3 D (tyA cyI cyZ cyW) zW zO A) {md : Nat → Nat} {mflags : Int32} {mtubs : Int32} {mpegs : Int32} {mcl : (Nat → Int32)} {mws : (Nat → Int32)} {mho : (Nat → Int32)} {mnow : (Nat → Int32)} {mrd : (Nat → Int32)} {mrh : (Nat → Int32)} {mrf : Int32} {mtx : (Nat → Int32)} {mlen : Int32} {mat : Int32} {mfa : Int32} {mac : Int32} {mnx : Int32} {mrow : (Nat → Int32)} {msn : Int32} {mso : (Nat → Int32)} {msc : (Nat → Int32)} {msw : (Nat → Int32)} {mseed : Int64} {mik : (Nat → Int32)} {mkp : (Nat → Int32)} {x2 : Int32} {y0 : Int32} {y1 : Int32} {rec4 : Int32 → Int32 → Option (Int32)} {res : Int32} (hrec4 : ∀ (x1 : Int32) (x2 : Int32), rec4 x1 x2 = some res → Mx p l e ({ frames := 1, cells := 0, slots := 0, locals := 21 } : Room) s m args below meth c (MQ below (QI D (tyA cyI cyZ cyW) A (wMO cyI cyZ cyW md mflags mtubs mpegs mcl mws mho mnow mrd mrh mrf mtx mlen mat mfa mac mnx mrow msn mso msc msw mseed mik mkp) res) args s 0 0 A) 3 D A 0 0 (wMO cyI cyZ cyW md mflags mtubs mpegs mcl mws mho mnow mrd mrh mrf mtx mlen mat mfa mac mnx mrow msn mso msc msw mseed mik mkp) 4 [(0, .ref (md 0)), (1, .int x1), (2, .int x2)] []) (h : fX10_firstsLeft_28 rec4 x2 y0 y1 mrh mrf = some res) : Mx p l e ({ frames := 1, cells := 0, slots := 0, locals := 21 } : Room) s m args below meth c (MQ below (QI D (tyA cyI cyZ cyW) A (wMO cyI cyZ cyW md mflags mtubs mpegs mcl mws mho mnow mrd mrh mrf mtx mlen mat mfa mac mnx mrow msn mso msc msw mseed mik mkp) res) args s 0 0 A) 3 D A 0 0 (wMO cyI cyZ cyW md mflags mtubs mpegs mcl mws mho mnow mrd mrh mrf mtx mlen mat mfa mac mnx mrow msn mso msc msw mseed mik mkp) 28 [(0, .ref (md 0)), (2, .int x2)] [.int y0, .int y1] := by
  unfold fX10_firstsLeft_28 at h
  refine r_ior C dX10_firstsLeft_28 ?_
  refine r_istore_n (lv' := [(1, .int (y1 ||| y0)), (0, .ref (md 0)), (2, .int x2)]) C dX10_firstsLeft_29 rfl (by decide) rfl ?_
  refine r_iinc (v := 1) (lv' := [(2, .int (x2 + (1 : Int32))), (1, .int (y1 ||| y0)), (0, .ref (md 0))]) C dX10_firstsLeft_30 2 rfl ic_1 (by decide) rfl ?_
  refine r_goto (tgt := 4) C dX10_firstsLeft_33 (by decide) ?_
  refine r_lv (lv' := [(0, .ref (md 0)), (1, .int (y1 ||| y0)), (2, .int (x2 + (1 : Int32)))]) [2, 1, 0] rfl ?_
  exact hrec4 (y1 ||| y0) (x2 + (1 : Int32)) h
set_option maxHeartbeats 4000000 in
set_option maxRecDepth 100000 in
theorem LGX10_firstsLeft_4 {p : Program} {l : Launch} {e : Env} {s : State} {m : MethodId} {args : Array Value} {below : List Frame} {meth : Method} {c : Code} {D : va_G} {cyI cyZ cyW : ClassId} {zW zO : Nat} {A : Nat → Prop} (C : Cx p s m args meth c cX10_firstsLeft RX10 "firstsLeft" wsX10_firstsLeft (some .int) 3 D (tyA cyI cyZ cyW) zW zO A) {md : Nat → Nat} {mflags : Int32} {mtubs : Int32} {mpegs : Int32} {mcl : (Nat → Int32)} {mws : (Nat → Int32)} {mho : (Nat → Int32)} {mnow : (Nat → Int32)} {mrd : (Nat → Int32)} {mrh : (Nat → Int32)} {mrf : Int32} {mtx : (Nat → Int32)} {mlen : Int32} {mat : Int32} {mfa : Int32} {mac : Int32} {mnx : Int32} {mrow : (Nat → Int32)} {msn : Int32} {mso : (Nat → Int32)} {msc : (Nat → Int32)} {msw : (Nat → Int32)} {mseed : Int64} {mik : (Nat → Int32)} {mkp : (Nat → Int32)} {x1 : Int32} {x2 : Int32} {rec4 : Int32 → Int32 → Option (Int32)} {res : Int32} (hrec4 : ∀ (x1 : Int32) (x2 : Int32), rec4 x1 x2 = some res → Mx p l e ({ frames := 1, cells := 0, slots := 0, locals := 21 } : Room) s m args below meth c (MQ below (QI D (tyA cyI cyZ cyW) A (wMO cyI cyZ cyW md mflags mtubs mpegs mcl mws mho mnow mrd mrh mrf mtx mlen mat mfa mac mnx mrow msn mso msc msw mseed mik mkp) res) args s 0 0 A) 3 D A 0 0 (wMO cyI cyZ cyW md mflags mtubs mpegs mcl mws mho mnow mrd mrh mrf mtx mlen mat mfa mac mnx mrow msn mso msc msw mseed mik mkp) 4 [(0, .ref (md 0)), (1, .int x1), (2, .int x2)] []) (h : gX10_firstsLeft_4 rec4 x1 x2 mrh mrf = some res) : Mx p l e ({ frames := 1, cells := 0, slots := 0, locals := 21 } : Room) s m args below meth c (MQ below (QI D (tyA cyI cyZ cyW) A (wMO cyI cyZ cyW md mflags mtubs mpegs mcl mws mho mnow mrd mrh mrf mtx mlen mat mfa mac mnx mrow msn mso msc msw mseed mik mkp) res) args s 0 0 A) 3 D A 0 0 (wMO cyI cyZ cyW md mflags mtubs mpegs mcl mws mho mnow mrd mrh mrf mtx mlen mat mfa mac mnx mrow msn mso msc msw mseed mik mkp) 4 [(0, .ref (md 0)), (1, .int x1), (2, .int x2)] [] := by
  unfold gX10_firstsLeft_4 at h
  refine r_iload_n C dX10_firstsLeft_4 2 rfl rfl ?_
  refine r_aload_n C dX10_firstsLeft_5 0 rfl rfl ?_
  refine r_get (ci := 7) (CC := RX10) (T := TX10) (N := 24) (v := .int mrf) C hinX10_firstsLeft_X10 0 rfl rfl 9 (by decide) mX10_firstsLeft_1 rfl rfl dX10_firstsLeft_6 ?_
  refine r_icmp_ge (tgt := 36) C dX10_firstsLeft_9 (by decide) (fun c1 => ?_) (fun c1 => ?_)
  · replace h := ob_t h c1
    refine r_iload_n C dX10_firstsLeft_36 1 rfl rfl ?_
    have h9 := Option.some.inj h
    subst h9
    exact r_iret C rfl dX10_firstsLeft_37
  · replace h := ob_f h c1
    refine r_iload_n C dX10_firstsLeft_12 1 rfl rfl ?_
    refine r_aload_n C dX10_firstsLeft_13 0 rfl rfl ?_
    refine r_iload_n C dX10_firstsLeft_14 2 rfl rfl ?_
    obtain ⟨u2, hu2, h⟩ := ob_bind h
    refine r_readVI (q0 := 0) (As := [.int x2]) (rest := [.int x1]) C (kX10_left (md := md) (mflags := mflags) (mtubs := mtubs) (mpegs := mpegs) (mcl := mcl) (mws := mws) (mho := mho) (mnow := mnow) (mrd := mrd) (mrh := mrh) (mrf := mrf) (mtx := mtx) (mlen := mlen) (mat := mat) (mfa := mfa) (mac := mac) (mnx := mnx) (mrow := mrow) (msn := msn) (mso := mso) (msc := msc) (msw := msw) (mseed := mseed) (mik := mik) (mkp := mkp) (x1 := x2) hu2) gX10_firstsLeft_X10_left rfl rfl rfl ⟨rfl, hd_X10_left⟩ ⟨by decide, by decide⟩ rfl rfl rfl rfl [0, 1, 2, 3, 4, 5, 6, 7, 8, 9, 10, 11, 12, 13] (by decide) in_76 rfl (Nat.le_of_ble_eq_true rfl) dX10_firstsLeft_15 ⟨Nat.zero_le _, Nat.zero_le _⟩ ?_
    refine r_if_eq (tgt := 27) C dX10_firstsLeft_18 (by decide) (fun c3 => ?_) (fun c3 => ?_)
    · replace h := ob_t h c3
      refine r_iconst (v := 0) C dX10_firstsLeft_27 ic_0 ?_
      refine r_lv (lv' := [(0, .ref (md 0)), (2, .int x2)]) [0, 2] rfl ?_
      exact LX10_firstsLeft_28 C (x2 := x2) (y0 := (0 : Int32)) (y1 := x1) (mflags := mflags) (mtubs := mtubs) (mpegs := mpegs) (mcl := mcl) (mws := mws) (mho := mho) (mnow := mnow) (mrd := mrd) (mrh := mrh) (mrf := mrf) (mtx := mtx) (mlen := mlen) (mat := mat) (mfa := mfa) (mac := mac) (mnx := mnx) (mrow := mrow) (msn := msn) (mso := mso) (msc := msc) (msw := msw) (mseed := mseed) (mik := mik) (mkp := mkp) hrec4 h
    · replace h := ob_f h c3
      refine r_iconst (v := 1) C dX10_firstsLeft_21 ic_1 ?_
      refine r_iload_n C dX10_firstsLeft_22 2 rfl rfl ?_
      refine r_ishl C dX10_firstsLeft_23 ?_
      refine r_goto (tgt := 28) C dX10_firstsLeft_24 (by decide) ?_
      refine r_lv (lv' := [(0, .ref (md 0)), (2, .int x2)]) [0, 2] rfl ?_
      exact LX10_firstsLeft_28 C (x2 := x2) (y0 := ((1 : Int32) <<< (x2 &&& 31))) (y1 := x1) (mflags := mflags) (mtubs := mtubs) (mpegs := mpegs) (mcl := mcl) (mws := mws) (mho := mho) (mnow := mnow) (mrd := mrd) (mrh := mrh) (mrf := mrf) (mtx := mtx) (mlen := mlen) (mat := mat) (mfa := mfa) (mac := mac) (mnx := mnx) (mrow := mrow) (msn := msn) (mso := mso) (msc := msc) (msw := msw) (mseed := mseed) (mik := mik) (mkp := mkp) hrec4 h
set_option maxHeartbeats 4000000 in
set_option maxRecDepth 100000 in
theorem LX10_firstsLeft_4 {p : Program} {l : Launch} {e : Env} {s : State} {m : MethodId} {args : Array Value} {below : List Frame} {meth : Method} {c : Code} {D : va_G} {cyI cyZ cyW : ClassId} {zW zO : Nat} {A : Nat → Prop} (C : Cx p s m args meth c cX10_firstsLeft RX10 "firstsLeft" wsX10_firstsLeft (some .int) 3 D (tyA cyI cyZ cyW) zW zO A) {md : Nat → Nat} {mflags : Int32} {mtubs : Int32} {mpegs : Int32} {mcl : (Nat → Int32)} {mws : (Nat → Int32)} {mho : (Nat → Int32)} {mnow : (Nat → Int32)} {mrd : (Nat → Int32)} {mrh : (Nat → Int32)} {mrf : Int32} {mtx : (Nat → Int32)} {mlen : Int32} {mat : Int32} {mfa : Int32} {mac : Int32} {mnx : Int32} {mrow : (Nat → Int32)} {msn : Int32} {mso : (Nat → Int32)} {msc : (Nat → Int32)} {msw : (Nat → Int32)} {mseed : Int64} {mik : (Nat → Int32)} {mkp : (Nat → Int32)}  {res : Int32}  : ∀ (n : Nat) (x1 : Int32) (x2 : Int32), fX10_firstsLeft_4  mrh mrf n x1 x2 = some res → Mx p l e ({ frames := 1, cells := 0, slots := 0, locals := 21 } : Room) s m args below meth c (MQ below (QI D (tyA cyI cyZ cyW) A (wMO cyI cyZ cyW md mflags mtubs mpegs mcl mws mho mnow mrd mrh mrf mtx mlen mat mfa mac mnx mrow msn mso msc msw mseed mik mkp) res) args s 0 0 A) 3 D A 0 0 (wMO cyI cyZ cyW md mflags mtubs mpegs mcl mws mho mnow mrd mrh mrf mtx mlen mat mfa mac mnx mrow msn mso msc msw mseed mik mkp) 4 [(0, .ref (md 0)), (1, .int x1), (2, .int x2)] [] := by
  intro n
  induction n with
  | zero => intro x1 x2 h; cases h
  | succ n ih => intro x1 x2 h; exact LGX10_firstsLeft_4 C ih h
set_option maxHeartbeats 4000000 in
set_option maxRecDepth 100000 in
theorem kX10_firstsLeft {l : Launch} {D : va_G} {cyI cyZ cyW : ClassId} {zW zO : Nat} {md : Nat → Nat} {mflags : Int32} {mtubs : Int32} {mpegs : Int32} {mcl : (Nat → Int32)} {mws : (Nat → Int32)} {mho : (Nat → Int32)} {mnow : (Nat → Int32)} {mrd : (Nat → Int32)} {mrh : (Nat → Int32)} {mrf : Int32} {mtx : (Nat → Int32)} {mlen : Int32} {mat : Int32} {mfa : Int32} {mac : Int32} {mnx : Int32} {mrow : (Nat → Int32)} {msn : Int32} {mso : (Nat → Int32)} {msc : (Nat → Int32)} {msw : (Nat → Int32)} {mseed : Int64} {mik : (Nat → Int32)} {mkp : (Nat → Int32)}  {res : Int32} (h : fX10_firstsLeft mrh mrf = some res) : KI l yX10_firstsLeft wsX10_firstsLeft ({ frames := 1, cells := 0, slots := 0, locals := 21 } : Room) D (tyA cyI cyZ cyW) zW zO [.ref (md 0)] (wMO cyI cyZ cyW md mflags mtubs mpegs mcl mws mho mnow mrd mrh mrf mtx mlen mat mfa mac mnx mrow msn mso msc msw mseed mik mkp) (wMO cyI cyZ cyW md mflags mtubs mpegs mcl mws mho mnow mrd mrh mrf mtx mlen mat mfa mac mnx mrow msn mso msc msw mseed mik mkp) res := by
  refine enterI (cc := cX10_firstsLeft) (nL := 3) (ret := (some .int)) (by decide) rfl (Nat.le_of_ble_eq_true rfl) (fun p e s m below meth c A C => ?_)
  refine r_lv (lv' := [(0, .ref (md 0))]) [0] rfl ?_
  unfold fX10_firstsLeft at h
  refine r_iconst (v := 0) C dX10_firstsLeft_0 ic_0 ?_
  refine r_istore_n (lv' := [(1, .int (0 : Int32)), (0, .ref (md 0))]) C dX10_firstsLeft_1 rfl (by decide) rfl ?_
  refine r_iconst (v := 0) C dX10_firstsLeft_2 ic_0 ?_
  refine r_istore_n (lv' := [(2, .int (0 : Int32)), (1, .int (0 : Int32)), (0, .ref (md 0))]) C dX10_firstsLeft_3 rfl (by decide) rfl ?_
  refine r_lv (lv' := [(0, .ref (md 0)), (1, .int (0 : Int32)), (2, .int (0 : Int32))]) [2, 1, 0] rfl ?_
  exact LX10_firstsLeft_4 C (mflags := mflags) (mtubs := mtubs) (mpegs := mpegs) (mcl := mcl) (mws := mws) (mho := mho) (mnow := mnow) (mrd := mrd) (mrh := mrh) (mrf := mrf) (mtx := mtx) (mlen := mlen) (mat := mat) (mfa := mfa) (mac := mac) (mnx := mnx) (mrow := mrow) (msn := msn) (mso := mso) (msc := msc) (msw := msw) (mseed := mseed) (mik := mik) (mkp := mkp)  FU (0 : Int32) (0 : Int32) h
