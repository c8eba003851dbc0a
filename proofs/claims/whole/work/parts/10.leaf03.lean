/-! ===== FlagWash.greatestCommon ===== -/
def gX9_greatestCommon_7 (rec7 : Int32 → Int32 → Int32 → Option (Int32)) (x2 : Int32) (x3 : Int32) (x4 : Int32) : Option (Int32) :=
 (if (100 : Int32) ≤ x4 then (some x2)
 else (if x3 = 0 then (some x2)
 else (if x3 = 0 then none else (rec7 x3 (jrem x2 x3) (x4 + (1 : Int32))))))
def fX9_greatestCommon_7   : Nat → Int32 → Int32 → Int32 → Option (Int32)
  | 0 => fun _ _ _ => none
  | n + 1 => fun x2 x3 x4 => gX9_greatestCommon_7 (fX9_greatestCommon_7   n) x2 x3 x4
def fX9_greatestCommon  (x0 : Int32) (x1 : Int32) : Option (Int32) :=
 (fX9_greatestCommon_7   FU x0 x1 (0 : Int32))
theorem hd_X9_greatestCommon : yX9_greatestCommon.cls ≠ "java/lang/invoke/MethodHandle" ∧ yX9_greatestCommon.cls ≠ "java/lang/invoke/VarHandle" ∧ (parseMethodDescriptor yX9_greatestCommon.desc).map (fun d => d.parameters.length) = some 2 := by decide +kernel
set_option maxHeartbeats 4000000 in
set_option maxRecDepth 100000 in
theorem LGX9_greatestCommon_7 {p : Program} {l : Launch} {e : Env} {s : State} {m : MethodId} {args : Array Value} {below : List Frame} {meth : Method} {c : Code} {D : va_G} {cyI cyZ cyW : ClassId} {zW zO : Nat} {A : Nat → Prop} (C : Cx p s m args meth c cX9_greatestCommon RX9 "greatestCommon" wsX9_greatestCommon (some .int) 6 D (tyA cyI cyZ cyW) zW zO A)   {x2 : Int32} {x3 : Int32} {x4 : Int32} {rec7 : Int32 → Int32 → Int32 → Option (Int32)} {res : Int32} (hrec7 : ∀ (x2 : Int32) (x3 : Int32) (x4 : Int32), rec7 x2 x3 x4 = some res → Mx p l e ({ frames := 0, cells := 0, slots := 0, locals := 0 } : Room) s m args below meth c (MQ below (QI D (tyA cyI cyZ cyW) A ([] : va_W) res) args s 0 0 A) 6 D A 0 0 ([] : va_W) 7 [(2, .int x2), (3, .int x3), (4, .int x4)] []) (h : gX9_greatestCommon_7 rec7 x2 x3 x4 = some res) : Mx p l e ({ frames := 0, cells := 0, slots := 0, locals := 0 } : Room) s m args below meth c (MQ below (QI D (tyA cyI cyZ cyW) A ([] : va_W) res) args s 0 0 A) 6 D A 0 0 ([] : va_W) 7 [(2, .int x2), (3, .int x3), (4, .int x4)] [] := by
  unfold gX9_greatestCommon_7 at h
  refine r_iload C dX9_greatestCommon_7 2 rfl ?_
  refine r_bipush (v := 100) C dX9_greatestCommon_9 bp_100 ?_
  refine r_icmp_ge (tgt := 34) C dX9_greatestCommon_11 (by decide) (fun c1 => ?_) (fun c1 => ?_)
  · replace h := ob_t h c1
    refine r_iload_n C dX9_greatestCommon_34 0 rfl rfl ?_
    have h9 := Option.some.inj h
    subst h9
    exact r_iret C rfl dX9_greatestCommon_35
  · replace h := ob_f h c1
    refine r_iload_n C dX9_greatestCommon_14 1 rfl rfl ?_
    refine r_if_eq (tgt := 34) C dX9_greatestCommon_15 (by decide) (fun c2 => ?_) (fun c2 => ?_)
    · replace h := ob_t h c2
      refine r_iload_n C dX9_greatestCommon_34 0 rfl rfl ?_
      have h9 := Option.some.inj h
      subst h9
      exact r_iret C rfl dX9_greatestCommon_35
    · replace h := ob_f h c2
      refine r_iload_n C dX9_greatestCommon_18 0 rfl rfl ?_
      refine r_iload_n C dX9_greatestCommon_19 1 rfl rfl ?_
      obtain ⟨hu3, h⟩ := ob_ne h
      refine r_irem C dX9_greatestCommon_20 hu3 ?_
      refine r_istore (lv' := [(5, .int (jrem x2 x3)), (2, .int x2), (3, .int x3), (4, .int x4)]) C dX9_greatestCommon_21 (by decide) rfl ?_
      refine r_iload_n C dX9_greatestCommon_23 2 rfl rfl ?_
      refine r_istore_n (lv' := [(2, .int x3), (5, .int (jrem x2 x3)), (3, .int x3), (4, .int x4)]) C dX9_greatestCommon_24 rfl (by decide) rfl ?_
      refine r_iload C dX9_greatestCommon_25 1 rfl ?_
      refine r_istore_n (lv' := [(3, .int (jrem x2 x3)), (2, .int x3), (5, .int (jrem x2 x3)), (4, .int x4)]) C dX9_greatestCommon_27 rfl (by decide) rfl ?_
      refine r_iinc (v := 1) (lv' := [(4, .int (x4 + (1 : Int32))), (3, .int (jrem x2 x3)), (2, .int x3), (5, .int (jrem x2 x3))]) C dX9_greatestCommon_28 3 rfl ic_1 (by decide) rfl ?_
      refine r_goto (tgt := 7) C dX9_greatestCommon_31 (by decide) ?_
      refine r_lv (lv' := [(2, .int x3), (3, .int (jrem x2 x3)), (4, .int (x4 + (1 : Int32)))]) [2, 1, 0] rfl ?_
      exact hrec7 x3 (jrem x2 x3) (x4 + (1 : Int32)) h
set_option maxHeartbeats 4000000 in
set_option maxRecDepth 100000 in
theorem LX9_greatestCommon_7 {p : Program} {l : Launch} {e : Env} {s : State} {m : MethodId} {args : Array Value} {below : List Frame} {meth : Method} {c : Code} {D : va_G} {cyI cyZ cyW : ClassId} {zW zO : Nat} {A : Nat → Prop} (C : Cx p s m args meth c cX9_greatestCommon RX9 "greatestCommon" wsX9_greatestCommon (some .int) 6 D (tyA cyI cyZ cyW) zW zO A)    {res : Int32}  : ∀ (n : Nat) (x2 : Int32) (x3 : Int32) (x4 : Int32), fX9_greatestCommon_7   n x2 x3 x4 = some res → Mx p l e ({ frames := 0, cells := 0, slots := 0, locals := 0 } : Room) s m args below meth c (MQ below (QI D (tyA cyI cyZ cyW) A ([] : va_W) res) args s 0 0 A) 6 D A 0 0 ([] : va_W) 7 [(2, .int x2), (3, .int x3), (4, .int x4)] [] := by
  intro n
  induction n with
  | zero => intro x2 x3 x4 h; cases h
  | succ n ih => intro x2 x3 x4 h; exact LGX9_greatestCommon_7 C ih h
set_option maxHeartbeats 4000000 in
set_option maxRecDepth 100000 in
theorem kX9_greatestCommon {l : Launch} {D : va_G} {cyI cyZ cyW : ClassId} {zW zO : Nat}   {x0 : Int32} {x1 : Int32} {res : Int32} (h : fX9_greatestCommon x0 x1 = some res) : KI l yX9_greatestCommon wsX9_greatestCommon ({ frames := 0, cells := 0, slots := 0, locals := 0 } : Room) D (tyA cyI cyZ cyW) zW zO [.int x0, .int x1] ([] : va_W) ([] : va_W) res := by
  refine enterI (cc := cX9_greatestCommon) (nL := 6) (ret := (some .int)) (by decide) rfl (Nat.le_of_ble_eq_true rfl) (fun p e s m below meth c A C => ?_)
  refine r_lv (lv' := [(0, .int x0), (1, .int x1)]) [0, 1] rfl ?_
  unfold fX9_greatestCommon at h
  refine r_iload_n C dX9_greatestCommon_0 0 rfl rfl ?_
  refine r_istore_n (lv' := [(2, .int x0), (0, .int x0), (1, .int x1)]) C dX9_greatestCommon_1 rfl (by decide) rfl ?_
  refine r_iload_n C dX9_greatestCommon_2 2 rfl rfl ?_
  refine r_istore_n (lv' := [(3, .int x1), (2, .int x0), (0, .int x0), (1, .int x1)]) C dX9_greatestCommon_3 rfl (by decide) rfl ?_
  refine r_iconst (v := 0) C dX9_greatestCommon_4 ic_0 ?_
  refine r_istore (lv' := [(4, .int (0 : Int32)), (3, .int x1), (2, .int x0), (0, .int x0), (1, .int x1)]) C dX9_greatestCommon_5 (by decide) rfl ?_
  refine r_lv (lv' := [(2, .int x0), (3, .int x1), (4, .int (0 : Int32))]) [2, 1, 0] rfl ?_
  exact LX9_greatestCommon_7 C   FU x0 x1 (0 : Int32) h

/-! ===== FlagWash.toldFraction ===== -/
def fX9_toldFraction  (x0 : Int32) (x1 : Int32) (x2 : Bool) : Option (Int32) :=
 ((fX9_greatestCommon x0 x1).bind fun u1 => (if u1 = 0 then (some (-9 : Int32))
 else (if x2 = true then (if u1 = 0 then none else (some (x0 / u1)))
 else (if u1 = 0 then none else (some (x1 / u1))))))
theorem hd_X9_toldFraction : yX9_toldFraction.cls ≠ "java/lang/invoke/MethodHandle" ∧ yX9_toldFraction.cls ≠ "java/lang/invoke/VarHandle" ∧ (parseMethodDescriptor yX9_toldFraction.desc).map (fun d => d.parameters.length) = some 3 := by decide +kernel
set_option maxHeartbeats 4000000 in
set_option maxRecDepth 100000 in
theorem kX9_toldFraction {l : Launch} {D : va_G} {cyI cyZ cyW : ClassId} {zW zO : Nat}   {x0 : Int32} {x1 : Int32} {x2 : Bool} {res : Int32} (h : fX9_toldFraction x0 x1 x2 = some res) : KI l yX9_toldFraction wsX9_toldFraction ({ frames := 1, cells := 0, slots := 0, locals := 25 } : Room) D (tyA cyI cyZ cyW) zW zO [.int x0, .int x1, .int (b2i x2)] ([] : va_W) ([] : va_W) res := by
  refine enterI (cc := cX9_toldFraction) (nL := 4) (ret := (some .int)) (by decide) rfl (Nat.le_of_ble_eq_true rfl) (fun p e s m below meth c A C => ?_)
  refine r_lv (lv' := [(0, .int x0), (1, .int x1), (2, .int (b2i x2))]) [0, 1, 2] rfl ?_
  unfold fX9_toldFraction at h
  refine r_iload_n C dX9_toldFraction_0 0 rfl rfl ?_
  refine r_iload_n C dX9_toldFraction_1 1 rfl rfl ?_
  obtain ⟨u1, hu1, h⟩ := ob_bind h
  refine r_readSI (As := [.int x0, .int x1]) (rest := []) C (kX9_greatestCommon   (x0 := x0) (x1 := x1) hu1) gX9_toldFraction_X9_greatestCommon rfl rfl rfl hd_X9_greatestCommon ⟨by decide, by decide⟩ rfl [] (by decide) rfl rfl (Nat.le_of_ble_eq_true rfl) dX9_toldFraction_2 ⟨Nat.zero_le _, Nat.zero_le _⟩ ?_
  refine r_istore_n (lv' := [(3, .int u1), (0, .int x0), (1, .int x1), (2, .int (b2i x2))]) C dX9_toldFraction_5 rfl (by decide) rfl ?_
  refine r_iload_n C dX9_toldFraction_6 0 rfl rfl ?_
  refine r_if_ne (tgt := 13) C dX9_toldFraction_7 (by decide) (fun c2 => ?_) (fun c2 => ?_)
  · replace h := ob_f h c2
    refine r_iload_n C dX9_toldFraction_13 3 rfl rfl ?_
    refine r_ifb_eq (tgt := 21) C dX9_toldFraction_14 (by decide) (fun c3 => ?_) (fun c3 => ?_)
    · replace h := ob_bf h c3
      refine r_iload_n C dX9_toldFraction_21 2 rfl rfl ?_
      refine r_iload_n C dX9_toldFraction_22 0 rfl rfl ?_
      obtain ⟨hu4, h⟩ := ob_ne h
      refine r_idiv C dX9_toldFraction_23 hu4 ?_
      have h9 := Option.some.inj h
      subst h9
      exact r_iret C rfl dX9_toldFraction_24
    · replace h := ob_t h c3
      refine r_iload_n C dX9_toldFraction_17 1 rfl rfl ?_
      refine r_goto (tgt := 22) C dX9_toldFraction_18 (by decide) ?_
      refine r_iload_n C dX9_toldFraction_22 0 rfl rfl ?_
      obtain ⟨hu5, h⟩ := ob_ne h
      refine r_idiv C dX9_toldFraction_23 hu5 ?_
      have h9 := Option.some.inj h
      subst h9
      exact r_iret C rfl dX9_toldFraction_24
  · replace h := ob_t h c2
    refine r_bipush (v := -9) C dX9_toldFraction_10 bp_m9 ?_
    have h9 := Option.some.inj h
    subst h9
    exact r_iret C rfl dX9_toldFraction_12
