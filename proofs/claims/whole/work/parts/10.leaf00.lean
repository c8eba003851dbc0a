/-! ===== FlagWash$Chances.choices ===== -/
def gX1_choices_4 (rec4 : Int32 → Int32 → Option (Int32)) (x0 : Int32) (x1 : Int32) (x2 : Int32) (x3 : Int32) : Option (Int32) :=
 (if x1 < x3 then (some x2)
 else (if x3 = 0 then none else (rec4 ((x2 * ((x0 - x1) + x3)) / x3) (x3 + (1 : Int32)))))
def fX1_choices_4  (x0 : Int32) (x1 : Int32) : Nat → Int32 → Int32 → Option (Int32)
  | 0 => fun _ _ => none
  | n + 1 => fun x2 x3 => gX1_choices_4 (fX1_choices_4  x0 x1 n) x0 x1 x2 x3
def fX1_choices  (x0 : Int32) (x1 : Int32) : Option (Int32) :=
 (fX1_choices_4  x0 x1 FU (1 : Int32) (1 : Int32))
theorem hd_X1_choices : yX1_choices.cls ≠ "java/lang/invoke/MethodHandle" ∧ yX1_choices.cls ≠ "java/lang/invoke/VarHandle" ∧ (parseMethodDescriptor yX1_choices.desc).map (fun d => d.parameters.length) = some 2 := by decide +kernel
set_option maxHeartbeats 4000000 in
set_option maxRecDepth 100000 in
theorem LGX1_choices_4 {p : Program} {l : Launch} {e : Env} {s : State} {m : MethodId} {args : Array Value} {below : List Frame} {meth : Method} {c : Code} {D : va_G} {cyI cyZ cyW : ClassId} {zW zO : Nat} {A : Nat → Prop} (C : Cx p s m args meth c cX1_choices RX1 "choices" wsX1_choices (some .int) 4 D (tyA cyI cyZ cyW) zW zO A)   {x0 : Int32} {x1 : Int32} {x2 : Int32} {x3 : Int32} {rec4 : Int32 → Int32 → Option (Int32)} {res : Int32} (hrec4 : ∀ (x2 : Int32) (x3 : Int32), rec4 x2 x3 = some res → Mx p l e ({ frames := 0, cells := 0, slots := 0, locals := 0 } : Room) s m args below meth c (MQ below (QI D (tyA cyI cyZ cyW) A ([] : va_W) res) args s 0 0 A) 4 D A 0 0 ([] : va_W) 4 [(0, .int x0), (1, .int x1), (2, .int x2), (3, .int x3)] []) (h : gX1_choices_4 rec4 x0 x1 x2 x3 = some res) : Mx p l e ({ frames := 0, cells := 0, slots := 0, locals := 0 } : Room) s m args below meth c (MQ below (QI D (tyA cyI cyZ cyW) A ([] : va_W) res) args s 0 0 A) 4 D A 0 0 ([] : va_W) 4 [(0, .int x0), (1, .int x1), (2, .int x2), (3, .int x3)] [] := by
  unfold gX1_choices_4 at h
  refine r_iload_n C dX1_choices_4 3 rfl rfl ?_
  refine r_iload_n C dX1_choices_5 1 rfl rfl ?_
  refine r_icmp_gt (tgt := 25) C dX1_choices_6 (by decide) (fun c1 => ?_) (fun c1 => ?_)
  · replace h := ob_t h c1
    refine r_iload_n C dX1_choices_25 2 rfl rfl ?_
    have h9 := Option.some.inj h
    subst h9
    exact r_iret C rfl dX1_choices_26
  · replace h := ob_f h c1
    refine r_iload_n C dX1_choices_9 2 rfl rfl ?_
    refine r_iload_n C dX1_choices_10 0 rfl rfl ?_
    refine r_iload_n C dX1_choices_11 1 rfl rfl ?_
    refine r_isub C dX1_choices_12 ?_
    refine r_iload_n C dX1_choices_13 3 rfl rfl ?_
    refine r_iadd C dX1_choices_14 ?_
    refine r_imul C dX1_choices_15 ?_
    refine r_iload_n C dX1_choices_16 3 rfl rfl ?_
    obtain ⟨hu2, h⟩ := ob_ne h
    refine r_idiv C dX1_choices_17 hu2 ?_
    refine r_istore_n (lv' := [(2, .int ((x2 * ((x0 - x1) + x3)) / x3)), (0, .int x0), (1, .int x1), (3, .int x3)]) C dX1_choices_18 rfl (by decide) rfl ?_
    refine r_iinc (v := 1) (lv' := [(3, .int (x3 + (1 : Int32))), (2, .int ((x2 * ((x0 - x1) + x3)) / x3)), (0, .int x0), (1, .int x1)]) C dX1_choices_19 3 rfl ic_1 (by decide) rfl ?_
    refine r_goto (tgt := 4) C dX1_choices_22 (by decide) ?_
    refine r_lv (lv' := [(0, .int x0), (1, .int x1), (2, .int ((x2 * ((x0 - x1) + x3)) / x3)), (3, .int (x3 + (1 : Int32)))]) [2, 3, 1, 0] rfl ?_
    exact hrec4 ((x2 * ((x0 - x1) + x3)) / x3) (x3 + (1 : Int32)) h
set_option maxHeartbeats 4000000 in
set_option maxRecDepth 100000 in
theorem LX1_choices_4 {p : Program} {l : Launch} {e : Env} {s : State} {m : MethodId} {args : Array Value} {below : List Frame} {meth : Method} {c : Code} {D : va_G} {cyI cyZ cyW : ClassId} {zW zO : Nat} {A : Nat → Prop} (C : Cx p s m args meth c cX1_choices RX1 "choices" wsX1_choices (some .int) 4 D (tyA cyI cyZ cyW) zW zO A)  {x0 : Int32} {x1 : Int32}  {res : Int32}  : ∀ (n : Nat) (x2 : Int32) (x3 : Int32), fX1_choices_4  x0 x1 n x2 x3 = some res → Mx p l e ({ frames := 0, cells := 0, slots := 0, locals := 0 } : Room) s m args below meth c (MQ below (QI D (tyA cyI cyZ cyW) A ([] : va_W) res) args s 0 0 A) 4 D A 0 0 ([] : va_W) 4 [(0, .int x0), (1, .int x1), (2, .int x2), (3, .int x3)] [] := by
  intro n
  induction n with
  | zero => intro x2 x3 h; cases h
  | succ n ih => intro x2 x3 h; exact LGX1_choices_4 C ih h
set_option maxHeartbeats 4000000 in
set_option maxRecDepth 100000 in
theorem kX1_choices {l : Launch} {D : va_G} {cyI cyZ cyW : ClassId} {zW zO : Nat}   {x0 : Int32} {x1 : Int32} {res : Int32} (h : fX1_choices x0 x1 = some res) : KI l yX1_choices wsX1_choices ({ frames := 0, cells := 0, slots := 0, locals := 0 } : Room) D (tyA cyI cyZ cyW) zW zO [.int x0, .int x1] ([] : va_W) ([] : va_W) res := by
  refine enterI (cc := cX1_choices) (nL := 4) (ret := (some .int)) (by decide) rfl (Nat.le_of_ble_eq_true rfl) (fun p e s m below meth c A C => ?_)
  refine r_lv (lv' := [(0, .int x0), (1, .int x1)]) [0, 1] rfl ?_
  unfold fX1_choices at h
  refine r_iconst (v := 1) C dX1_choices_0 ic_1 ?_
  refine r_istore_n (lv' := [(2, .int (1 : Int32)), (0, .int x0), (1, .int x1)]) C dX1_choices_1 rfl (by decide) rfl ?_
  refine r_iconst (v := 1) C dX1_choices_2 ic_1 ?_
  refine r_istore_n (lv' := [(3, .int (1 : Int32)), (2, .int (1 : Int32)), (0, .int x0), (1, .int x1)]) C dX1_choices_3 rfl (by decide) rfl ?_
  refine r_lv (lv' := [(0, .int x0), (1, .int x1), (2, .int (1 : Int32)), (3, .int (1 : Int32))]) [2, 3, 1, 0] rfl ?_
  exact LX1_choices_4 C (x0 := x0) (x1 := x1)  FU (1 : Int32) (1 : Int32) h

/-! ===== FlagWash$Chances.power ===== -/
def gX1_power_4 (rec4 : Int32 → Int32 → Option (Int32)) (x0 : Int32) (x1 : Int32) (x2 : Int32) (x3 : Int32) : Option (Int32) :=
 (if x1 ≤ x3 then (some x2)
 else (rec4 (x2 * x0) (x3 + (1 : Int32))))
def fX1_power_4  (x0 : Int32) (x1 : Int32) : Nat → Int32 → Int32 → Option (Int32)
  | 0 => fun _ _ => none
  | n + 1 => fun x2 x3 => gX1_power_4 (fX1_power_4  x0 x1 n) x0 x1 x2 x3
def fX1_power  (x0 : Int32) (x1 : Int32) : Option (Int32) :=
 (fX1_power_4  x0 x1 FU (1 : Int32) (0 : Int32))
theorem hd_X1_power : yX1_power.cls ≠ "java/lang/invoke/MethodHandle" ∧ yX1_power.cls ≠ "java/lang/invoke/VarHandle" ∧ (parseMethodDescriptor yX1_power.desc).map (fun d => d.parameters.length) = some 2 := by decide +kernel
set_option maxHeartbeats 4000000 in
set_option maxRecDepth 100000 in
theorem LGX1_power_4 {p : Program} {l : Launch} {e : Env} {s : State} {m : MethodId} {args : Array Value} {below : List Frame} {meth : Method} {c : Code} {D : va_G} {cyI cyZ cyW : ClassId} {zW zO : Nat} {A : Nat → Prop} (C : Cx p s m args meth c cX1_power RX1 "power" wsX1_power (some .int) 4 D (tyA cyI cyZ cyW) zW zO A)   {x0 : Int32} {x1 : Int32} {x2 : Int32} {x3 : Int32} {rec4 : Int32 → Int32 → Option (Int32)} {res : Int32} (hrec4 : ∀ (x2 : Int32) (x3 : Int32), rec4 x2 x3 = some res → Mx p l e ({ frames := 0, cells := 0, slots := 0, locals := 0 } : Room) s m args below meth c (MQ below (QI D (tyA cyI cyZ cyW) A ([] : va_W) res) args s 0 0 A) 4 D A 0 0 ([] : va_W) 4 [(0, .int x0), (1, .int x1), (2, .int x2), (3, .int x3)] []) (h : gX1_power_4 rec4 x0 x1 x2 x3 = some res) : Mx p l e ({ frames := 0, cells := 0, slots := 0, locals := 0 } : Room) s m args below meth c (MQ below (QI D (tyA cyI cyZ cyW) A ([] : va_W) res) args s 0 0 A) 4 D A 0 0 ([] : va_W) 4 [(0, .int x0), (1, .int x1), (2, .int x2), (3, .int x3)] [] := by
  unfold gX1_power_4 at h
  refine r_iload_n C dX1_power_4 3 rfl rfl ?_
  refine r_iload_n C dX1_power_5 1 rfl rfl ?_
  refine r_icmp_ge (tgt := 19) C dX1_power_6 (by decide) (fun c1 => ?_) (fun c1 => ?_)
  · replace h := ob_t h c1
    refine r_iload_n C dX1_power_19 2 rfl rfl ?_
    have h9 := Option.some.inj h
    subst h9
    exact r_iret C rfl dX1_power_20
  · replace h := ob_f h c1
    refine r_iload_n C dX1_power_9 2 rfl rfl ?_
    refine r_iload_n C dX1_power_10 0 rfl rfl ?_
    refine r_imul C dX1_power_11 ?_
    refine r_istore_n (lv' := [(2, .int (x2 * x0)), (0, .int x0), (1, .int x1), (3, .int x3)]) C dX1_power_12 rfl (by decide) rfl ?_
    refine r_iinc (v := 1) (lv' := [(3, .int (x3 + (1 : Int32))), (2, .int (x2 * x0)), (0, .int x0), (1, .int x1)]) C dX1_power_13 3 rfl ic_1 (by decide) rfl ?_
    refine r_goto (tgt := 4) C dX1_power_16 (by decide) ?_
    refine r_lv (lv' := [(0, .int x0), (1, .int x1), (2, .int (x2 * x0)), (3, .int (x3 + (1 : Int32)))]) [2, 3, 1, 0] rfl ?_
    exact hrec4 (x2 * x0) (x3 + (1 : Int32)) h
set_option maxHeartbeats 4000000 in
set_option maxRecDepth 100000 in
theorem LX1_power_4 {p : Program} {l : Launch} {e : Env} {s : State} {m : MethodId} {args : Array Value} {below : List Frame} {meth : Method} {c : Code} {D : va_G} {cyI cyZ cyW : ClassId} {zW zO : Nat} {A : Nat → Prop} (C : Cx p s m args meth c cX1_power RX1 "power" wsX1_power (some .int) 4 D (tyA cyI cyZ cyW) zW zO A)  {x0 : Int32} {x1 : Int32}  {res : Int32}  : ∀ (n : Nat) (x2 : Int32) (x3 : Int32), fX1_power_4  x0 x1 n x2 x3 = some res → Mx p l e ({ frames := 0, cells := 0, slots := 0, locals := 0 } : Room) s m args below meth c (MQ below (QI D (tyA cyI cyZ cyW) A ([] : va_W) res) args s 0 0 A) 4 D A 0 0 ([] : va_W) 4 [(0, .int x0), (1, .int x1), (2, .int x2), (3, .int x3)] [] := by
  intro n
  induction n with
  | zero => intro x2 x3 h; cases h
  | succ n ih => intro x2 x3 h; exact LGX1_power_4 C ih h
set_option maxHeartbeats 4000000 in
set_option maxRecDepth 100000 in
theorem kX1_power {l : Launch} {D : va_G} {cyI cyZ cyW : ClassId} {zW zO : Nat}   {x0 : Int32} {x1 : Int32} {res : Int32} (h : fX1_power x0 x1 = some res) : KI l yX1_power wsX1_power ({ frames := 0, cells := 0, slots := 0, locals := 0 } : Room) D (tyA cyI cyZ cyW) zW zO [.int x0, .int x1] ([] : va_W) ([] : va_W) res := by
  refine enterI (cc := cX1_power) (nL := 4) (ret := (some .int)) (by decide) rfl (Nat.le_of_ble_eq_true rfl) (fun p e s m below meth c A C => ?_)
  refine r_lv (lv' := [(0, .int x0), (1, .int x1)]) [0, 1] rfl ?_
  unfold fX1_power at h
  refine r_iconst (v := 1) C dX1_power_0 ic_1 ?_
  refine r_istore_n (lv' := [(2, .int (1 : Int32)), (0, .int x0), (1, .int x1)]) C dX1_power_1 rfl (by decide) rfl ?_
  refine r_iconst (v := 0) C dX1_power_2 ic_0 ?_
  refine r_istore_n (lv' := [(3, .int (0 : Int32)), (2, .int (1 : Int32)), (0, .int x0), (1, .int x1)]) C dX1_power_3 rfl (by decide) rfl ?_
  refine r_lv (lv' := [(0, .int x0), (1, .int x1), (2, .int (1 : Int32)), (3, .int (0 : Int32))]) [2, 3, 1, 0] rfl ?_
  exact LX1_power_4 C (x0 := x0) (x1 := x1)  FU (1 : Int32) (0 : Int32) h

/-! ===== FlagWash$Chances.waysToDry ===== -/
def fX1_waysToDry_49 (rec5 : Int32 → Int32 → Option (Int32)) (x0 : Int32) (x1 : Int32) (x2 : Int32) (x3 : Int32) (x4 : Int32) : Option (Int32) :=
 (rec5 x3 (x4 + (1 : Int32)))
def gX1_waysToDry_5 (rec5 : Int32 → Int32 → Option (Int32)) (x0 : Int32) (x1 : Int32) (x2 : Int32) (x3 : Int32) (x4 : Int32) : Option (Int32) :=
 (if x1 < x4 then (some x3)
 else (if (x1 + ((2 : Int32) * x4)) < x0 then (fX1_waysToDry_49 rec5 x0 x1 x2 x3 x4)
 else ((fX1_choices x1 x4).bind fun u3 => ((fX1_power x2 x4).bind fun u4 => ((fX1_power ((10 : Int32) - x2) (x1 - x4)).bind fun u5 => (fX1_waysToDry_49 rec5 x0 x1 x2 (x3 + ((u3 * u4) * u5)) x4))))))
def fX1_waysToDry_5  (x0 : Int32) (x1 : Int32) (x2 : Int32) : Nat → Int32 → Int32 → Option (Int32)
  | 0 => fun _ _ => none
  | n + 1 => fun x3 x4 => gX1_waysToDry_5 (fX1_waysToDry_5  x0 x1 x2 n) x0 x1 x2 x3 x4
def fX1_waysToDry  (x0 : Int32) (x1 : Int32) (x2 : Int32) : Option (Int32) :=
 (fX1_waysToDry_5  x0 x1 x2 FU (0 : Int32) (0 : Int32))
theorem hd_X1_waysToDry : yX1_waysToDry.cls ≠ "java/lang/invoke/MethodHandle" ∧ yX1_waysToDry.cls ≠ "java/lang/invoke/VarHandle" ∧ (parseMethodDescriptor yX1_waysToDry.desc).map (fun d => d.parameters.length) = some 3 := by decide +kernel
set_option maxHeartbeats 4000000 in
set_option maxRecDepth 100000 in
theorem LX1_waysToDry_49 {p : Program} {l : Launch} {e : Env} {s : State} {m : MethodId} {args : Array Value} {below : List Frame} {meth : Method} {c : Code} {D : va_G} {cyI cyZ cyW : ClassId} {zW zO : Nat} {A : Nat → Prop} (C : Cx p s m args meth c cX1_waysToDry RX1 "waysToDry" wsX1_waysToDry (some .int) 5 D (tyA cyI cyZ cyW) zW zO A)   {x0 : Int32} {x1 : Int32} {x2 : Int32} {x3 : Int32} {x4 : Int32} {rec5 : Int32 → Int32 → Option (Int32)} {res : Int32} (hrec5 : ∀ (x3 : Int32) (x4 : Int32), rec5 x3 x4 = some res → Mx p l e ({ frames := 1, cells := 0, slots := 0, locals := 23 } : Room) s m args below meth c (MQ below (QI D (tyA cyI cyZ cyW) A ([] : va_W) res) args s 0 0 A) 5 D A 0 0 ([] : va_W) 5 [(0, .int x0), (1, .int x1), (2, .int x2), (3, .int x3), (4, .int x4)] []) (h : fX1_waysToDry_49 rec5 x0 x1 x2 x3 x4 = some res) : Mx p l e ({ frames := 1, cells := 0, slots := 0, locals := 23 } : Room) s m args below meth c (MQ below (QI D (tyA cyI cyZ cyW) A ([] : va_W) res) args s 0 0 A) 5 D A 0 0 ([] : va_W) 49 [(0, .int x0), (1, .int x1), (2, .int x2), (3, .int x3), (4, .int x4)] [] := by
  unfold fX1_waysToDry_49 at h
  refine r_iinc (v := 1) (lv' := [(4, .int (x4 + (1 : Int32))), (0, .int x0), (1, .int x1), (2, .int x2), (3, .int x3)]) C dX1_waysToDry_49 4 rfl ic_1 (by decide) rfl ?_
  refine r_goto (tgt := 5) C dX1_waysToDry_52 (by decide) ?_
  refine r_lv (lv' := [(0, .int x0), (1, .int x1), (2, .int x2), (3, .int x3), (4, .int (x4 + (1 : Int32)))]) [1, 2, 3, 4, 0] rfl ?_
  exact hrec5 x3 (x4 + (1 : Int32)) h
set_option maxHeartbeats 4000000 in
set_option maxRecDepth 100000 in
theorem LGX1_waysToDry_5 {p : Program} {l : Launch} {e : Env} {s : State} {m : MethodId} {args : Array Value} {below : List Frame} {meth : Method} {c : Code} {D : va_G} {cyI cyZ cyW : ClassId} {zW zO : Nat} {A : Nat → Prop} (C : Cx p s m args meth c cX1_waysToDry RX1 "waysToDry" wsX1_waysToDry (some .int) 5 D (tyA cyI cyZ cyW) zW zO A)   {x0 : Int32} {x1 : Int32} {x2 : Int32} {x3 : Int32} {x4 : Int32} {rec5 : Int32 → Int32 → Option (Int32)} {res : Int32} (hrec5 : ∀ (x3 : Int32) (x4 : Int32), rec5 x3 x4 = some res → Mx p l e ({ frames := 1, cells := 0, slots := 0, locals := 23 } : Room) s m args below meth c (MQ below (QI D (tyA cyI cyZ cyW) A ([] : va_W) res) args s 0 0 A) 5 D A 0 0 ([] : va_W) 5 [(0, .int x0), (1, .int x1), (2, .int x2), (3, .int x3), (4, .int x4)] []) (h : gX1_waysToDry_5 rec5 x0 x1 x2 x3 x4 = some res) : Mx p l e ({ frames := 1, cells := 0, slots := 0, locals := 23 } : Room) s m args below meth c (MQ below (QI D (tyA cyI cyZ cyW) A ([] : va_W) res) args s 0 0 A) 5 D A 0 0 ([] : va_W) 5 [(0, .int x0), (1, .int x1), (2, .int x2), (3, .int x3), (4, .int x4)] [] := by
  unfold gX1_waysToDry_5 at h
  refine r_iload C dX1_waysToDry_5 4 rfl ?_
  refine r_iload_n C dX1_waysToDry_7 1 rfl rfl ?_
  refine r_icmp_gt (tgt := 55) C dX1_waysToDry_8 (by decide) (fun c1 => ?_) (fun c1 => ?_)
  · replace h := ob_t h c1
    refine r_iload_n C dX1_waysToDry_55 3 rfl rfl ?_
    have h9 := Option.some.inj h
    subst h9
    exact r_iret C rfl dX1_waysToDry_56
  · replace h := ob_f h c1
    refine r_iload_n C dX1_waysToDry_11 1 rfl rfl ?_
    refine r_iconst (v := 2) C dX1_waysToDry_12 ic_2 ?_
    refine r_iload C dX1_waysToDry_13 4 rfl ?_
    refine r_imul C dX1_waysToDry_15 ?_
    refine r_iadd C dX1_waysToDry_16 ?_
    refine r_iload_n C dX1_waysToDry_17 0 rfl rfl ?_
    refine r_icmp_lt (tgt := 49) C dX1_waysToDry_18 (by decide) (fun c2 => ?_) (fun c2 => ?_)
    · replace h := ob_t h c2
      refine r_lv (lv' := [(0, .int x0), (1, .int x1), (2, .int x2), (3, .int x3), (4, .int x4)]) [0, 1, 2, 3, 4] rfl ?_
      exact LX1_waysToDry_49 C (x0 := x0) (x1 := x1) (x2 := x2) (x3 := x3) (x4 := x4) hrec5 h
    · replace h := ob_f h c2
      refine r_iload_n C dX1_waysToDry_21 3 rfl rfl ?_
      refine r_iload_n C dX1_waysToDry_22 1 rfl rfl ?_
      refine r_iload C dX1_waysToDry_23 4 rfl ?_
      obtain ⟨u3, hu3, h⟩ := ob_bind h
      refine r_readSI (As := [.int x1, .int x4]) (rest := [.int x3]) C (kX1_choices   (x0 := x1) (x1 := x4) hu3) gX1_waysToDry_X1_choices rfl rfl rfl hd_X1_choices ⟨by decide, by decide⟩ rfl [] (by decide) rfl rfl (Nat.le_of_ble_eq_true rfl) dX1_waysToDry_25 ⟨Nat.zero_le _, Nat.zero_le _⟩ ?_
      refine r_iload_n C dX1_waysToDry_28 2 rfl rfl ?_
      refine r_iload C dX1_waysToDry_29 4 rfl ?_
      obtain ⟨u4, hu4, h⟩ := ob_bind h
      refine r_readSI (As := [.int x2, .int x4]) (rest := [.int u3, .int x3]) C (kX1_power   (x0 := x2) (x1 := x4) hu4) gX1_waysToDry_X1_power rfl rfl rfl hd_X1_power ⟨by decide, by decide⟩ rfl [] (by decide) rfl rfl (Nat.le_of_ble_eq_true rfl) dX1_waysToDry_31 ⟨Nat.zero_le _, Nat.zero_le _⟩ ?_
      refine r_imul C dX1_waysToDry_34 ?_
      refine r_bipush (v := 10) C dX1_waysToDry_35 bp_10 ?_
      refine r_iload_n C dX1_waysToDry_37 2 rfl rfl ?_
      refine r_isub C dX1_waysToDry_38 ?_
      refine r_iload_n C dX1_waysToDry_39 1 rfl rfl ?_
      refine r_iload C dX1_waysToDry_40 4 rfl ?_
      refine r_isub C dX1_waysToDry_42 ?_
      obtain ⟨u5, hu5, h⟩ := ob_bind h
      refine r_readSI (As := [.int ((10 : Int32) - x2), .int (x1 - x4)]) (rest := [.int (u3 * u4), .int x3]) C (kX1_power   (x0 := ((10 : Int32) - x2)) (x1 := (x1 - x4)) hu5) gX1_waysToDry_X1_power rfl rfl rfl hd_X1_power ⟨by decide, by decide⟩ rfl [] (by decide) rfl rfl (Nat.le_of_ble_eq_true rfl) dX1_waysToDry_43 ⟨Nat.zero_le _, Nat.zero_le _⟩ ?_
      refine r_imul C dX1_waysToDry_46 ?_
      refine r_iadd C dX1_waysToDry_47 ?_
      refine r_istore_n (lv' := [(3, .int (x3 + ((u3 * u4) * u5))), (0, .int x0), (1, .int x1), (2, .int x2), (4, .int x4)]) C dX1_waysToDry_48 rfl (by decide) rfl ?_
      refine r_lv (lv' := [(0, .int x0), (1, .int x1), (2, .int x2), (3, .int (x3 + ((u3 * u4) * u5))), (4, .int x4)]) [1, 2, 3, 0, 4] rfl ?_
      exact LX1_waysToDry_49 C (x0 := x0) (x1 := x1) (x2 := x2) (x3 := (x3 + ((u3 * u4) * u5))) (x4 := x4) hrec5 h
set_option maxHeartbeats 4000000 in
set_option maxRecDepth 100000 in
theorem LX1_waysToDry_5 {p : Program} {l : Launch} {e : Env} {s : State} {m : MethodId} {args : Array Value} {below : List Frame} {meth : Method} {c : Code} {D : va_G} {cyI cyZ cyW : ClassId} {zW zO : Nat} {A : Nat → Prop} (C : Cx p s m args meth c cX1_waysToDry RX1 "waysToDry" wsX1_waysToDry (some .int) 5 D (tyA cyI cyZ cyW) zW zO A)  {x0 : Int32} {x1 : Int32} {x2 : Int32}  {res : Int32}  : ∀ (n : Nat) (x3 : Int32) (x4 : Int32), fX1_waysToDry_5  x0 x1 x2 n x3 x4 = some res → Mx p l e ({ frames := 1, cells := 0, slots := 0, locals := 23 } : Room) s m args below meth c (MQ below (QI D (tyA cyI cyZ cyW) A ([] : va_W) res) args s 0 0 A) 5 D A 0 0 ([] : va_W) 5 [(0, .int x0), (1, .int x1), (2, .int x2), (3, .int x3), (4, .int x4)] [] := by
  intro n
  induction n with
  | zero => intro x3 x4 h; cases h
  | succ n ih => intro x3 x4 h; exact LGX1_waysToDry_5 C ih h
set_option maxHeartbeats 4000000 in
set_option maxRecDepth 100000 in
theorem kX1_waysToDry {l : Launch} {D : va_G} {cyI cyZ cyW : ClassId} {zW zO : Nat}   {x0 : Int32} {x1 : Int32} {x2 : Int32} {res : Int32} (h : fX1_waysToDry x0 x1 x2 = some res) : KI l yX1_waysToDry wsX1_waysToDry ({ frames := 1, cells := 0, slots := 0, locals := 23 } : Room) D (tyA cyI cyZ cyW) zW zO [.int x0, .int x1, .int x2] ([] : va_W) ([] : va_W) res := by
  refine enterI (cc := cX1_waysToDry) (nL := 5) (ret := (some .int)) (by decide) rfl (Nat.le_of_ble_eq_true rfl) (fun p e s m below meth c A C => ?_)
  refine r_lv (lv' := [(0, .int x0), (1, .int x1), (2, .int x2)]) [0, 1, 2] rfl ?_
  unfold fX1_waysToDry at h
  refine r_iconst (v := 0) C dX1_waysToDry_0 ic_0 ?_
  refine r_istore_n (lv' := [(3, .int (0 : Int32)), (0, .int x0), (1, .int x1), (2, .int x2)]) C dX1_waysToDry_1 rfl (by decide) rfl ?_
  refine r_iconst (v := 0) C dX1_waysToDry_2 ic_0 ?_
  refine r_istore (lv' := [(4, .int (0 : Int32)), (3, .int (0 : Int32)), (0, .int x0), (1, .int x1), (2, .int x2)]) C dX1_waysToDry_3 (by decide) rfl ?_
  refine r_lv (lv' := [(0, .int x0), (1, .int x1), (2, .int x2), (3, .int (0 : Int32)), (4, .int (0 : Int32))]) [2, 3, 4, 1, 0] rfl ?_
  exact LX1_waysToDry_5 C (x0 := x0) (x1 := x1) (x2 := x2)  FU (0 : Int32) (0 : Int32) h

/-! ===== java/lang/Integer.bitCount ===== -/
def fJ6_bitCount_0f7a4_48  (x0 : Int32) : Option (Int32) :=
 (some (x0 &&& (63 : Int32)))
def fJ6_bitCount_0f7a4_34  (x0 : Int32) : Option (Int32) :=
 (fJ6_bitCount_0f7a4_48  ((x0 + (jush x0 (8 : Int32))) + (jush (x0 + (jush x0 (8 : Int32))) (16 : Int32))))
def fJ6_bitCount_0f7a4_24  (x0 : Int32) : Option (Int32) :=
 (fJ6_bitCount_0f7a4_34  ((x0 + (jush x0 (4 : Int32))) &&& (252645135 : Int32)))
def fJ6_bitCount_0f7a4_10  (x0 : Int32) : Option (Int32) :=
 (fJ6_bitCount_0f7a4_24  ((x0 &&& (858993459 : Int32)) + ((jush x0 (2 : Int32)) &&& (858993459 : Int32))))
def fJ6_bitCount_0f7a4  (x0 : Int32) : Option (Int32) :=
 (fJ6_bitCount_0f7a4_10  (x0 - ((jush x0 (1 : Int32)) &&& (1431655765 : Int32))))
theorem mJ6_bitCount_0f7a4_1 : Cond.constant RJ6 265 (1431655765) ∈ wsJ6_bitCount_0f7a4 := List.mem_of_getElem? (i := 1) rfl
theorem mJ6_bitCount_0f7a4_2 : Cond.constant RJ6 266 (858993459) ∈ wsJ6_bitCount_0f7a4 := List.mem_of_getElem? (i := 2) rfl
theorem mJ6_bitCount_0f7a4_3 : Cond.constant RJ6 267 (252645135) ∈ wsJ6_bitCount_0f7a4 := List.mem_of_getElem? (i := 3) rfl
theorem hd_J6_bitCount_0f7a4 : yJ6_bitCount_0f7a4.cls ≠ "java/lang/invoke/MethodHandle" ∧ yJ6_bitCount_0f7a4.cls ≠ "java/lang/invoke/VarHandle" ∧ (parseMethodDescriptor yJ6_bitCount_0f7a4.desc).map (fun d => d.parameters.length) = some 1 := by decide +kernel
set_option maxHeartbeats 4000000 in
set_option maxRecDepth 100000 in
theorem LJ6_bitCount_0f7a4_48 {p : Program} {l : Launch} {e : Env} {s : State} {m : MethodId} {args : Array Value} {below : List Frame} {meth : Method} {c : Code} {D : va_G} {cyI cyZ cyW : ClassId} {zW zO : Nat} {A : Nat → Prop} (C : Cx p s m args meth c cJ6_bitCount_0f7a4 RJ6 "bitCount" wsJ6_bitCount_0f7a4 (some .int) 1 D (tyA cyI cyZ cyW) zW zO A)   {x0 : Int32}  {res : Int32}  (h : fJ6_bitCount_0f7a4_48  x0 = some res) : Mx p l e ({ frames := 0, cells := 0, slots := 0, locals := 0 } : Room) s m args below meth c (MQ below (QI D (tyA cyI cyZ cyW) A ([] : va_W) res) args s 0 0 A) 1 D A 0 0 ([] : va_W) 48 [(0, .int x0)] [] := by
  unfold fJ6_bitCount_0f7a4_48 at h
  refine r_iload_n C dJ6_bitCount_0f7a4_48 0 rfl rfl ?_
  refine r_bipush (v := 63) C dJ6_bitCount_0f7a4_49 bp_63 ?_
  refine r_iand C dJ6_bitCount_0f7a4_51 ?_
  have h9 := Option.some.inj h
  subst h9
  exact r_iret C rfl dJ6_bitCount_0f7a4_52
set_option maxHeartbeats 4000000 in
set_option maxRecDepth 100000 in
theorem LJ6_bitCount_0f7a4_34 {p : Program} {l : Launch} {e : Env} {s : State} {m : MethodId} {args : Array Value} {below : List Frame} {meth : Method} {c : Code} {D : va_G} {cyI cyZ cyW : ClassId} {zW zO : Nat} {A : Nat → Prop} (C : Cx p s m args meth c cJ6_bitCount_0f7a4 RJ6 "bitCount" wsJ6_bitCount_0f7a4 (some .int) 1 D (tyA cyI cyZ cyW) zW zO A)   {x0 : Int32}  {res : Int32}  (h : fJ6_bitCount_0f7a4_34  x0 = some res) : Mx p l e ({ frames := 0, cells := 0, slots := 0, locals := 0 } : Room) s m args below meth c (MQ below (QI D (tyA cyI cyZ cyW) A ([] : va_W) res) args s 0 0 A) 1 D A 0 0 ([] : va_W) 34 [(0, .int x0)] [] := by
  unfold fJ6_bitCount_0f7a4_34 at h
  refine r_iload_n C dJ6_bitCount_0f7a4_34 0 rfl rfl ?_
  refine r_iload_n C dJ6_bitCount_0f7a4_35 0 rfl rfl ?_
  refine r_bipush (v := 8) C dJ6_bitCount_0f7a4_36 bp_8 ?_
  refine r_iushr C dJ6_bitCount_0f7a4_38 ?_
  refine r_iadd C dJ6_bitCount_0f7a4_39 ?_
  refine r_istore_n (lv' := [(0, .int (x0 + (jush x0 (8 : Int32))))]) C dJ6_bitCount_0f7a4_40 rfl (by decide) rfl ?_
  refine r_iload_n C dJ6_bitCount_0f7a4_41 0 rfl rfl ?_
  refine r_iload_n C dJ6_bitCount_0f7a4_42 0 rfl rfl ?_
  refine r_bipush (v := 16) C dJ6_bitCount_0f7a4_43 bp_16 ?_
  refine r_iushr C dJ6_bitCount_0f7a4_45 ?_
  refine r_iadd C dJ6_bitCount_0f7a4_46 ?_
  refine r_istore_n (lv' := [(0, .int ((x0 + (jush x0 (8 : Int32))) + (jush (x0 + (jush x0 (8 : Int32))) (16 : Int32))))]) C dJ6_bitCount_0f7a4_47 rfl (by decide) rfl ?_
  refine r_lv (lv' := [(0, .int ((x0 + (jush x0 (8 : Int32))) + (jush (x0 + (jush x0 (8 : Int32))) (16 : Int32))))]) [0] rfl ?_
  exact LJ6_bitCount_0f7a4_48 C (x0 := ((x0 + (jush x0 (8 : Int32))) + (jush (x0 + (jush x0 (8 : Int32))) (16 : Int32))))  h
set_option maxHeartbeats 4000000 in
set_option maxRecDepth 100000 in
theorem LJ6_bitCount_0f7a4_24 {p : Program} {l : Launch} {e : Env} {s : State} {m : MethodId} {args : Array Value} {below : List Frame} {meth : Method} {c : Code} {D : va_G} {cyI cyZ cyW : ClassId} {zW zO : Nat} {A : Nat → Prop} (C : Cx p s m args meth c cJ6_bitCount_0f7a4 RJ6 "bitCount" wsJ6_bitCount_0f7a4 (some .int) 1 D (tyA cyI cyZ cyW) zW zO A)   {x0 : Int32}  {res : Int32}  (h : fJ6_bitCount_0f7a4_24  x0 = some res) : Mx p l e ({ frames := 0, cells := 0, slots := 0, locals := 0 } : Room) s m args below meth c (MQ below (QI D (tyA cyI cyZ cyW) A ([] : va_W) res) args s 0 0 A) 1 D A 0 0 ([] : va_W) 24 [(0, .int x0)] [] := by
  unfold fJ6_bitCount_0f7a4_24 at h
  refine r_iload_n C dJ6_bitCount_0f7a4_24 0 rfl rfl ?_
  refine r_iload_n C dJ6_bitCount_0f7a4_25 0 rfl rfl ?_
  refine r_iconst (v := 4) C dJ6_bitCount_0f7a4_26 ic_4 ?_
  refine r_iushr C dJ6_bitCount_0f7a4_27 ?_
  refine r_iadd C dJ6_bitCount_0f7a4_28 ?_
  refine r_ldc_w (v := 252645135) C mJ6_bitCount_0f7a4_3 dJ6_bitCount_0f7a4_29 ?_
  refine r_iand C dJ6_bitCount_0f7a4_32 ?_
  refine r_istore_n (lv' := [(0, .int ((x0 + (jush x0 (4 : Int32))) &&& (252645135 : Int32)))]) C dJ6_bitCount_0f7a4_33 rfl (by decide) rfl ?_
  refine r_lv (lv' := [(0, .int ((x0 + (jush x0 (4 : Int32))) &&& (252645135 : Int32)))]) [0] rfl ?_
  exact LJ6_bitCount_0f7a4_34 C (x0 := ((x0 + (jush x0 (4 : Int32))) &&& (252645135 : Int32)))  h
set_option maxHeartbeats 4000000 in
set_option maxRecDepth 100000 in
theorem LJ6_bitCount_0f7a4_10 {p : Program} {l : Launch} {e : Env} {s : State} {m : MethodId} {args : Array Value} {below : List Frame} {meth : Method} {c : Code} {D : va_G} {cyI cyZ cyW : ClassId} {zW zO : Nat} {A : Nat → Prop} (C : Cx p s m args meth c cJ6_bitCount_0f7a4 RJ6 "bitCount" wsJ6_bitCount_0f7a4 (some .int) 1 D (tyA cyI cyZ cyW) zW zO A)   {x0 : Int32}  {res : Int32}  (h : fJ6_bitCount_0f7a4_10  x0 = some res) : Mx p l e ({ frames := 0, cells := 0, slots := 0, locals := 0 } : Room) s m args below meth c (MQ below (QI D (tyA cyI cyZ cyW) A ([] : va_W) res) args s 0 0 A) 1 D A 0 0 ([] : va_W) 10 [(0, .int x0)] [] := by
  unfold fJ6_bitCount_0f7a4_10 at h
  refine r_iload_n C dJ6_bitCount_0f7a4_10 0 rfl rfl ?_
  refine r_ldc_w (v := 858993459) C mJ6_bitCount_0f7a4_2 dJ6_bitCount_0f7a4_11 ?_
  refine r_iand C dJ6_bitCount_0f7a4_14 ?_
  refine r_iload_n C dJ6_bitCount_0f7a4_15 0 rfl rfl ?_
  refine r_iconst (v := 2) C dJ6_bitCount_0f7a4_16 ic_2 ?_
  refine r_iushr C dJ6_bitCount_0f7a4_17 ?_
  refine r_ldc_w (v := 858993459) C mJ6_bitCount_0f7a4_2 dJ6_bitCount_0f7a4_18 ?_
  refine r_iand C dJ6_bitCount_0f7a4_21 ?_
  refine r_iadd C dJ6_bitCount_0f7a4_22 ?_
  refine r_istore_n (lv' := [(0, .int ((x0 &&& (858993459 : Int32)) + ((jush x0 (2 : Int32)) &&& (858993459 : Int32))))]) C dJ6_bitCount_0f7a4_23 rfl (by decide) rfl ?_
  refine r_lv (lv' := [(0, .int ((x0 &&& (858993459 : Int32)) + ((jush x0 (2 : Int32)) &&& (858993459 : Int32))))]) [0] rfl ?_
  exact LJ6_bitCount_0f7a4_24 C (x0 := ((x0 &&& (858993459 : Int32)) + ((jush x0 (2 : Int32)) &&& (858993459 : Int32))))  h
set_option maxHeartbeats 4000000 in
set_option maxRecDepth 100000 in
theorem kJ6_bitCount_0f7a4 {l : Launch} {D : va_G} {cyI cyZ cyW : ClassId} {zW zO : Nat}   {x0 : Int32} {res : Int32} (h : fJ6_bitCount_0f7a4 x0 = some res) : KI l yJ6_bitCount_0f7a4 wsJ6_bitCount_0f7a4 ({ frames := 0, cells := 0, slots := 0, locals := 0 } : Room) D (tyA cyI cyZ cyW) zW zO [.int x0] ([] : va_W) ([] : va_W) res := by
  refine enterI (cc := cJ6_bitCount_0f7a4) (nL := 1) (ret := (some .int)) (by decide) rfl (Nat.le_of_ble_eq_true rfl) (fun p e s m below meth c A C => ?_)
  refine r_lv (lv' := [(0, .int x0)]) [0] rfl ?_
  unfold fJ6_bitCount_0f7a4 at h
  refine r_iload_n C dJ6_bitCount_0f7a4_0 0 rfl rfl ?_
  refine r_iload_n C dJ6_bitCount_0f7a4_1 0 rfl rfl ?_
  refine r_iconst (v := 1) C dJ6_bitCount_0f7a4_2 ic_1 ?_
  refine r_iushr C dJ6_bitCount_0f7a4_3 ?_
  refine r_ldc_w (v := 1431655765) C mJ6_bitCount_0f7a4_1 dJ6_bitCount_0f7a4_4 ?_
  refine r_iand C dJ6_bitCount_0f7a4_7 ?_
  refine r_isub C dJ6_bitCount_0f7a4_8 ?_
  refine r_istore_n (lv' := [(0, .int (x0 - ((jush x0 (1 : Int32)) &&& (1431655765 : Int32))))]) C dJ6_bitCount_0f7a4_9 rfl (by decide) rfl ?_
  refine r_lv (lv' := [(0, .int (x0 - ((jush x0 (1 : Int32)) &&& (1431655765 : Int32))))]) [0] rfl ?_
  exact LJ6_bitCount_0f7a4_10 C (x0 := (x0 - ((jush x0 (1 : Int32)) &&& (1431655765 : Int32))))  h

/-! ===== FlagWash$Plan.hostilePairs ===== -/
def fX4_hostilePairs_34 (rec4 : Int32 → Int32 → Option (Int32)) (x1 : Int32) (x2 : Int32) (x3 : Int32) (flags : Int32) (pho : (Nat → Int32)) : Option (Int32) :=
 (rec4 x2 (x3 + (1 : Int32)))
def gX4_hostilePairs_4 (rec4 : Int32 → Int32 → Option (Int32)) (x1 : Int32) (x2 : Int32) (x3 : Int32) (flags : Int32) (pho : (Nat → Int32)) : Option (Int32) :=
 (if flags ≤ x3 then (some (x2 / (2 : Int32)))
 else (if ((x1 >>> (x3 &&& 31)) &&& (1 : Int32)) = 0 then (fX4_hostilePairs_34 rec4 x1 x2 x3 flags pho)
 else (if inb x3 5 = true then ((fJ6_bitCount_0f7a4 ((pho x3.toNatClampNeg) &&& x1)).bind fun u4 => (fX4_hostilePairs_34 rec4 x1 (x2 + u4) x3 flags pho)) else none)))
def fX4_hostilePairs_4  (x1 : Int32) (flags : Int32) (pho : (Nat → Int32)) : Nat → Int32 → Int32 → Option (Int32)
  | 0 => fun _ _ => none
  | n + 1 => fun x2 x3 => gX4_hostilePairs_4 (fX4_hostilePairs_4  x1 flags pho n) x1 x2 x3 flags pho
def fX4_hostilePairs  (x1 : Int32) (flags : Int32) (pho : (Nat → Int32)) : Option (Int32) :=
 (fX4_hostilePairs_4  x1 flags pho FU (0 : Int32) (0 : Int32))
theorem hinX4_hostilePairs_X4 : ∀ w ∈ u_ws RX4 TX4 8, w ∈ wsX4_hostilePairs := fun w h => List.mem_cons_of_mem _ (List.mem_append_right _ h)
theorem mX4_hostilePairs_1 : Cond.fieldLink RX4 21 "FlagWash$Plan" "flags" "I" ∈ wsX4_hostilePairs := List.mem_of_getElem? (i := 1) rfl
theorem mX4_hostilePairs_2 : Cond.fieldLink RX4 34 "FlagWash$Plan" "hostile" "[I" ∈ wsX4_hostilePairs := List.mem_of_getElem? (i := 2) rfl
theorem hd_X4_hostilePairs : yX4_hostilePairs.cls ≠ "java/lang/invoke/MethodHandle" ∧ yX4_hostilePairs.cls ≠ "java/lang/invoke/VarHandle" ∧ (parseMethodDescriptor yX4_hostilePairs.desc).map (fun d => d.parameters.length) = some 1 := by decide +kernel
set_option maxHeartbeats 4000000 in
set_option maxRecDepth 100000 in
theorem LX4_hostilePairs_34 {p : Program} {l : Launch} {e : Env} {s : State} {m : MethodId} {args : Array Value} {below : List Frame} {meth : Method} {c : Code} {D : va_G} {cyI cyZ cyW : ClassId} {zW zO : Nat} {A : Nat → Prop} (C : Cx p s m args meth c cX4_hostilePairs RX4 "hostilePairs" wsX4_hostilePairs (some .int) 4 D (tyA cyI cyZ cyW) zW zO A) {p0 : Nat} {p1 : Nat} {p2 : Nat} {p3 : Nat} {p4 : Nat} {tubs : Int32} {pegs : Int32} {pwi : Int32} {flags : Int32} {pco : (Nat → Int32)} {pcl : (Nat → Int32)} {phr : (Nat → Int32)} {pho : (Nat → Int32)} {x1 : Int32} {x2 : Int32} {x3 : Int32} {rec4 : Int32 → Int32 → Option (Int32)} {res : Int32} (hrec4 : ∀ (x2 : Int32) (x3 : Int32), rec4 x2 x3 = some res → Mx p l e ({ frames := 1, cells := 0, slots := 0, locals := 20 } : Room) s m args below meth c (MQ below (QI D (tyA cyI cyZ cyW) A (wP cyI cyZ cyW p0 p1 p2 p3 p4 tubs pegs pwi flags pco pcl phr pho) res) args s 0 0 A) 4 D A 0 0 (wP cyI cyZ cyW p0 p1 p2 p3 p4 tubs pegs pwi flags pco pcl phr pho) 4 [(0, .ref p0), (1, .int x1), (2, .int x2), (3, .int x3)] []) (h : fX4_hostilePairs_34 rec4 x1 x2 x3 flags pho = some res) : Mx p l e ({ frames := 1, cells := 0, slots := 0, locals := 20 } : Room) s m args below meth c (MQ below (QI D (tyA cyI cyZ cyW) A (wP cyI cyZ cyW p0 p1 p2 p3 p4 tubs pegs pwi flags pco pcl phr pho) res) args s 0 0 A) 4 D A 0 0 (wP cyI cyZ cyW p0 p1 p2 p3 p4 tubs pegs pwi flags pco pcl phr pho) 34 [(0, .ref p0), (1, .int x1), (2, .int x2), (3, .int x3)] [] := by
  unfold fX4_hostilePairs_34 at h
  refine r_iinc (v := 1) (lv' := [(3, .int (x3 + (1 : Int32))), (0, .ref p0), (1, .int x1), (2, .int x2)]) C dX4_hostilePairs_34 3 rfl ic_1 (by decide) rfl ?_
  refine r_goto (tgt := 4) C dX4_hostilePairs_37 (by decide) ?_
  refine r_lv (lv' := [(0, .ref p0), (1, .int x1), (2, .int x2), (3, .int (x3 + (1 : Int32)))]) [1, 2, 3, 0] rfl ?_
  exact hrec4 x2 (x3 + (1 : Int32)) h
set_option maxHeartbeats 4000000 in
set_option maxRecDepth 100000 in
theorem LGX4_hostilePairs_4 {p : Program} {l : Launch} {e : Env} {s : State} {m : MethodId} {args : Array Value} {below : List Frame} {meth : Method} {c : Code} {D : va_G} {cyI cyZ cyW : ClassId} {zW zO : Nat} {A : Nat → Prop} (C : Cx p s m args meth c cX4_hostilePairs RX4 "hostilePairs" wsX4_hostilePairs (some .int) 4 D (tyA cyI cyZ cyW) zW zO A) {p0 : Nat} {p1 : Nat} {p2 : Nat} {p3 : Nat} {p4 : Nat} {tubs : Int32} {pegs : Int32} {pwi : Int32} {flags : Int32} {pco : (Nat → Int32)} {pcl : (Nat → Int32)} {phr : (Nat → Int32)} {pho : (Nat → Int32)} {x1 : Int32} {x2 : Int32} {x3 : Int32} {rec4 : Int32 → Int32 → Option (Int32)} {res : Int32} (hrec4 : ∀ (x2 : Int32) (x3 : Int32), rec4 x2 x3 = some res → Mx p l e ({ frames := 1, cells := 0, slots := 0, locals := 20 } : Room) s m args below meth c (MQ below (QI D (tyA cyI cyZ cyW) A (wP cyI cyZ cyW p0 p1 p2 p3 p4 tubs pegs pwi flags pco pcl phr pho) res) args s 0 0 A) 4 D A 0 0 (wP cyI cyZ cyW p0 p1 p2 p3 p4 tubs pegs pwi flags pco pcl phr pho) 4 [(0, .ref p0), (1, .int x1), (2, .int x2), (3, .int x3)] []) (h : gX4_hostilePairs_4 rec4 x1 x2 x3 flags pho = some res) : Mx p l e ({ frames := 1, cells := 0, slots := 0, locals := 20 } : Room) s m args below meth c (MQ below (QI D (tyA cyI cyZ cyW) A (wP cyI cyZ cyW p0 p1 p2 p3 p4 tubs pegs pwi flags pco pcl phr pho) res) args s 0 0 A) 4 D A 0 0 (wP cyI cyZ cyW p0 p1 p2 p3 p4 tubs pegs pwi flags pco pcl phr pho) 4 [(0, .ref p0), (1, .int x1), (2, .int x2), (3, .int x3)] [] := by
  unfold gX4_hostilePairs_4 at h
  refine r_iload_n C dX4_hostilePairs_4 3 rfl rfl ?_
  refine r_aload_n C dX4_hostilePairs_5 0 rfl rfl ?_
  refine r_get (ci := 2) (CC := RX4) (T := TX4) (N := 8) (v := .int flags) C hinX4_hostilePairs_X4 0 rfl rfl 3 (by decide) mX4_hostilePairs_1 rfl rfl dX4_hostilePairs_6 ?_
  refine r_icmp_ge (tgt := 40) C dX4_hostilePairs_9 (by decide) (fun c1 => ?_) (fun c1 => ?_)
  · replace h := ob_t h c1
    refine r_iload_n C dX4_hostilePairs_40 2 rfl rfl ?_
    refine r_iconst (v := 2) C dX4_hostilePairs_41 ic_2 ?_
    refine r_idiv C dX4_hostilePairs_42 (by decide) ?_
    have h9 := Option.some.inj h
    subst h9
    exact r_iret C rfl dX4_hostilePairs_43
  · replace h := ob_f h c1
    refine r_iload_n C dX4_hostilePairs_12 1 rfl rfl ?_
    refine r_iload_n C dX4_hostilePairs_13 3 rfl rfl ?_
    refine r_ishr C dX4_hostilePairs_14 ?_
    refine r_iconst (v := 1) C dX4_hostilePairs_15 ic_1 ?_
    refine r_iand C dX4_hostilePairs_16 ?_
    refine r_if_eq (tgt := 34) C dX4_hostilePairs_17 (by decide) (fun c2 => ?_) (fun c2 => ?_)
    · replace h := ob_t h c2
      refine r_lv (lv' := [(0, .ref p0), (1, .int x1), (2, .int x2), (3, .int x3)]) [0, 1, 2, 3] rfl ?_
      exact LX4_hostilePairs_34 C (x1 := x1) (x2 := x2) (x3 := x3) (tubs := tubs) (pegs := pegs) (pwi := pwi) (flags := flags) (pco := pco) (pcl := pcl) (phr := phr) (pho := pho) hrec4 h
    · replace h := ob_f h c2
      refine r_iload_n C dX4_hostilePairs_20 2 rfl rfl ?_
      refine r_aload_n C dX4_hostilePairs_21 0 rfl rfl ?_
      refine r_get (ci := 2) (CC := RX4) (T := TX4) (N := 8) (v := .ref p4) C hinX4_hostilePairs_X4 0 rfl rfl 7 (by decide) mX4_hostilePairs_2 rfl rfl dX4_hostilePairs_22 ?_
      refine r_iload_n C dX4_hostilePairs_25 3 rfl rfl ?_
      obtain ⟨hu3, h⟩ := ob_if h
      refine r_iald C 4 0 rfl rfl (inb_vp hu3) dX4_hostilePairs_26 ?_
      refine r_iload_n C dX4_hostilePairs_27 1 rfl rfl ?_
      refine r_iand C dX4_hostilePairs_28 ?_
      obtain ⟨u4, hu4, h⟩ := ob_bind h
      refine r_readSI (As := [.int ((pho x3.toNatClampNeg) &&& x1)]) (rest := [.int x2]) C (kJ6_bitCount_0f7a4   (x0 := ((pho x3.toNatClampNeg) &&& x1)) hu4) gX4_hostilePairs_J6_bitCount_0f7a4 rfl rfl rfl hd_J6_bitCount_0f7a4 ⟨by decide, by decide⟩ rfl [] (by decide) rfl rfl (Nat.le_of_ble_eq_true rfl) dX4_hostilePairs_29 ⟨Nat.zero_le _, Nat.zero_le _⟩ ?_
      refine r_iadd C dX4_hostilePairs_32 ?_
      refine r_istore_n (lv' := [(2, .int (x2 + u4)), (0, .ref p0), (1, .int x1), (3, .int x3)]) C dX4_hostilePairs_33 rfl (by decide) rfl ?_
      refine r_lv (lv' := [(0, .ref p0), (1, .int x1), (2, .int (x2 + u4)), (3, .int x3)]) [1, 2, 0, 3] rfl ?_
      exact LX4_hostilePairs_34 C (x1 := x1) (x2 := (x2 + u4)) (x3 := x3) (tubs := tubs) (pegs := pegs) (pwi := pwi) (flags := flags) (pco := pco) (pcl := pcl) (phr := phr) (pho := pho) hrec4 h
set_option maxHeartbeats 4000000 in
set_option maxRecDepth 100000 in
theorem LX4_hostilePairs_4 {p : Program} {l : Launch} {e : Env} {s : State} {m : MethodId} {args : Array Value} {below : List Frame} {meth : Method} {c : Code} {D : va_G} {cyI cyZ cyW : ClassId} {zW zO : Nat} {A : Nat → Prop} (C : Cx p s m args meth c cX4_hostilePairs RX4 "hostilePairs" wsX4_hostilePairs (some .int) 4 D (tyA cyI cyZ cyW) zW zO A) {p0 : Nat} {p1 : Nat} {p2 : Nat} {p3 : Nat} {p4 : Nat} {x1 : Int32} {tubs : Int32} {pegs : Int32} {pwi : Int32} {flags : Int32} {pco : (Nat → Int32)} {pcl : (Nat → Int32)} {phr : (Nat → Int32)} {pho : (Nat → Int32)}  {res : Int32}  : ∀ (n : Nat) (x2 : Int32) (x3 : Int32), fX4_hostilePairs_4  x1 flags pho n x2 x3 = some res → Mx p l e ({ frames := 1, cells := 0, slots := 0, locals := 20 } : Room) s m args below meth c (MQ below (QI D (tyA cyI cyZ cyW) A (wP cyI cyZ cyW p0 p1 p2 p3 p4 tubs pegs pwi flags pco pcl phr pho) res) args s 0 0 A) 4 D A 0 0 (wP cyI cyZ cyW p0 p1 p2 p3 p4 tubs pegs pwi flags pco pcl phr pho) 4 [(0, .ref p0), (1, .int x1), (2, .int x2), (3, .int x3)] [] := by
  intro n
  induction n with
  | zero => intro x2 x3 h; cases h
  | succ n ih => intro x2 x3 h; exact LGX4_hostilePairs_4 C ih h
set_option maxHeartbeats 4000000 in
set_option maxRecDepth 100000 in
theorem kX4_hostilePairs {l : Launch} {D : va_G} {cyI cyZ cyW : ClassId} {zW zO : Nat} {p0 : Nat} {p1 : Nat} {p2 : Nat} {p3 : Nat} {p4 : Nat} {tubs : Int32} {pegs : Int32} {pwi : Int32} {flags : Int32} {pco : (Nat → Int32)} {pcl : (Nat → Int32)} {phr : (Nat → Int32)} {pho : (Nat → Int32)} {x1 : Int32} {res : Int32} (h : fX4_hostilePairs x1 flags pho = some res) : KI l yX4_hostilePairs wsX4_hostilePairs ({ frames := 1, cells := 0, slots := 0, locals := 20 } : Room) D (tyA cyI cyZ cyW) zW zO [.ref p0, .int x1] (wP cyI cyZ cyW p0 p1 p2 p3 p4 tubs pegs pwi flags pco pcl phr pho) (wP cyI cyZ cyW p0 p1 p2 p3 p4 tubs pegs pwi flags pco pcl phr pho) res := by
  refine enterI (cc := cX4_hostilePairs) (nL := 4) (ret := (some .int)) (by decide) rfl (Nat.le_of_ble_eq_true rfl) (fun p e s m below meth c A C => ?_)
  refine r_lv (lv' := [(0, .ref p0), (1, .int x1)]) [0, 1] rfl ?_
  unfold fX4_hostilePairs at h
  refine r_iconst (v := 0) C dX4_hostilePairs_0 ic_0 ?_
  refine r_istore_n (lv' := [(2, .int (0 : Int32)), (0, .ref p0), (1, .int x1)]) C dX4_hostilePairs_1 rfl (by decide) rfl ?_
  refine r_iconst (v := 0) C dX4_hostilePairs_2 ic_0 ?_
  refine r_istore_n (lv' := [(3, .int (0 : Int32)), (2, .int (0 : Int32)), (0, .ref p0), (1, .int x1)]) C dX4_hostilePairs_3 rfl (by decide) rfl ?_
  refine r_lv (lv' := [(0, .ref p0), (1, .int x1), (2, .int (0 : Int32)), (3, .int (0 : Int32))]) [2, 3, 1, 0] rfl ?_
  exact LX4_hostilePairs_4 C (x1 := x1) (tubs := tubs) (pegs := pegs) (pwi := pwi) (flags := flags) (pco := pco) (pcl := pcl) (phr := phr) (pho := pho)  FU (0 : Int32) (0 : Int32) h

/-! ===== FlagWash$Plan.has ===== -/
def fX4_has  (x1 : Int32) (flags : Int32) : Option (Bool) :=
 (if x1 < 0 then (some false)
 else (if flags ≤ x1 then (some false)
 else (some true)))
theorem hinX4_has_X4 : ∀ w ∈ u_ws RX4 TX4 8, w ∈ wsX4_has := fun w h => List.mem_cons_of_mem _ (List.mem_append_right _ h)
theorem mX4_has_1 : Cond.fieldLink RX4 21 "FlagWash$Plan" "flags" "I" ∈ wsX4_has := List.mem_of_getElem? (i := 1) rfl
theorem hd_X4_has : yX4_has.cls ≠ "java/lang/invoke/MethodHandle" ∧ yX4_has.cls ≠ "java/lang/invoke/VarHandle" ∧ (parseMethodDescriptor yX4_has.desc).map (fun d => d.parameters.length) = some 1 := by decide +kernel
set_option maxHeartbeats 4000000 in
set_option maxRecDepth 100000 in
theorem kX4_has {l : Launch} {D : va_G} {cyI cyZ cyW : ClassId} {zW zO : Nat} {p0 : Nat} {p1 : Nat} {p2 : Nat} {p3 : Nat} {p4 : Nat} {tubs : Int32} {pegs : Int32} {pwi : Int32} {flags : Int32} {pco : (Nat → Int32)} {pcl : (Nat → Int32)} {phr : (Nat → Int32)} {pho : (Nat → Int32)} {x1 : Int32} {res : Bool} (h : fX4_has x1 flags = some res) : KI l yX4_has wsX4_has ({ frames := 0, cells := 0, slots := 0, locals := 0 } : Room) D (tyA cyI cyZ cyW) zW zO [.ref p0, .int x1] (wP cyI cyZ cyW p0 p1 p2 p3 p4 tubs pegs pwi flags pco pcl phr pho) (wP cyI cyZ cyW p0 p1 p2 p3 p4 tubs pegs pwi flags pco pcl phr pho) (b2i res) := by
  refine enterI (cc := cX4_has) (nL := 2) (ret := (some .boolean)) (by decide) rfl (Nat.le_of_ble_eq_true rfl) (fun p e s m below meth c A C => ?_)
  refine r_lv (lv' := [(0, .ref p0), (1, .int x1)]) [0, 1] rfl ?_
  unfold fX4_has at h
  refine r_iload_n C dX4_has_0 1 rfl rfl ?_
  refine r_if_lt (tgt := 16) C dX4_has_1 (by decide) (fun c1 => ?_) (fun c1 => ?_)
  · replace h := ob_t h c1
    refine r_iconst (v := 0) C dX4_has_16 ic_0 ?_
    have h9 := Option.some.inj h
    subst h9
    exact r_zret (b := false) C rfl dX4_has_17
  · replace h := ob_f h c1
    refine r_iload_n C dX4_has_4 1 rfl rfl ?_
    refine r_aload_n C dX4_has_5 0 rfl rfl ?_
    refine r_get (ci := 2) (CC := RX4) (T := TX4) (N := 8) (v := .int flags) C hinX4_has_X4 0 rfl rfl 3 (by decide) mX4_has_1 rfl rfl dX4_has_6 ?_
    refine r_icmp_ge (tgt := 16) C dX4_has_9 (by decide) (fun c2 => ?_) (fun c2 => ?_)
    · replace h := ob_t h c2
      refine r_iconst (v := 0) C dX4_has_16 ic_0 ?_
      have h9 := Option.some.inj h
      subst h9
      exact r_zret (b := false) C rfl dX4_has_17
    · replace h := ob_f h c2
      refine r_iconst (v := 1) C dX4_has_12 ic_1 ?_
      refine r_goto (tgt := 17) C dX4_has_13 (by decide) ?_
      have h9 := Option.some.inj h
      subst h9
      exact r_zret (b := true) C rfl dX4_has_17

/-! ===== FlagWash.isWithin ===== -/
def fX9_isWithin  (x0 : Int32) (x1 : Int32) : Option (Bool) :=
 (if (x0 &&& (x1 ^^^ (-1 : Int32))) = 0 then (some true)
 else (some false))
theorem hd_X9_isWithin : yX9_isWithin.cls ≠ "java/lang/invoke/MethodHandle" ∧ yX9_isWithin.cls ≠ "java/lang/invoke/VarHandle" ∧ (parseMethodDescriptor yX9_isWithin.desc).map (fun d => d.parameters.length) = some 2 := by decide +kernel
set_option maxHeartbeats 4000000 in
set_option maxRecDepth 100000 in
theorem kX9_isWithin {l : Launch} {D : va_G} {cyI cyZ cyW : ClassId} {zW zO : Nat}   {x0 : Int32} {x1 : Int32} {res : Bool} (h : fX9_isWithin x0 x1 = some res) : KI l yX9_isWithin wsX9_isWithin ({ frames := 0, cells := 0, slots := 0, locals := 0 } : Room) D (tyA cyI cyZ cyW) zW zO [.int x0, .int x1] ([] : va_W) ([] : va_W) (b2i res) := by
  refine enterI (cc := cX9_isWithin) (nL := 2) (ret := (some .boolean)) (by decide) rfl (Nat.le_of_ble_eq_true rfl) (fun p e s m below meth c A C => ?_)
  refine r_lv (lv' := [(0, .int x0), (1, .int x1)]) [0, 1] rfl ?_
  unfold fX9_isWithin at h
  refine r_iload_n C dX9_isWithin_0 0 rfl rfl ?_
  refine r_iload_n C dX9_isWithin_1 1 rfl rfl ?_
  refine r_iconst (v := -1) C dX9_isWithin_2 ic_m1 ?_
  refine r_ixor C dX9_isWithin_3 ?_
  refine r_iand C dX9_isWithin_4 ?_
  refine r_if_ne (tgt := 12) C dX9_isWithin_5 (by decide) (fun c1 => ?_) (fun c1 => ?_)
  · replace h := ob_f h c1
    refine r_iconst (v := 0) C dX9_isWithin_12 ic_0 ?_
    have h9 := Option.some.inj h
    subst h9
    exact r_zret (b := false) C rfl dX9_isWithin_13
  · replace h := ob_t h c1
    refine r_iconst (v := 1) C dX9_isWithin_8 ic_1 ?_
    refine r_goto (tgt := 13) C dX9_isWithin_9 (by decide) ?_
    have h9 := Option.some.inj h
    subst h9
    exact r_zret (b := true) C rfl dX9_isWithin_13

/-! ===== FlagWash.isFewer ===== -/
def fX9_isFewer_17   : Option (Bool) :=
 (some true)
def fX9_isFewer  (x0 : Int32) (x1 : Int32) : Option (Bool) :=
 (if x1 = (-9 : Int32) then (fX9_isFewer_17  )
 else ((fJ6_bitCount_0f7a4 x0).bind fun u2 => ((fJ6_bitCount_0f7a4 x1).bind fun u3 => (if u3 ≤ u2 then (some false)
 else (fX9_isFewer_17  )))))
theorem hd_X9_isFewer : yX9_isFewer.cls ≠ "java/lang/invoke/MethodHandle" ∧ yX9_isFewer.cls ≠ "java/lang/invoke/VarHandle" ∧ (parseMethodDescriptor yX9_isFewer.desc).map (fun d => d.parameters.length) = some 2 := by decide +kernel
set_option maxHeartbeats 4000000 in
set_option maxRecDepth 100000 in
theorem LX9_isFewer_17 {p : Program} {l : Launch} {e : Env} {s : State} {m : MethodId} {args : Array Value} {below : List Frame} {meth : Method} {c : Code} {D : va_G} {cyI cyZ cyW : ClassId} {zW zO : Nat} {A : Nat → Prop} (C : Cx p s m args meth c cX9_isFewer RX9 "isFewer" wsX9_isFewer (some .boolean) 2 D (tyA cyI cyZ cyW) zW zO A)     {res : Bool}  (h : fX9_isFewer_17   = some res) : Mx p l e ({ frames := 1, cells := 0, slots := 0, locals := 20 } : Room) s m args below meth c (MQ below (QI D (tyA cyI cyZ cyW) A ([] : va_W) (b2i res)) args s 0 0 A) 2 D A 0 0 ([] : va_W) 17 [] [] := by
  unfold fX9_isFewer_17 at h
  refine r_iconst (v := 1) C dX9_isFewer_17 ic_1 ?_
  refine r_goto (tgt := 22) C dX9_isFewer_18 (by decide) ?_
  have h9 := Option.some.inj h
  subst h9
  exact r_zret (b := true) C rfl dX9_isFewer_22
set_option maxHeartbeats 4000000 in
set_option maxRecDepth 100000 in
theorem kX9_isFewer {l : Launch} {D : va_G} {cyI cyZ cyW : ClassId} {zW zO : Nat}   {x0 : Int32} {x1 : Int32} {res : Bool} (h : fX9_isFewer x0 x1 = some res) : KI l yX9_isFewer wsX9_isFewer ({ frames := 1, cells := 0, slots := 0, locals := 20 } : Room) D (tyA cyI cyZ cyW) zW zO [.int x0, .int x1] ([] : va_W) ([] : va_W) (b2i res) := by
  refine enterI (cc := cX9_isFewer) (nL := 2) (ret := (some .boolean)) (by decide) rfl (Nat.le_of_ble_eq_true rfl) (fun p e s m below meth c A C => ?_)
  refine r_lv (lv' := [(0, .int x0), (1, .int x1)]) [0, 1] rfl ?_
  unfold fX9_isFewer at h
  refine r_iload_n C dX9_isFewer_0 1 rfl rfl ?_
  refine r_bipush (v := -9) C dX9_isFewer_1 bp_m9 ?_
  refine r_icmp_eq (tgt := 17) C dX9_isFewer_3 (by decide) (fun c1 => ?_) (fun c1 => ?_)
  · replace h := ob_t h c1
    refine r_lv (lv' := []) [] rfl ?_
    exact LX9_isFewer_17 C   h
  · replace h := ob_f h c1
    refine r_iload_n C dX9_isFewer_6 0 rfl rfl ?_
    obtain ⟨u2, hu2, h⟩ := ob_bind h
    refine r_readSI (As := [.int x0]) (rest := []) C (kJ6_bitCount_0f7a4   (x0 := x0) hu2) gX9_isFewer_J6_bitCount_0f7a4 rfl rfl rfl hd_J6_bitCount_0f7a4 ⟨by decide, by decide⟩ rfl [] (by decide) rfl rfl (Nat.le_of_ble_eq_true rfl) dX9_isFewer_7 ⟨Nat.zero_le _, Nat.zero_le _⟩ ?_
    refine r_iload_n C dX9_isFewer_10 1 rfl rfl ?_
    obtain ⟨u3, hu3, h⟩ := ob_bind h
    refine r_readSI (As := [.int x1]) (rest := [.int u2]) C (kJ6_bitCount_0f7a4   (x0 := x1) hu3) gX9_isFewer_J6_bitCount_0f7a4 rfl rfl rfl hd_J6_bitCount_0f7a4 ⟨by decide, by decide⟩ rfl [] (by decide) rfl rfl (Nat.le_of_ble_eq_true rfl) dX9_isFewer_11 ⟨Nat.zero_le _, Nat.zero_le _⟩ ?_
    refine r_icmp_ge (tgt := 21) C dX9_isFewer_14 (by decide) (fun c4 => ?_) (fun c4 => ?_)
    · replace h := ob_t h c4
      refine r_iconst (v := 0) C dX9_isFewer_21 ic_0 ?_
      have h9 := Option.some.inj h
      subst h9
      exact r_zret (b := false) C rfl dX9_isFewer_22
    · replace h := ob_f h c4
      refine r_lv (lv' := []) [] rfl ?_
      exact LX9_isFewer_17 C   h

/-! ===== FlagWash$Plan.areHostile ===== -/
def fX4_areHostile  (x1 : Int32) (x2 : Int32) (flags : Int32) (pho : (Nat → Int32)) : Option (Bool) :=
 ((fX4_has x1 flags).bind fun u1 => (if u1 = true then (if inb x1 5 = true then (if (((pho x1.toNatClampNeg) >>> (x2 &&& 31)) &&& (1 : Int32)) = 0 then (some false)
 else (some true)) else none)
 else (some false)))
theorem hinX4_areHostile_X4 : ∀ w ∈ u_ws RX4 TX4 8, w ∈ wsX4_areHostile := fun w h => List.mem_cons_of_mem _ (List.mem_append_right _ h)
theorem mX4_areHostile_1 : Cond.fieldLink RX4 34 "FlagWash$Plan" "hostile" "[I" ∈ wsX4_areHostile := List.mem_of_getElem? (i := 1) rfl
theorem hd_X4_areHostile : yX4_areHostile.cls ≠ "java/lang/invoke/MethodHandle" ∧ yX4_areHostile.cls ≠ "java/lang/invoke/VarHandle" ∧ (parseMethodDescriptor yX4_areHostile.desc).map (fun d => d.parameters.length) = some 2 := by decide +kernel
set_option maxHeartbeats 4000000 in
set_option maxRecDepth 100000 in
theorem kX4_areHostile {l : Launch} {D : va_G} {cyI cyZ cyW : ClassId} {zW zO : Nat} {p0 : Nat} {p1 : Nat} {p2 : Nat} {p3 : Nat} {p4 : Nat} {tubs : Int32} {pegs : Int32} {pwi : Int32} {flags : Int32} {pco : (Nat → Int32)} {pcl : (Nat → Int32)} {phr : (Nat → Int32)} {pho : (Nat → Int32)} {x1 : Int32} {x2 : Int32} {res : Bool} (h : fX4_areHostile x1 x2 flags pho = some res) : KI l yX4_areHostile wsX4_areHostile ({ frames := 1, cells := 0, slots := 0, locals := 21 } : Room) D (tyA cyI cyZ cyW) zW zO [.ref p0, .int x1, .int x2] (wP cyI cyZ cyW p0 p1 p2 p3 p4 tubs pegs pwi flags pco pcl phr pho) (wP cyI cyZ cyW p0 p1 p2 p3 p4 tubs pegs pwi flags pco pcl phr pho) (b2i res) := by
  refine enterI (cc := cX4_areHostile) (nL := 3) (ret := (some .boolean)) (by decide) rfl (Nat.le_of_ble_eq_true rfl) (fun p e s m below meth c A C => ?_)
  refine r_lv (lv' := [(0, .ref p0), (1, .int x1), (2, .int x2)]) [0, 1, 2] rfl ?_
  unfold fX4_areHostile at h
  refine r_aload_n C dX4_areHostile_0 0 rfl rfl ?_
  refine r_iload_n C dX4_areHostile_1 1 rfl rfl ?_
  obtain ⟨u1, hu1, h⟩ := ob_bind h
  refine r_readVI (q0 := 0) (As := [.int x1]) (rest := []) C (kX4_has (p0 := p0) (p1 := p1) (p2 := p2) (p3 := p3) (p4 := p4) (tubs := tubs) (pegs := pegs) (pwi := pwi) (flags := flags) (pco := pco) (pcl := pcl) (phr := phr) (pho := pho) (x1 := x1) hu1) gX4_areHostile_X4_has rfl rfl rfl ⟨rfl, hd_X4_has⟩ ⟨by decide, by decide⟩ rfl rfl rfl rfl [0, 1, 2, 3, 4] (by decide) in_40 rfl (Nat.le_of_ble_eq_true rfl) dX4_areHostile_2 ⟨Nat.zero_le _, Nat.zero_le _⟩ ?_
  refine r_ifb_eq (tgt := 25) C dX4_areHostile_5 (by decide) (fun c2 => ?_) (fun c2 => ?_)
  · replace h := ob_bf h c2
    refine r_iconst (v := 0) C dX4_areHostile_25 ic_0 ?_
    have h9 := Option.some.inj h
    subst h9
    exact r_zret (b := false) C rfl dX4_areHostile_26
  · replace h := ob_t h c2
    refine r_aload_n C dX4_areHostile_8 0 rfl rfl ?_
    refine r_get (ci := 2) (CC := RX4) (T := TX4) (N := 8) (v := .ref p4) C hinX4_areHostile_X4 0 rfl rfl 7 (by decide) mX4_areHostile_1 rfl rfl dX4_areHostile_9 ?_
    refine r_iload_n C dX4_areHostile_12 1 rfl rfl ?_
    obtain ⟨hu3, h⟩ := ob_if h
    refine r_iald C 4 0 rfl rfl (inb_vp hu3) dX4_areHostile_13 ?_
    refine r_iload_n C dX4_areHostile_14 2 rfl rfl ?_
    refine r_ishr C dX4_areHostile_15 ?_
    refine r_iconst (v := 1) C dX4_areHostile_16 ic_1 ?_
    refine r_iand C dX4_areHostile_17 ?_
    refine r_if_eq (tgt := 25) C dX4_areHostile_18 (by decide) (fun c4 => ?_) (fun c4 => ?_)
    · replace h := ob_t h c4
      refine r_iconst (v := 0) C dX4_areHostile_25 ic_0 ?_
      have h9 := Option.some.inj h
      subst h9
      exact r_zret (b := false) C rfl dX4_areHostile_26
    · replace h := ob_f h c4
      refine r_iconst (v := 1) C dX4_areHostile_21 ic_1 ?_
      refine r_goto (tgt := 26) C dX4_areHostile_22 (by decide) ?_
      have h9 := Option.some.inj h
      subst h9
      exact r_zret (b := true) C rfl dX4_areHostile_26

/-! ===== FlagWash$Game.gain ===== -/
def fX3_gain  (x1 : Int32) (x2 : Int32) (x3 : Int32) (x4 : Int32) (flags : Int32) (phr : (Nat → Int32)) (pho : (Nat → Int32)) : Option (Int32) :=
 (if x3 = 0 then ((fX4_has x1 flags).bind fun u5 => (if u5 = true then (if inb x1 5 = true then (some (-(phr x1.toNatClampNeg))) else none)
 else (some (0 : Int32))))
 else (if x4 = 0 then (some (2 : Int32))
 else ((fX4_areHostile x1 x2 flags pho).bind fun u3 => (if u3 = true then (some (-5 : Int32))
 else (some (0 : Int32))))))
theorem hinX3_gain_X4 : ∀ w ∈ u_ws RX4 TX4 8, w ∈ wsX3_gain := fun w h => List.mem_cons_of_mem _ (List.mem_append_right _ h)
theorem mX3_gain_1 : Cond.fieldLink RX3 25 "FlagWash$Plan" "hours" "[I" ∈ wsX3_gain := List.mem_of_getElem? (i := 1) rfl
theorem hd_X3_gain : yX3_gain.cls ≠ "java/lang/invoke/MethodHandle" ∧ yX3_gain.cls ≠ "java/lang/invoke/VarHandle" ∧ (parseMethodDescriptor yX3_gain.desc).map (fun d => d.parameters.length) = some 5 := by decide +kernel
set_option maxHeartbeats 4000000 in
set_option maxRecDepth 100000 in
theorem kX3_gain {l : Launch} {D : va_G} {cyI cyZ cyW : ClassId} {zW zO : Nat} {p0 : Nat} {p1 : Nat} {p2 : Nat} {p3 : Nat} {p4 : Nat} {tubs : Int32} {pegs : Int32} {pwi : Int32} {flags : Int32} {pco : (Nat → Int32)} {pcl : (Nat → Int32)} {phr : (Nat → Int32)} {pho : (Nat → Int32)} {x1 : Int32} {x2 : Int32} {x3 : Int32} {x4 : Int32} {res : Int32} (h : fX3_gain x1 x2 x3 x4 flags phr pho = some res) : KI l yX3_gain wsX3_gain ({ frames := 2, cells := 0, slots := 0, locals := 43 } : Room) D (tyA cyI cyZ cyW) zW zO [.ref p0, .int x1, .int x2, .int x3, .int x4] (wP cyI cyZ cyW p0 p1 p2 p3 p4 tubs pegs pwi flags pco pcl phr pho) (wP cyI cyZ cyW p0 p1 p2 p3 p4 tubs pegs pwi flags pco pcl phr pho) res := by
  refine enterI (cc := cX3_gain) (nL := 5) (ret := (some .int)) (by decide) rfl (Nat.le_of_ble_eq_true rfl) (fun p e s m below meth c A C => ?_)
  refine r_lv (lv' := [(0, .ref p0), (1, .int x1), (2, .int x2), (3, .int x3), (4, .int x4)]) [0, 1, 2, 3, 4] rfl ?_
  unfold fX3_gain at h
  refine r_iload_n C dX3_gain_0 3 rfl rfl ?_
  refine r_if_ne (tgt := 24) C dX3_gain_1 (by decide) (fun c1 => ?_) (fun c1 => ?_)
  · replace h := ob_f h c1
    refine r_iload C dX3_gain_24 4 rfl ?_
    refine r_if_ne (tgt := 31) C dX3_gain_26 (by decide) (fun c2 => ?_) (fun c2 => ?_)
    · replace h := ob_f h c2
      refine r_aload_n C dX3_gain_31 0 rfl rfl ?_
      refine r_iload_n C dX3_gain_32 1 rfl rfl ?_
      refine r_iload_n C dX3_gain_33 2 rfl rfl ?_
      obtain ⟨u3, hu3, h⟩ := ob_bind h
      refine r_readVI (q0 := 0) (As := [.int x1, .int x2]) (rest := []) C (kX4_areHostile (p0 := p0) (p1 := p1) (p2 := p2) (p3 := p3) (p4 := p4) (tubs := tubs) (pegs := pegs) (pwi := pwi) (flags := flags) (pco := pco) (pcl := pcl) (phr := phr) (pho := pho) (x1 := x1) (x2 := x2) hu3) gX3_gain_X4_areHostile rfl rfl rfl ⟨rfl, hd_X4_areHostile⟩ ⟨by decide, by decide⟩ rfl rfl rfl rfl [0, 1, 2, 3, 4] (by decide) in_40 rfl (Nat.le_of_ble_eq_true rfl) dX3_gain_34 ⟨Nat.zero_le _, Nat.zero_le _⟩ ?_
      refine r_ifb_eq (tgt := 45) C dX3_gain_37 (by decide) (fun c4 => ?_) (fun c4 => ?_)
      · replace h := ob_bf h c4
        refine r_iconst (v := 0) C dX3_gain_45 ic_0 ?_
        have h9 := Option.some.inj h
        subst h9
        exact r_iret C rfl dX3_gain_46
      · replace h := ob_t h c4
        refine r_bipush (v := -5) C dX3_gain_40 bp_m5 ?_
        refine r_goto (tgt := 46) C dX3_gain_42 (by decide) ?_
        have h9 := Option.some.inj h
        subst h9
        exact r_iret C rfl dX3_gain_46
    · replace h := ob_t h c2
      refine r_iconst (v := 2) C dX3_gain_29 ic_2 ?_
      have h9 := Option.some.inj h
      subst h9
      exact r_iret C rfl dX3_gain_30
  · replace h := ob_t h c1
    refine r_aload_n C dX3_gain_4 0 rfl rfl ?_
    refine r_iload_n C dX3_gain_5 1 rfl rfl ?_
    obtain ⟨u5, hu5, h⟩ := ob_bind h
    refine r_readVI (q0 := 0) (As := [.int x1]) (rest := []) C (kX4_has (p0 := p0) (p1 := p1) (p2 := p2) (p3 := p3) (p4 := p4) (tubs := tubs) (pegs := pegs) (pwi := pwi) (flags := flags) (pco := pco) (pcl := pcl) (phr := phr) (pho := pho) (x1 := x1) hu5) gX3_gain_X4_has rfl rfl rfl ⟨rfl, hd_X4_has⟩ ⟨by decide, by decide⟩ rfl rfl rfl rfl [0, 1, 2, 3, 4] (by decide) in_40 rfl (Nat.le_of_ble_eq_true rfl) dX3_gain_6 ⟨Nat.zero_le _, Nat.zero_le _⟩ ?_
    refine r_ifb_eq (tgt := 22) C dX3_gain_9 (by decide) (fun c6 => ?_) (fun c6 => ?_)
    · replace h := ob_bf h c6
      refine r_iconst (v := 0) C dX3_gain_22 ic_0 ?_
      have h9 := Option.some.inj h
      subst h9
      exact r_iret C rfl dX3_gain_23
    · replace h := ob_t h c6
      refine r_aload_n C dX3_gain_12 0 rfl rfl ?_
      refine r_get (ci := 2) (CC := RX4) (T := TX4) (N := 8) (v := .ref p3) C hinX3_gain_X4 0 rfl rfl 6 (by decide) mX3_gain_1 rfl rfl dX3_gain_13 ?_
      refine r_iload_n C dX3_gain_16 1 rfl rfl ?_
      obtain ⟨hu7, h⟩ := ob_if h
      refine r_iald C 3 0 rfl rfl (inb_vp hu7) dX3_gain_17 ?_
      refine r_ineg C dX3_gain_18 ?_
      refine r_goto (tgt := 23) C dX3_gain_19 (by decide) ?_
      have h9 := Option.some.inj h
      subst h9
      exact r_iret C rfl dX3_gain_23
