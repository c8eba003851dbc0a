/-! ===== FlagWash$Wash.runInTubs ===== -/
def fX8_runInTubs_86 (rec55 : Int32 → (Nat → Int32) → Option ((Nat → Int32))) (x1 : Int32) (x2 : Int32) (wh : (Nat → Int32)) (co : (Nat → Int32)) (flags : Int32) : Option ((Nat → Int32)) :=
 (rec55 (x2 + (1 : Int32)) co)
def gX8_runInTubs_55 (rec55 : Int32 → (Nat → Int32) → Option ((Nat → Int32))) (x1 : Int32) (x2 : Int32) (wh : (Nat → Int32)) (co : (Nat → Int32)) (flags : Int32) : Option ((Nat → Int32)) :=
 (if flags ≤ x2 then (some co)
 else (if inb x2 5 = true then (if (wh x2.toNatClampNeg) = (1 : Int32) then (if inb x2 5 = true then (if inb x2 5 = true then (fX8_runInTubs_86 rec55 x1 x2 wh (upd co x2.toNatClampNeg ((co x2.toNatClampNeg) ||| x1)) flags) else none) else none)
 else (fX8_runInTubs_86 rec55 x1 x2 wh co flags)) else none))
def fX8_runInTubs_55  (x1 : Int32) (wh : (Nat → Int32)) (flags : Int32) : Nat → Int32 → (Nat → Int32) → Option ((Nat → Int32))
  | 0 => fun _ _ => none
  | n + 1 => fun x2 co => gX8_runInTubs_55 (fX8_runInTubs_55  x1 wh flags n) x1 x2 wh co flags
def fX8_runInTubs_47 (rec4 : Int32 → Int32 → Option ((Nat → Int32))) (x1 : Int32) (x2 : Int32) (wh : (Nat → Int32)) (co : (Nat → Int32)) (flags : Int32) (pcl : (Nat → Int32)) : Option ((Nat → Int32)) :=
 (rec4 x1 (x2 + (1 : Int32)))
def gX8_runInTubs_4 (rec4 : Int32 → Int32 → Option ((Nat → Int32))) (x1 : Int32) (x2 : Int32) (wh : (Nat → Int32)) (co : (Nat → Int32)) (flags : Int32) (pcl : (Nat → Int32)) : Option ((Nat → Int32)) :=
 (if flags ≤ x2 then (fX8_runInTubs_55  x1 wh flags FU (0 : Int32) co)
 else (if inb x2 5 = true then (if (wh x2.toNatClampNeg) = (1 : Int32) then (if inb x2 5 = true then (if (pcl x2.toNatClampNeg) = (3 : Int32) then (if inb x2 5 = true then (fX8_runInTubs_47 rec4 (x1 ||| (co x2.toNatClampNeg)) x2 wh co flags pcl) else none)
 else (fX8_runInTubs_47 rec4 x1 x2 wh co flags pcl)) else none)
 else (fX8_runInTubs_47 rec4 x1 x2 wh co flags pcl)) else none))
def fX8_runInTubs_4  (wh : (Nat → Int32)) (co : (Nat → Int32)) (flags : Int32) (pcl : (Nat → Int32)) : Nat → Int32 → Int32 → Option ((Nat → Int32))
  | 0 => fun _ _ => none
  | n + 1 => fun x1 x2 => gX8_runInTubs_4 (fX8_runInTubs_4  wh co flags pcl n) x1 x2 wh co flags pcl
def fX8_runInTubs  (wh : (Nat → Int32)) (co : (Nat → Int32)) (flags : Int32) (pcl : (Nat → Int32)) : Option ((Nat → Int32)) :=
 (fX8_runInTubs_4  wh co flags pcl FU (0 : Int32) (0 : Int32))
theorem hinX8_runInTubs_X8 : ∀ w ∈ u_ws RX8 TX8 6, w ∈ wsX8_runInTubs := fun w h => List.mem_cons_of_mem _ (List.mem_append_left _ (List.mem_append_right _ h))
theorem mX8_runInTubs_1 : Cond.fieldLink RX8 28 "FlagWash$Wash" "plan" "LFlagWash$Plan;" ∈ wsX8_runInTubs := List.mem_of_getElem? (i := 1) rfl
theorem hinX8_runInTubs_X4 : ∀ w ∈ u_ws RX4 TX4 8, w ∈ wsX8_runInTubs := fun w h => List.mem_cons_of_mem _ (List.mem_append_right _ h)
theorem mX8_runInTubs_2 : Cond.fieldLink RX8 42 "FlagWash$Plan" "flags" "I" ∈ wsX8_runInTubs := List.mem_of_getElem? (i := 2) rfl
theorem mX8_runInTubs_3 : Cond.fieldLink RX8 9 "FlagWash$Wash" "where" "[I" ∈ wsX8_runInTubs := List.mem_of_getElem? (i := 3) rfl
theorem mX8_runInTubs_4 : Cond.fieldLink RX8 93 "FlagWash$Plan" "cloth" "[I" ∈ wsX8_runInTubs := List.mem_of_getElem? (i := 4) rfl
theorem mX8_runInTubs_5 : Cond.fieldLink RX8 18 "FlagWash$Wash" "colours" "[I" ∈ wsX8_runInTubs := List.mem_of_getElem? (i := 5) rfl
theorem hd_X8_runInTubs : yX8_runInTubs.cls ≠ "java/lang/invoke/MethodHandle" ∧ yX8_runInTubs.cls ≠ "java/lang/invoke/VarHandle" ∧ (parseMethodDescriptor yX8_runInTubs.desc).map (fun d => d.parameters.length) = some 0 := by decide +kernel
set_option maxHeartbeats 4000000 in
set_option maxRecDepth 100000 in
theorem LX8_runInTubs_86 {p : Program} {l : Launch} {e : Env} {s : State} {m : MethodId} {args : Array Value} {below : List Frame} {meth : Method} {c : Code} {D : va_G} {cyI cyZ cyW : ClassId} {zW zO : Nat} {A : Nat → Prop} (C : Cx p s m args meth c cX8_runInTubs RX8 "runInTubs" wsX8_runInTubs none 3 D (tyA cyI cyZ cyW) zW zO A) {w0 : Nat} {w1 : Nat} {w2 : Nat} {w3 : Nat} {p0 : Nat} {p1 : Nat} {p2 : Nat} {p3 : Nat} {p4 : Nat} {wh : (Nat → Int32)} {lf : (Nat → Int32)} {co : (Nat → Int32)} {wi : Int32} {ho : Int32} {tubs : Int32} {pegs : Int32} {pwi : Int32} {flags : Int32} {pco : (Nat → Int32)} {pcl : (Nat → Int32)} {phr : (Nat → Int32)} {pho : (Nat → Int32)} {x1 : Int32} {x2 : Int32} {rec55 : Int32 → (Nat → Int32) → Option ((Nat → Int32))} {res : (Nat → Int32)} (hrec55 : ∀ (x2 : Int32) (co : (Nat → Int32)), rec55 x2 co = some res → Mx p l e ({ frames := 0, cells := 0, slots := 0, locals := 0 } : Room) s m args below meth c (MQ below (QV D (tyA cyI cyZ cyW) A (wWP cyI cyZ cyW w0 w1 w2 w3 p0 p1 p2 p3 p4 wh lf res wi ho tubs pegs pwi flags pco pcl phr pho)) args s 0 0 A) 3 D A 0 0 (wWP cyI cyZ cyW w0 w1 w2 w3 p0 p1 p2 p3 p4 wh lf co wi ho tubs pegs pwi flags pco pcl phr pho) 55 [(0, .ref w0), (1, .int x1), (2, .int x2)] []) (h : fX8_runInTubs_86 rec55 x1 x2 wh co flags = some res) : Mx p l e ({ frames := 0, cells := 0, slots := 0, locals := 0 } : Room) s m args below meth c (MQ below (QV D (tyA cyI cyZ cyW) A (wWP cyI cyZ cyW w0 w1 w2 w3 p0 p1 p2 p3 p4 wh lf res wi ho tubs pegs pwi flags pco pcl phr pho)) args s 0 0 A) 3 D A 0 0 (wWP cyI cyZ cyW w0 w1 w2 w3 p0 p1 p2 p3 p4 wh lf co wi ho tubs pegs pwi flags pco pcl phr pho) 86 [(0, .ref w0), (1, .int x1), (2, .int x2)] [] := by
  unfold fX8_runInTubs_86 at h
  refine r_iinc (v := 1) (lv' := [(2, .int (x2 + (1 : Int32))), (0, .ref w0), (1, .int x1)]) C dX8_runInTubs_86 2 rfl ic_1 (by decide) rfl ?_
  refine r_goto (tgt := 55) C dX8_runInTubs_89 (by decide) ?_
  refine r_lv (lv' := [(0, .ref w0), (1, .int x1), (2, .int (x2 + (1 : Int32)))]) [1, 2, 0] rfl ?_
  exact hrec55 (x2 + (1 : Int32)) co h
set_option maxHeartbeats 4000000 in
set_option maxRecDepth 100000 in
theorem LGX8_runInTubs_55 {p : Program} {l : Launch} {e : Env} {s : State} {m : MethodId} {args : Array Value} {below : List Frame} {meth : Method} {c : Code} {D : va_G} {cyI cyZ cyW : ClassId} {zW zO : Nat} {A : Nat → Prop} (C : Cx p s m args meth c cX8_runInTubs RX8 "runInTubs" wsX8_runInTubs none 3 D (tyA cyI cyZ cyW) zW zO A) {w0 : Nat} {w1 : Nat} {w2 : Nat} {w3 : Nat} {p0 : Nat} {p1 : Nat} {p2 : Nat} {p3 : Nat} {p4 : Nat} {wh : (Nat → Int32)} {lf : (Nat → Int32)} {co : (Nat → Int32)} {wi : Int32} {ho : Int32} {tubs : Int32} {pegs : Int32} {pwi : Int32} {flags : Int32} {pco : (Nat → Int32)} {pcl : (Nat → Int32)} {phr : (Nat → Int32)} {pho : (Nat → Int32)} {x1 : Int32} {x2 : Int32} {rec55 : Int32 → (Nat → Int32) → Option ((Nat → Int32))} {res : (Nat → Int32)} (hrec55 : ∀ (x2 : Int32) (co : (Nat → Int32)), rec55 x2 co = some res → Mx p l e ({ frames := 0, cells := 0, slots := 0, locals := 0 } : Room) s m args below meth c (MQ below (QV D (tyA cyI cyZ cyW) A (wWP cyI cyZ cyW w0 w1 w2 w3 p0 p1 p2 p3 p4 wh lf res wi ho tubs pegs pwi flags pco pcl phr pho)) args s 0 0 A) 3 D A 0 0 (wWP cyI cyZ cyW w0 w1 w2 w3 p0 p1 p2 p3 p4 wh lf co wi ho tubs pegs pwi flags pco pcl phr pho) 55 [(0, .ref w0), (1, .int x1), (2, .int x2)] []) (h : gX8_runInTubs_55 rec55 x1 x2 wh co flags = some res) : Mx p l e ({ frames := 0, cells := 0, slots := 0, locals := 0 } : Room) s m args below meth c (MQ below (QV D (tyA cyI cyZ cyW) A (wWP cyI cyZ cyW w0 w1 w2 w3 p0 p1 p2 p3 p4 wh lf res wi ho tubs pegs pwi flags pco pcl phr pho)) args s 0 0 A) 3 D A 0 0 (wWP cyI cyZ cyW w0 w1 w2 w3 p0 p1 p2 p3 p4 wh lf co wi ho tubs pegs pwi flags pco pcl phr pho) 55 [(0, .ref w0), (1, .int x1), (2, .int x2)] [] := by
  unfold gX8_runInTubs_55 at h
  refine r_iload_n C dX8_runInTubs_55 2 rfl rfl ?_
  refine r_aload_n C dX8_runInTubs_56 0 rfl rfl ?_
  refine r_get (ci := 5) (CC := RX8) (T := TX8) (N := 6) (v := .ref p0) C hinX8_runInTubs_X8 0 rfl rfl 0 (by decide) mX8_runInTubs_1 rfl rfl dX8_runInTubs_57 ?_
  refine r_get (ci := 2) (CC := RX4) (T := TX4) (N := 8) (v := .int flags) C hinX8_runInTubs_X4 4 rfl rfl 3 (by decide) mX8_runInTubs_2 rfl rfl dX8_runInTubs_60 ?_
  refine r_icmp_ge (tgt := 92) C dX8_runInTubs_63 (by decide) (fun c7 => ?_) (fun c7 => ?_)
  · replace h := ob_t h c7
    have h9 := Option.some.inj h
    subst h9
    exact r_vret C rfl dX8_runInTubs_92
  · replace h := ob_f h c7
    refine r_aload_n C dX8_runInTubs_66 0 rfl rfl ?_
    refine r_get (ci := 5) (CC := RX8) (T := TX8) (N := 6) (v := .ref w1) C hinX8_runInTubs_X8 0 rfl rfl 1 (by decide) mX8_runInTubs_3 rfl rfl dX8_runInTubs_67 ?_
    refine r_iload_n C dX8_runInTubs_70 2 rfl rfl ?_
    obtain ⟨hu8, h⟩ := ob_if h
    refine r_iald C 1 0 rfl rfl (inb_vp hu8) dX8_runInTubs_71 ?_
    refine r_iconst (v := 1) C dX8_runInTubs_72 ic_1 ?_
    refine r_icmp_ne (tgt := 86) C dX8_runInTubs_73 (by decide) (fun c9 => ?_) (fun c9 => ?_)
    · replace h := ob_f h c9
      refine r_lv (lv' := [(0, .ref w0), (1, .int x1), (2, .int x2)]) [0, 1, 2] rfl ?_
      exact LX8_runInTubs_86 C (x1 := x1) (x2 := x2) (wh := wh) (lf := lf) (co := co) (wi := wi) (ho := ho) (tubs := tubs) (pegs := pegs) (pwi := pwi) (flags := flags) (pco := pco) (pcl := pcl) (phr := phr) (pho := pho) hrec55 h
    · replace h := ob_t h c9
      refine r_aload_n C dX8_runInTubs_76 0 rfl rfl ?_
      refine r_get (ci := 5) (CC := RX8) (T := TX8) (N := 6) (v := .ref w3) C hinX8_runInTubs_X8 0 rfl rfl 3 (by decide) mX8_runInTubs_5 rfl rfl dX8_runInTubs_77 ?_
      refine r_iload_n C dX8_runInTubs_80 2 rfl rfl ?_
      refine r_dup2 C dX8_runInTubs_81 rfl rfl ?_
      obtain ⟨hu10, h⟩ := ob_if h
      refine r_iald C 3 0 rfl rfl (inb_vp hu10) dX8_runInTubs_82 ?_
      refine r_iload_n C dX8_runInTubs_83 1 rfl rfl ?_
      refine r_ior C dX8_runInTubs_84 ?_
      obtain ⟨hu11, h⟩ := ob_if h
      refine r_iast (ws1 := (wWP cyI cyZ cyW w0 w1 w2 w3 p0 p1 p2 p3 p4 wh lf (upd co x2.toNatClampNeg ((co x2.toNatClampNeg) ||| x1)) wi ho tubs pegs pwi flags pco pcl phr pho)) C 3 0 rfl rfl (inb_vp hu11) rfl dX8_runInTubs_85 ?_
      refine r_lv (lv' := [(0, .ref w0), (1, .int x1), (2, .int x2)]) [0, 1, 2] rfl ?_
      exact LX8_runInTubs_86 C (x1 := x1) (x2 := x2) (wh := wh) (lf := lf) (co := (upd co x2.toNatClampNeg ((co x2.toNatClampNeg) ||| x1))) (wi := wi) (ho := ho) (tubs := tubs) (pegs := pegs) (pwi := pwi) (flags := flags) (pco := pco) (pcl := pcl) (phr := phr) (pho := pho) hrec55 h
set_option maxHeartbeats 4000000 in
set_option maxRecDepth 100000 in
theorem LX8_runInTubs_55 {p : Program} {l : Launch} {e : Env} {s : State} {m : MethodId} {args : Array Value} {below : List Frame} {meth : Method} {c : Code} {D : va_G} {cyI cyZ cyW : ClassId} {zW zO : Nat} {A : Nat → Prop} (C : Cx p s m args meth c cX8_runInTubs RX8 "runInTubs" wsX8_runInTubs none 3 D (tyA cyI cyZ cyW) zW zO A) {w0 : Nat} {w1 : Nat} {w2 : Nat} {w3 : Nat} {p0 : Nat} {p1 : Nat} {p2 : Nat} {p3 : Nat} {p4 : Nat} {x1 : Int32} {wh : (Nat → Int32)} {lf : (Nat → Int32)} {wi : Int32} {ho : Int32} {tubs : Int32} {pegs : Int32} {pwi : Int32} {flags : Int32} {pco : (Nat → Int32)} {pcl : (Nat → Int32)} {phr : (Nat → Int32)} {pho : (Nat → Int32)}  {res : (Nat → Int32)}  : ∀ (n : Nat) (x2 : Int32) (co : (Nat → Int32)), fX8_runInTubs_55  x1 wh flags n x2 co = some res → Mx p l e ({ frames := 0, cells := 0, slots := 0, locals := 0 } : Room) s m args below meth c (MQ below (QV D (tyA cyI cyZ cyW) A (wWP cyI cyZ cyW w0 w1 w2 w3 p0 p1 p2 p3 p4 wh lf res wi ho tubs pegs pwi flags pco pcl phr pho)) args s 0 0 A) 3 D A 0 0 (wWP cyI cyZ cyW w0 w1 w2 w3 p0 p1 p2 p3 p4 wh lf co wi ho tubs pegs pwi flags pco pcl phr pho) 55 [(0, .ref w0), (1, .int x1), (2, .int x2)] [] := by
  intro n
  induction n with
  | zero => intro x2 co h; cases h
  | succ n ih => intro x2 co h; exact LGX8_runInTubs_55 C ih h
set_option maxHeartbeats 4000000 in
set_option maxRecDepth 100000 in
theorem LX8_runInTubs_47 {p : Program} {l : Launch} {e : Env} {s : State} {m : MethodId} {args : Array Value} {below : List Frame} {meth : Method} {c : Code} {D : va_G} {cyI cyZ cyW : ClassId} {zW zO : Nat} {A : Nat → Prop} (C : Cx p s m args meth c cX8_runInTubs RX8 "runInTubs" wsX8_runInTubs none 3 D (tyA cyI cyZ cyW) zW zO A) {w0 : Nat} {w1 : Nat} {w2 : Nat} {w3 : Nat} {p0 : Nat} {p1 : Nat} {p2 : Nat} {p3 : Nat} {p4 : Nat} {wh : (Nat → Int32)} {lf : (Nat → Int32)} {co : (Nat → Int32)} {wi : Int32} {ho : Int32} {tubs : Int32} {pegs : Int32} {pwi : Int32} {flags : Int32} {pco : (Nat → Int32)} {pcl : (Nat → Int32)} {phr : (Nat → Int32)} {pho : (Nat → Int32)} {x1 : Int32} {x2 : Int32} {rec4 : Int32 → Int32 → Option ((Nat → Int32))} {res : (Nat → Int32)} (hrec4 : ∀ (x1 : Int32) (x2 : Int32), rec4 x1 x2 = some res → Mx p l e ({ frames := 0, cells := 0, slots := 0, locals := 0 } : Room) s m args below meth c (MQ below (QV D (tyA cyI cyZ cyW) A (wWP cyI cyZ cyW w0 w1 w2 w3 p0 p1 p2 p3 p4 wh lf res wi ho tubs pegs pwi flags pco pcl phr pho)) args s 0 0 A) 3 D A 0 0 (wWP cyI cyZ cyW w0 w1 w2 w3 p0 p1 p2 p3 p4 wh lf co wi ho tubs pegs pwi flags pco pcl phr pho) 4 [(0, .ref w0), (1, .int x1), (2, .int x2)] []) (h : fX8_runInTubs_47 rec4 x1 x2 wh co flags pcl = some res) : Mx p l e ({ frames := 0, cells := 0, slots := 0, locals := 0 } : Room) s m args below meth c (MQ below (QV D (tyA cyI cyZ cyW) A (wWP cyI cyZ cyW w0 w1 w2 w3 p0 p1 p2 p3 p4 wh lf res wi ho tubs pegs pwi flags pco pcl phr pho)) args s 0 0 A) 3 D A 0 0 (wWP cyI cyZ cyW w0 w1 w2 w3 p0 p1 p2 p3 p4 wh lf co wi ho tubs pegs pwi flags pco pcl phr pho) 47 [(0, .ref w0), (1, .int x1), (2, .int x2)] [] := by
  unfold fX8_runInTubs_47 at h
  refine r_iinc (v := 1) (lv' := [(2, .int (x2 + (1 : Int32))), (0, .ref w0), (1, .int x1)]) C dX8_runInTubs_47 2 rfl ic_1 (by decide) rfl ?_
  refine r_goto (tgt := 4) C dX8_runInTubs_50 (by decide) ?_
  refine r_lv (lv' := [(0, .ref w0), (1, .int x1), (2, .int (x2 + (1 : Int32)))]) [1, 2, 0] rfl ?_
  exact hrec4 x1 (x2 + (1 : Int32)) h
set_option maxHeartbeats 4000000 in
set_option maxRecDepth 100000 in
theorem LGX8_runInTubs_4 {p : Program} {l : Launch} {e : Env} {s : State} {m : MethodId} {args : Array Value} {below : List Frame} {meth : Method} {c : Code} {D : va_G} {cyI cyZ cyW : ClassId} {zW zO : Nat} {A : Nat → Prop} (C : Cx p s m args meth c cX8_runInTubs RX8 "runInTubs" wsX8_runInTubs none 3 D (tyA cyI cyZ cyW) zW zO A) {w0 : Nat} {w1 : Nat} {w2 : Nat} {w3 : Nat} {p0 : Nat} {p1 : Nat} {p2 : Nat} {p3 : Nat} {p4 : Nat} {wh : (Nat → Int32)} {lf : (Nat → Int32)} {co : (Nat → Int32)} {wi : Int32} {ho : Int32} {tubs : Int32} {pegs : Int32} {pwi : Int32} {flags : Int32} {pco : (Nat → Int32)} {pcl : (Nat → Int32)} {phr : (Nat → Int32)} {pho : (Nat → Int32)} {x1 : Int32} {x2 : Int32} {rec4 : Int32 → Int32 → Option ((Nat → Int32))} {res : (Nat → Int32)} (hrec4 : ∀ (x1 : Int32) (x2 : Int32), rec4 x1 x2 = some res → Mx p l e ({ frames := 0, cells := 0, slots := 0, locals := 0 } : Room) s m args below meth c (MQ below (QV D (tyA cyI cyZ cyW) A (wWP cyI cyZ cyW w0 w1 w2 w3 p0 p1 p2 p3 p4 wh lf res wi ho tubs pegs pwi flags pco pcl phr pho)) args s 0 0 A) 3 D A 0 0 (wWP cyI cyZ cyW w0 w1 w2 w3 p0 p1 p2 p3 p4 wh lf co wi ho tubs pegs pwi flags pco pcl phr pho) 4 [(0, .ref w0), (1, .int x1), (2, .int x2)] []) (h : gX8_runInTubs_4 rec4 x1 x2 wh co flags pcl = some res) : Mx p l e ({ frames := 0, cells := 0, slots := 0, locals := 0 } : Room) s m args below meth c (MQ below (QV D (tyA cyI cyZ cyW) A (wWP cyI cyZ cyW w0 w1 w2 w3 p0 p1 p2 p3 p4 wh lf res wi ho tubs pegs pwi flags pco pcl phr pho)) args s 0 0 A) 3 D A 0 0 (wWP cyI cyZ cyW w0 w1 w2 w3 p0 p1 p2 p3 p4 wh lf co wi ho tubs pegs pwi flags pco pcl phr pho) 4 [(0, .ref w0), (1, .int x1), (2, .int x2)] [] := by
  unfold gX8_runInTubs_4 at h
  refine r_iload_n C dX8_runInTubs_4 2 rfl rfl ?_
  refine r_aload_n C dX8_runInTubs_5 0 rfl rfl ?_
  refine r_get (ci := 5) (CC := RX8) (T := TX8) (N := 6) (v := .ref p0) C hinX8_runInTubs_X8 0 rfl rfl 0 (by decide) mX8_runInTubs_1 rfl rfl dX8_runInTubs_6 ?_
  refine r_get (ci := 2) (CC := RX4) (T := TX4) (N := 8) (v := .int flags) C hinX8_runInTubs_X4 4 rfl rfl 3 (by decide) mX8_runInTubs_2 rfl rfl dX8_runInTubs_9 ?_
  refine r_icmp_ge (tgt := 53) C dX8_runInTubs_12 (by decide) (fun c1 => ?_) (fun c1 => ?_)
  · replace h := ob_t h c1
    refine r_iconst (v := 0) C dX8_runInTubs_53 ic_0 ?_
    refine r_istore_n (lv' := [(2, .int (0 : Int32)), (0, .ref w0), (1, .int x1)]) C dX8_runInTubs_54 rfl (by decide) rfl ?_
    refine r_lv (lv' := [(0, .ref w0), (1, .int x1), (2, .int (0 : Int32))]) [1, 2, 0] rfl ?_
    exact LX8_runInTubs_55 C (x1 := x1) (wh := wh) (lf := lf) (wi := wi) (ho := ho) (tubs := tubs) (pegs := pegs) (pwi := pwi) (flags := flags) (pco := pco) (pcl := pcl) (phr := phr) (pho := pho)  FU (0 : Int32) co h
  · replace h := ob_f h c1
    refine r_aload_n C dX8_runInTubs_15 0 rfl rfl ?_
    refine r_get (ci := 5) (CC := RX8) (T := TX8) (N := 6) (v := .ref w1) C hinX8_runInTubs_X8 0 rfl rfl 1 (by decide) mX8_runInTubs_3 rfl rfl dX8_runInTubs_16 ?_
    refine r_iload_n C dX8_runInTubs_19 2 rfl rfl ?_
    obtain ⟨hu2, h⟩ := ob_if h
    refine r_iald C 1 0 rfl rfl (inb_vp hu2) dX8_runInTubs_20 ?_
    refine r_iconst (v := 1) C dX8_runInTubs_21 ic_1 ?_
    refine r_icmp_ne (tgt := 47) C dX8_runInTubs_22 (by decide) (fun c3 => ?_) (fun c3 => ?_)
    · replace h := ob_f h c3
      refine r_lv (lv' := [(0, .ref w0), (1, .int x1), (2, .int x2)]) [0, 1, 2] rfl ?_
      exact LX8_runInTubs_47 C (x1 := x1) (x2 := x2) (wh := wh) (lf := lf) (co := co) (wi := wi) (ho := ho) (tubs := tubs) (pegs := pegs) (pwi := pwi) (flags := flags) (pco := pco) (pcl := pcl) (phr := phr) (pho := pho) hrec4 h
    · replace h := ob_t h c3
      refine r_aload_n C dX8_runInTubs_25 0 rfl rfl ?_
      refine r_get (ci := 5) (CC := RX8) (T := TX8) (N := 6) (v := .ref p0) C hinX8_runInTubs_X8 0 rfl rfl 0 (by decide) mX8_runInTubs_1 rfl rfl dX8_runInTubs_26 ?_
      refine r_get (ci := 2) (CC := RX4) (T := TX4) (N := 8) (v := .ref p2) C hinX8_runInTubs_X4 4 rfl rfl 5 (by decide) mX8_runInTubs_4 rfl rfl dX8_runInTubs_29 ?_
      refine r_iload_n C dX8_runInTubs_32 2 rfl rfl ?_
      obtain ⟨hu4, h⟩ := ob_if h
      refine r_iald C 6 0 rfl rfl (inb_vp hu4) dX8_runInTubs_33 ?_
      refine r_iconst (v := 3) C dX8_runInTubs_34 ic_3 ?_
      refine r_icmp_ne (tgt := 47) C dX8_runInTubs_35 (by decide) (fun c5 => ?_) (fun c5 => ?_)
      · replace h := ob_f h c5
        refine r_lv (lv' := [(0, .ref w0), (1, .int x1), (2, .int x2)]) [0, 1, 2] rfl ?_
        exact LX8_runInTubs_47 C (x1 := x1) (x2 := x2) (wh := wh) (lf := lf) (co := co) (wi := wi) (ho := ho) (tubs := tubs) (pegs := pegs) (pwi := pwi) (flags := flags) (pco := pco) (pcl := pcl) (phr := phr) (pho := pho) hrec4 h
      · replace h := ob_t h c5
        refine r_iload_n C dX8_runInTubs_38 1 rfl rfl ?_
        refine r_aload_n C dX8_runInTubs_39 0 rfl rfl ?_
        refine r_get (ci := 5) (CC := RX8) (T := TX8) (N := 6) (v := .ref w3) C hinX8_runInTubs_X8 0 rfl rfl 3 (by decide) mX8_runInTubs_5 rfl rfl dX8_runInTubs_40 ?_
        refine r_iload_n C dX8_runInTubs_43 2 rfl rfl ?_
        obtain ⟨hu6, h⟩ := ob_if h
        refine r_iald C 3 0 rfl rfl (inb_vp hu6) dX8_runInTubs_44 ?_
        refine r_ior C dX8_runInTubs_45 ?_
        refine r_istore_n (lv' := [(1, .int (x1 ||| (co x2.toNatClampNeg))), (0, .ref w0), (2, .int x2)]) C dX8_runInTubs_46 rfl (by decide) rfl ?_
        refine r_lv (lv' := [(0, .ref w0), (1, .int (x1 ||| (co x2.toNatClampNeg))), (2, .int x2)]) [1, 0, 2] rfl ?_
        exact LX8_runInTubs_47 C (x1 := (x1 ||| (co x2.toNatClampNeg))) (x2 := x2) (wh := wh) (lf := lf) (co := co) (wi := wi) (ho := ho) (tubs := tubs) (pegs := pegs) (pwi := pwi) (flags := flags) (pco := pco) (pcl := pcl) (phr := phr) (pho := pho) hrec4 h
set_option maxHeartbeats 4000000 in
set_option maxRecDepth 100000 in
theorem LX8_runInTubs_4 {p : Program} {l : Launch} {e : Env} {s : State} {m : MethodId} {args : Array Value} {below : List Frame} {meth : Method} {c : Code} {D : va_G} {cyI cyZ cyW : ClassId} {zW zO : Nat} {A : Nat → Prop} (C : Cx p s m args meth c cX8_runInTubs RX8 "runInTubs" wsX8_runInTubs none 3 D (tyA cyI cyZ cyW) zW zO A) {w0 : Nat} {w1 : Nat} {w2 : Nat} {w3 : Nat} {p0 : Nat} {p1 : Nat} {p2 : Nat} {p3 : Nat} {p4 : Nat} {wh : (Nat → Int32)} {lf : (Nat → Int32)} {co : (Nat → Int32)} {wi : Int32} {ho : Int32} {tubs : Int32} {pegs : Int32} {pwi : Int32} {flags : Int32} {pco : (Nat → Int32)} {pcl : (Nat → Int32)} {phr : (Nat → Int32)} {pho : (Nat → Int32)}  {res : (Nat → Int32)}  : ∀ (n : Nat) (x1 : Int32) (x2 : Int32), fX8_runInTubs_4  wh co flags pcl n x1 x2 = some res → Mx p l e ({ frames := 0, cells := 0, slots := 0, locals := 0 } : Room) s m args below meth c (MQ below (QV D (tyA cyI cyZ cyW) A (wWP cyI cyZ cyW w0 w1 w2 w3 p0 p1 p2 p3 p4 wh lf res wi ho tubs pegs pwi flags pco pcl phr pho)) args s 0 0 A) 3 D A 0 0 (wWP cyI cyZ cyW w0 w1 w2 w3 p0 p1 p2 p3 p4 wh lf co wi ho tubs pegs pwi flags pco pcl phr pho) 4 [(0, .ref w0), (1, .int x1), (2, .int x2)] [] := by
  intro n
  induction n with
  | zero => intro x1 x2 h; cases h
  | succ n ih => intro x1 x2 h; exact LGX8_runInTubs_4 C ih h
set_option maxHeartbeats 4000000 in
set_option maxRecDepth 100000 in
theorem kX8_runInTubs {l : Launch} {D : va_G} {cyI cyZ cyW : ClassId} {zW zO : Nat} {w0 : Nat} {w1 : Nat} {w2 : Nat} {w3 : Nat} {p0 : Nat} {p1 : Nat} {p2 : Nat} {p3 : Nat} {p4 : Nat} {wh : (Nat → Int32)} {lf : (Nat → Int32)} {co : (Nat → Int32)} {wi : Int32} {ho : Int32} {tubs : Int32} {pegs : Int32} {pwi : Int32} {flags : Int32} {pco : (Nat → Int32)} {pcl : (Nat → Int32)} {phr : (Nat → Int32)} {pho : (Nat → Int32)}  {res : (Nat → Int32)} (h : fX8_runInTubs wh co flags pcl = some res) : KV l yX8_runInTubs wsX8_runInTubs ({ frames := 0, cells := 0, slots := 0, locals := 0 } : Room) D (tyA cyI cyZ cyW) zW zO [.ref w0] (wWP cyI cyZ cyW w0 w1 w2 w3 p0 p1 p2 p3 p4 wh lf co wi ho tubs pegs pwi flags pco pcl phr pho) (wWP cyI cyZ cyW w0 w1 w2 w3 p0 p1 p2 p3 p4 wh lf res wi ho tubs pegs pwi flags pco pcl phr pho) := by
  refine enterV (cc := cX8_runInTubs) (nL := 3) (ret := none) (by decide) rfl (Nat.le_of_ble_eq_true rfl) (fun p e s m below meth c A C => ?_)
  refine r_lv (lv' := [(0, .ref w0)]) [0] rfl ?_
  unfold fX8_runInTubs at h
  refine r_iconst (v := 0) C dX8_runInTubs_0 ic_0 ?_
  refine r_istore_n (lv' := [(1, .int (0 : Int32)), (0, .ref w0)]) C dX8_runInTubs_1 rfl (by decide) rfl ?_
  refine r_iconst (v := 0) C dX8_runInTubs_2 ic_0 ?_
  refine r_istore_n (lv' := [(2, .int (0 : Int32)), (1, .int (0 : Int32)), (0, .ref w0)]) C dX8_runInTubs_3 rfl (by decide) rfl ?_
  refine r_lv (lv' := [(0, .ref w0), (1, .int (0 : Int32)), (2, .int (0 : Int32))]) [2, 1, 0] rfl ?_
  exact LX8_runInTubs_4 C (wh := wh) (lf := lf) (co := co) (wi := wi) (ho := ho) (tubs := tubs) (pegs := pegs) (pwi := pwi) (flags := flags) (pco := pco) (pcl := pcl) (phr := phr) (pho := pho)  FU (0 : Int32) (0 : Int32) h

/-! ===== FlagWash$Wash.washInTubs ===== -/
def fX8_washInTubs_42 (rec2 : Int32 → (Nat → Int32) → Option ((Nat → Int32))) (x1 : Int32) (wh : (Nat → Int32)) (lf : (Nat → Int32)) (flags : Int32) : Option ((Nat → Int32)) :=
 (rec2 (x1 + (1 : Int32)) lf)
def gX8_washInTubs_2 (rec2 : Int32 → (Nat → Int32) → Option ((Nat → Int32))) (x1 : Int32) (wh : (Nat → Int32)) (lf : (Nat → Int32)) (flags : Int32) : Option ((Nat → Int32)) :=
 (if flags ≤ x1 then (some lf)
 else (if inb x1 5 = true then (if (wh x1.toNatClampNeg) = (1 : Int32) then (if inb x1 5 = true then (if (lf x1.toNatClampNeg) ≤ 0 then (fX8_washInTubs_42 rec2 x1 wh lf flags)
 else (if inb x1 5 = true then (if inb x1 5 = true then (fX8_washInTubs_42 rec2 x1 wh (upd lf x1.toNatClampNeg ((lf x1.toNatClampNeg) - (1 : Int32))) flags) else none) else none)) else none)
 else (fX8_washInTubs_42 rec2 x1 wh lf flags)) else none))
def fX8_washInTubs_2  (wh : (Nat → Int32)) (flags : Int32) : Nat → Int32 → (Nat → Int32) → Option ((Nat → Int32))
  | 0 => fun _ _ => none
  | n + 1 => fun x1 lf => gX8_washInTubs_2 (fX8_washInTubs_2  wh flags n) x1 wh lf flags
def fX8_washInTubs  (wh : (Nat → Int32)) (lf : (Nat → Int32)) (flags : Int32) : Option ((Nat → Int32)) :=
 (fX8_washInTubs_2  wh flags FU (0 : Int32) lf)
theorem hinX8_washInTubs_X8 : ∀ w ∈ u_ws RX8 TX8 6, w ∈ wsX8_washInTubs := fun w h => List.mem_cons_of_mem _ (List.mem_append_left _ (List.mem_append_right _ h))
theorem mX8_washInTubs_1 : Cond.fieldLink RX8 28 "FlagWash$Wash" "plan" "LFlagWash$Plan;" ∈ wsX8_washInTubs := List.mem_of_getElem? (i := 1) rfl
theorem hinX8_washInTubs_X4 : ∀ w ∈ u_ws RX4 TX4 8, w ∈ wsX8_washInTubs := fun w h => List.mem_cons_of_mem _ (List.mem_append_right _ h)
theorem mX8_washInTubs_2 : Cond.fieldLink RX8 42 "FlagWash$Plan" "flags" "I" ∈ wsX8_washInTubs := List.mem_of_getElem? (i := 2) rfl
theorem mX8_washInTubs_3 : Cond.fieldLink RX8 9 "FlagWash$Wash" "where" "[I" ∈ wsX8_washInTubs := List.mem_of_getElem? (i := 3) rfl
theorem mX8_washInTubs_4 : Cond.fieldLink RX8 15 "FlagWash$Wash" "left" "[I" ∈ wsX8_washInTubs := List.mem_of_getElem? (i := 4) rfl
theorem hd_X8_washInTubs : yX8_washInTubs.cls ≠ "java/lang/invoke/MethodHandle" ∧ yX8_washInTubs.cls ≠ "java/lang/invoke/VarHandle" ∧ (parseMethodDescriptor yX8_washInTubs.desc).map (fun d => d.parameters.length) = some 0 := by decide +kernel
set_option maxHeartbeats 4000000 in
set_option maxRecDepth 100000 in
theorem LX8_washInTubs_42 {p : Program} {l : Launch} {e : Env} {s : State} {m : MethodId} {args : Array Value} {below : List Frame} {meth : Method} {c : Code} {D : va_G} {cyI cyZ cyW : ClassId} {zW zO : Nat} {A : Nat → Prop} (C : Cx p s m args meth c cX8_washInTubs RX8 "washInTubs" wsX8_washInTubs none 2 D (tyA cyI cyZ cyW) zW zO A) {w0 : Nat} {w1 : Nat} {w2 : Nat} {w3 : Nat} {p0 : Nat} {p1 : Nat} {p2 : Nat} {p3 : Nat} {p4 : Nat} {wh : (Nat → Int32)} {lf : (Nat → Int32)} {co : (Nat → Int32)} {wi : Int32} {ho : Int32} {tubs : Int32} {pegs : Int32} {pwi : Int32} {flags : Int32} {pco : (Nat → Int32)} {pcl : (Nat → Int32)} {phr : (Nat → Int32)} {pho : (Nat → Int32)} {x1 : Int32} {rec2 : Int32 → (Nat → Int32) → Option ((Nat → Int32))} {res : (Nat → Int32)} (hrec2 : ∀ (x1 : Int32) (lf : (Nat → Int32)), rec2 x1 lf = some res → Mx p l e ({ frames := 0, cells := 0, slots := 0, locals := 0 } : Room) s m args below meth c (MQ below (QV D (tyA cyI cyZ cyW) A (wWP cyI cyZ cyW w0 w1 w2 w3 p0 p1 p2 p3 p4 wh res co wi ho tubs pegs pwi flags pco pcl phr pho)) args s 0 0 A) 2 D A 0 0 (wWP cyI cyZ cyW w0 w1 w2 w3 p0 p1 p2 p3 p4 wh lf co wi ho tubs pegs pwi flags pco pcl phr pho) 2 [(0, .ref w0), (1, .int x1)] []) (h : fX8_washInTubs_42 rec2 x1 wh lf flags = some res) : Mx p l e ({ frames := 0, cells := 0, slots := 0, locals := 0 } : Room) s m args below meth c (MQ below (QV D (tyA cyI cyZ cyW) A (wWP cyI cyZ cyW w0 w1 w2 w3 p0 p1 p2 p3 p4 wh res co wi ho tubs pegs pwi flags pco pcl phr pho)) args s 0 0 A) 2 D A 0 0 (wWP cyI cyZ cyW w0 w1 w2 w3 p0 p1 p2 p3 p4 wh lf co wi ho tubs pegs pwi flags pco pcl phr pho) 42 [(0, .ref w0), (1, .int x1)] [] := by
  unfold fX8_washInTubs_42 at h
  refine r_iinc (v := 1) (lv' := [(1, .int (x1 + (1 : Int32))), (0, .ref w0)]) C dX8_washInTubs_42 1 rfl ic_1 (by decide) rfl ?_
  refine r_goto (tgt := 2) C dX8_washInTubs_45 (by decide) ?_
  refine r_lv (lv' := [(0, .ref w0), (1, .int (x1 + (1 : Int32)))]) [1, 0] rfl ?_
  exact hrec2 (x1 + (1 : Int32)) lf h
set_option maxHeartbeats 4000000 in
set_option maxRecDepth 100000 in
theorem LGX8_washInTubs_2 {p : Program} {l : Launch} {e : Env} {s : State} {m : MethodId} {args : Array Value} {below : List Frame} {meth : Method} {c : Code} {D : va_G} {cyI cyZ cyW : ClassId} {zW zO : Nat} {A : Nat → Prop} (C : Cx p s m args meth c cX8_washInTubs RX8 "washInTubs" wsX8_washInTubs none 2 D (tyA cyI cyZ cyW) zW zO A) {w0 : Nat} {w1 : Nat} {w2 : Nat} {w3 : Nat} {p0 : Nat} {p1 : Nat} {p2 : Nat} {p3 : Nat} {p4 : Nat} {wh : (Nat → Int32)} {lf : (Nat → Int32)} {co : (Nat → Int32)} {wi : Int32} {ho : Int32} {tubs : Int32} {pegs : Int32} {pwi : Int32} {flags : Int32} {pco : (Nat → Int32)} {pcl : (Nat → Int32)} {phr : (Nat → Int32)} {pho : (Nat → Int32)} {x1 : Int32} {rec2 : Int32 → (Nat → Int32) → Option ((Nat → Int32))} {res : (Nat → Int32)} (hrec2 : ∀ (x1 : Int32) (lf : (Nat → Int32)), rec2 x1 lf = some res → Mx p l e ({ frames := 0, cells := 0, slots := 0, locals := 0 } : Room) s m args below meth c (MQ below (QV D (tyA cyI cyZ cyW) A (wWP cyI cyZ cyW w0 w1 w2 w3 p0 p1 p2 p3 p4 wh res co wi ho tubs pegs pwi flags pco pcl phr pho)) args s 0 0 A) 2 D A 0 0 (wWP cyI cyZ cyW w0 w1 w2 w3 p0 p1 p2 p3 p4 wh lf co wi ho tubs pegs pwi flags pco pcl phr pho) 2 [(0, .ref w0), (1, .int x1)] []) (h : gX8_washInTubs_2 rec2 x1 wh lf flags = some res) : Mx p l e ({ frames := 0, cells := 0, slots := 0, locals := 0 } : Room) s m args below meth c (MQ below (QV D (tyA cyI cyZ cyW) A (wWP cyI cyZ cyW w0 w1 w2 w3 p0 p1 p2 p3 p4 wh res co wi ho tubs pegs pwi flags pco pcl phr pho)) args s 0 0 A) 2 D A 0 0 (wWP cyI cyZ cyW w0 w1 w2 w3 p0 p1 p2 p3 p4 wh lf co wi ho tubs pegs pwi flags pco pcl phr pho) 2 [(0, .ref w0), (1, .int x1)] [] := by
  unfold gX8_washInTubs_2 at h
  refine r_iload_n C dX8_washInTubs_2 1 rfl rfl ?_
  refine r_aload_n C dX8_washInTubs_3 0 rfl rfl ?_
  refine r_get (ci := 5) (CC := RX8) (T := TX8) (N := 6) (v := .ref p0) C hinX8_washInTubs_X8 0 rfl rfl 0 (by decide) mX8_washInTubs_1 rfl rfl dX8_washInTubs_4 ?_
  refine r_get (ci := 2) (CC := RX4) (T := TX4) (N := 8) (v := .int flags) C hinX8_washInTubs_X4 4 rfl rfl 3 (by decide) mX8_washInTubs_2 rfl rfl dX8_washInTubs_7 ?_
  refine r_icmp_ge (tgt := 48) C dX8_washInTubs_10 (by decide) (fun c1 => ?_) (fun c1 => ?_)
  · replace h := ob_t h c1
    have h9 := Option.some.inj h
    subst h9
    exact r_vret C rfl dX8_washInTubs_48
  · replace h := ob_f h c1
    refine r_aload_n C dX8_washInTubs_13 0 rfl rfl ?_
    refine r_get (ci := 5) (CC := RX8) (T := TX8) (N := 6) (v := .ref w1) C hinX8_washInTubs_X8 0 rfl rfl 1 (by decide) mX8_washInTubs_3 rfl rfl dX8_washInTubs_14 ?_
    refine r_iload_n C dX8_washInTubs_17 1 rfl rfl ?_
    obtain ⟨hu2, h⟩ := ob_if h
    refine r_iald C 1 0 rfl rfl (inb_vp hu2) dX8_washInTubs_18 ?_
    refine r_iconst (v := 1) C dX8_washInTubs_19 ic_1 ?_
    refine r_icmp_ne (tgt := 42) C dX8_washInTubs_20 (by decide) (fun c3 => ?_) (fun c3 => ?_)
    · replace h := ob_f h c3
      refine r_lv (lv' := [(0, .ref w0), (1, .int x1)]) [0, 1] rfl ?_
      exact LX8_washInTubs_42 C (x1 := x1) (wh := wh) (lf := lf) (co := co) (wi := wi) (ho := ho) (tubs := tubs) (pegs := pegs) (pwi := pwi) (flags := flags) (pco := pco) (pcl := pcl) (phr := phr) (pho := pho) hrec2 h
    · replace h := ob_t h c3
      refine r_aload_n C dX8_washInTubs_23 0 rfl rfl ?_
      refine r_get (ci := 5) (CC := RX8) (T := TX8) (N := 6) (v := .ref w2) C hinX8_washInTubs_X8 0 rfl rfl 2 (by decide) mX8_washInTubs_4 rfl rfl dX8_washInTubs_24 ?_
      refine r_iload_n C dX8_washInTubs_27 1 rfl rfl ?_
      obtain ⟨hu4, h⟩ := ob_if h
      refine r_iald C 2 0 rfl rfl (inb_vp hu4) dX8_washInTubs_28 ?_
      refine r_if_le (tgt := 42) C dX8_washInTubs_29 (by decide) (fun c5 => ?_) (fun c5 => ?_)
      · replace h := ob_t h c5
        refine r_lv (lv' := [(0, .ref w0), (1, .int x1)]) [0, 1] rfl ?_
        exact LX8_washInTubs_42 C (x1 := x1) (wh := wh) (lf := lf) (co := co) (wi := wi) (ho := ho) (tubs := tubs) (pegs := pegs) (pwi := pwi) (flags := flags) (pco := pco) (pcl := pcl) (phr := phr) (pho := pho) hrec2 h
      · replace h := ob_f h c5
        refine r_aload_n C dX8_washInTubs_32 0 rfl rfl ?_
        refine r_get (ci := 5) (CC := RX8) (T := TX8) (N := 6) (v := .ref w2) C hinX8_washInTubs_X8 0 rfl rfl 2 (by decide) mX8_washInTubs_4 rfl rfl dX8_washInTubs_33 ?_
        refine r_iload_n C dX8_washInTubs_36 1 rfl rfl ?_
        refine r_dup2 C dX8_washInTubs_37 rfl rfl ?_
        obtain ⟨hu6, h⟩ := ob_if h
        refine r_iald C 2 0 rfl rfl (inb_vp hu6) dX8_washInTubs_38 ?_
        refine r_iconst (v := 1) C dX8_washInTubs_39 ic_1 ?_
        refine r_isub C dX8_washInTubs_40 ?_
        obtain ⟨hu7, h⟩ := ob_if h
        refine r_iast (ws1 := (wWP cyI cyZ cyW w0 w1 w2 w3 p0 p1 p2 p3 p4 wh (upd lf x1.toNatClampNeg ((lf x1.toNatClampNeg) - (1 : Int32))) co wi ho tubs pegs pwi flags pco pcl phr pho)) C 2 0 rfl rfl (inb_vp hu7) rfl dX8_washInTubs_41 ?_
        refine r_lv (lv' := [(0, .ref w0), (1, .int x1)]) [0, 1] rfl ?_
        exact LX8_washInTubs_42 C (x1 := x1) (wh := wh) (lf := (upd lf x1.toNatClampNeg ((lf x1.toNatClampNeg) - (1 : Int32)))) (co := co) (wi := wi) (ho := ho) (tubs := tubs) (pegs := pegs) (pwi := pwi) (flags := flags) (pco := pco) (pcl := pcl) (phr := phr) (pho := pho) hrec2 h
set_option maxHeartbeats 4000000 in
set_option maxRecDepth 100000 in
theorem LX8_washInTubs_2 {p : Program} {l : Launch} {e : Env} {s : State} {m : MethodId} {args : Array Value} {below : List Frame} {meth : Method} {c : Code} {D : va_G} {cyI cyZ cyW : ClassId} {zW zO : Nat} {A : Nat → Prop} (C : Cx p s m args meth c cX8_washInTubs RX8 "washInTubs" wsX8_washInTubs none 2 D (tyA cyI cyZ cyW) zW zO A) {w0 : Nat} {w1 : Nat} {w2 : Nat} {w3 : Nat} {p0 : Nat} {p1 : Nat} {p2 : Nat} {p3 : Nat} {p4 : Nat} {wh : (Nat → Int32)} {co : (Nat → Int32)} {wi : Int32} {ho : Int32} {tubs : Int32} {pegs : Int32} {pwi : Int32} {flags : Int32} {pco : (Nat → Int32)} {pcl : (Nat → Int32)} {phr : (Nat → Int32)} {pho : (Nat → Int32)}  {res : (Nat → Int32)}  : ∀ (n : Nat) (x1 : Int32) (lf : (Nat → Int32)), fX8_washInTubs_2  wh flags n x1 lf = some res → Mx p l e ({ frames := 0, cells := 0, slots := 0, locals := 0 } : Room) s m args below meth c (MQ below (QV D (tyA cyI cyZ cyW) A (wWP cyI cyZ cyW w0 w1 w2 w3 p0 p1 p2 p3 p4 wh res co wi ho tubs pegs pwi flags pco pcl phr pho)) args s 0 0 A) 2 D A 0 0 (wWP cyI cyZ cyW w0 w1 w2 w3 p0 p1 p2 p3 p4 wh lf co wi ho tubs pegs pwi flags pco pcl phr pho) 2 [(0, .ref w0), (1, .int x1)] [] := by
  intro n
  induction n with
  | zero => intro x1 lf h; cases h
  | succ n ih => intro x1 lf h; exact LGX8_washInTubs_2 C ih h
set_option maxHeartbeats 4000000 in
set_option maxRecDepth 100000 in
theorem kX8_washInTubs {l : Launch} {D : va_G} {cyI cyZ cyW : ClassId} {zW zO : Nat} {w0 : Nat} {w1 : Nat} {w2 : Nat} {w3 : Nat} {p0 : Nat} {p1 : Nat} {p2 : Nat} {p3 : Nat} {p4 : Nat} {wh : (Nat → Int32)} {lf : (Nat → Int32)} {co : (Nat → Int32)} {wi : Int32} {ho : Int32} {tubs : Int32} {pegs : Int32} {pwi : Int32} {flags : Int32} {pco : (Nat → Int32)} {pcl : (Nat → Int32)} {phr : (Nat → Int32)} {pho : (Nat → Int32)}  {res : (Nat → Int32)} (h : fX8_washInTubs wh lf flags = some res) : KV l yX8_washInTubs wsX8_washInTubs ({ frames := 0, cells := 0, slots := 0, locals := 0 } : Room) D (tyA cyI cyZ cyW) zW zO [.ref w0] (wWP cyI cyZ cyW w0 w1 w2 w3 p0 p1 p2 p3 p4 wh lf co wi ho tubs pegs pwi flags pco pcl phr pho) (wWP cyI cyZ cyW w0 w1 w2 w3 p0 p1 p2 p3 p4 wh res co wi ho tubs pegs pwi flags pco pcl phr pho) := by
  refine enterV (cc := cX8_washInTubs) (nL := 2) (ret := none) (by decide) rfl (Nat.le_of_ble_eq_true rfl) (fun p e s m below meth c A C => ?_)
  refine r_lv (lv' := [(0, .ref w0)]) [0] rfl ?_
  unfold fX8_washInTubs at h
  refine r_iconst (v := 0) C dX8_washInTubs_0 ic_0 ?_
  refine r_istore_n (lv' := [(1, .int (0 : Int32)), (0, .ref w0)]) C dX8_washInTubs_1 rfl (by decide) rfl ?_
  refine r_lv (lv' := [(0, .ref w0), (1, .int (0 : Int32))]) [1, 0] rfl ?_
  exact LX8_washInTubs_2 C (wh := wh) (co := co) (wi := wi) (ho := ho) (tubs := tubs) (pegs := pegs) (pwi := pwi) (flags := flags) (pco := pco) (pcl := pcl) (phr := phr) (pho := pho)  FU (0 : Int32) lf h

/-! ===== FlagWash$Wash.freePegs ===== -/
def fX8_freePegs  (wh : (Nat → Int32)) (pegs : Int32) (flags : Int32) : Option (Int32) :=
 ((fX8_bitsAt (2 : Int32) wh flags).bind fun u1 => ((fJ6_bitCount_0f7a4 u1).bind fun u2 => (some (pegs - u2))))
theorem hinX8_freePegs_X8 : ∀ w ∈ u_ws RX8 TX8 6, w ∈ wsX8_freePegs := fun w h => List.mem_cons_of_mem _ (List.mem_append_left _ (List.mem_append_right _ h))
theorem mX8_freePegs_1 : Cond.fieldLink RX8 28 "FlagWash$Wash" "plan" "LFlagWash$Plan;" ∈ wsX8_freePegs := List.mem_of_getElem? (i := 1) rfl
theorem hinX8_freePegs_X4 : ∀ w ∈ u_ws RX4 TX4 8, w ∈ wsX8_freePegs := fun w h => List.mem_cons_of_mem _ (List.mem_append_right _ h)
theorem mX8_freePegs_2 : Cond.fieldLink RX8 57 "FlagWash$Plan" "pegs" "I" ∈ wsX8_freePegs := List.mem_of_getElem? (i := 2) rfl
theorem hd_X8_freePegs : yX8_freePegs.cls ≠ "java/lang/invoke/MethodHandle" ∧ yX8_freePegs.cls ≠ "java/lang/invoke/VarHandle" ∧ (parseMethodDescriptor yX8_freePegs.desc).map (fun d => d.parameters.length) = some 0 := by decide +kernel
set_option maxHeartbeats 4000000 in
set_option maxRecDepth 100000 in
theorem kX8_freePegs {l : Launch} {D : va_G} {cyI cyZ cyW : ClassId} {zW zO : Nat} {w0 : Nat} {w1 : Nat} {w2 : Nat} {w3 : Nat} {p0 : Nat} {p1 : Nat} {p2 : Nat} {p3 : Nat} {p4 : Nat} {wh : (Nat → Int32)} {lf : (Nat → Int32)} {co : (Nat → Int32)} {wi : Int32} {ho : Int32} {tubs : Int32} {pegs : Int32} {pwi : Int32} {flags : Int32} {pco : (Nat → Int32)} {pcl : (Nat → Int32)} {phr : (Nat → Int32)} {pho : (Nat → Int32)}  {res : Int32} (h : fX8_freePegs wh pegs flags = some res) : KI l yX8_freePegs wsX8_freePegs ({ frames := 1, cells := 0, slots := 0, locals := 23 } : Room) D (tyA cyI cyZ cyW) zW zO [.ref w0] (wWP cyI cyZ cyW w0 w1 w2 w3 p0 p1 p2 p3 p4 wh lf co wi ho tubs pegs pwi flags pco pcl phr pho) (wWP cyI cyZ cyW w0 w1 w2 w3 p0 p1 p2 p3 p4 wh lf co wi ho tubs pegs pwi flags pco pcl phr pho) res := by
  refine enterI (cc := cX8_freePegs) (nL := 1) (ret := (some .int)) (by decide) rfl (Nat.le_of_ble_eq_true rfl) (fun p e s m below meth c A C => ?_)
  refine r_lv (lv' := [(0, .ref w0)]) [0] rfl ?_
  unfold fX8_freePegs at h
  refine r_aload_n C dX8_freePegs_0 0 rfl rfl ?_
  refine r_get (ci := 5) (CC := RX8) (T := TX8) (N := 6) (v := .ref p0) C hinX8_freePegs_X8 0 rfl rfl 0 (by decide) mX8_freePegs_1 rfl rfl dX8_freePegs_1 ?_
  refine r_get (ci := 2) (CC := RX4) (T := TX4) (N := 8) (v := .int pegs) C hinX8_freePegs_X4 4 rfl rfl 1 (by decide) mX8_freePegs_2 rfl rfl dX8_freePegs_4 ?_
  refine r_aload_n C dX8_freePegs_7 0 rfl rfl ?_
  refine r_iconst (v := 2) C dX8_freePegs_8 ic_2 ?_
  obtain ⟨u1, hu1, h⟩ := ob_bind h
  refine r_readVI (q0 := 0) (As := [.int (2 : Int32)]) (rest := [.int pegs]) C (kX8_bitsAt (w0 := w0) (w1 := w1) (w2 := w2) (w3 := w3) (p0 := p0) (p1 := p1) (p2 := p2) (p3 := p3) (p4 := p4) (wh := wh) (lf := lf) (co := co) (wi := wi) (ho := ho) (tubs := tubs) (pegs := pegs) (pwi := pwi) (flags := flags) (pco := pco) (pcl := pcl) (phr := phr) (pho := pho) (x1 := (2 : Int32)) hu1) gX8_freePegs_X8_bitsAt rfl rfl rfl ⟨rfl, hd_X8_bitsAt⟩ ⟨by decide, by decide⟩ rfl rfl rfl rfl [0, 1, 2, 3, 4, 5, 6, 7, 8] (by decide) in_29 rfl (Nat.le_of_ble_eq_true rfl) dX8_freePegs_9 ⟨Nat.zero_le _, Nat.zero_le _⟩ ?_
  obtain ⟨u2, hu2, h⟩ := ob_bind h
  refine r_readSI (As := [.int u1]) (rest := [.int pegs]) C (kJ6_bitCount_0f7a4   (x0 := u1) hu2) gX8_freePegs_J6_bitCount_0f7a4 rfl rfl rfl hd_J6_bitCount_0f7a4 ⟨by decide, by decide⟩ rfl [] (by decide) rfl rfl (Nat.le_of_ble_eq_true rfl) dX8_freePegs_12 ⟨Nat.zero_le _, Nat.zero_le _⟩ ?_
  refine r_isub C dX8_freePegs_15 ?_
  have h9 := Option.some.inj h
  subst h9
  exact r_iret C rfl dX8_freePegs_16

/-! ===== FlagWash$Wash.wetOf ===== -/
def fX8_wetOf  (x0 : Int32) : Option (Int32) :=
 (if x0 < 0 then (some (0 : Int32))
 else (if (4 : Int32) ≤ x0 then (some (0 : Int32))
 else (if inb x0 4 = true then (some (wetT x0.toNatClampNeg)) else none)))
theorem mX8_wetOf_1 : Cond.fieldLink RX8 102 "FlagWash$Wash" "WET" "[I" ∈ wsX8_wetOf := List.mem_of_getElem? (i := 1) rfl
theorem hd_X8_wetOf : yX8_wetOf.cls ≠ "java/lang/invoke/MethodHandle" ∧ yX8_wetOf.cls ≠ "java/lang/invoke/VarHandle" ∧ (parseMethodDescriptor yX8_wetOf.desc).map (fun d => d.parameters.length) = some 1 := by decide +kernel
set_option maxHeartbeats 4000000 in
set_option maxRecDepth 100000 in
theorem kX8_wetOf {l : Launch} {D : va_G} {cyI cyZ cyW : ClassId} {zW zO : Nat}   {x0 : Int32} {res : Int32} (h : fX8_wetOf x0 = some res) : KI l yX8_wetOf wsX8_wetOf ({ frames := 0, cells := 0, slots := 0, locals := 0 } : Room) D (tyA cyI cyZ cyW) zW zO [.int x0] ([] : va_W) ([] : va_W) res := by
  refine enterI (cc := cX8_wetOf) (nL := 1) (ret := (some .int)) (by decide) rfl (Nat.le_of_ble_eq_true rfl) (fun p e s m below meth c A C => ?_)
  refine r_lv (lv' := [(0, .int x0)]) [0] rfl ?_
  unfold fX8_wetOf at h
  refine r_iload_n C dX8_wetOf_0 0 rfl rfl ?_
  refine r_if_lt (tgt := 20) C dX8_wetOf_1 (by decide) (fun c1 => ?_) (fun c1 => ?_)
  · replace h := ob_t h c1
    refine r_iconst (v := 0) C dX8_wetOf_20 ic_0 ?_
    have h9 := Option.some.inj h
    subst h9
    exact r_iret C rfl dX8_wetOf_21
  · replace h := ob_f h c1
    refine r_iload_n C dX8_wetOf_4 0 rfl rfl ?_
    refine r_getsW C mX8_wetOf_1 dX8_wetOf_5 ?_
    refine r_tlW C dX8_wetOf_8 ?_
    refine r_icmp_ge (tgt := 20) C dX8_wetOf_9 (by decide) (fun c2 => ?_) (fun c2 => ?_)
    · replace h := ob_t h c2
      refine r_iconst (v := 0) C dX8_wetOf_20 ic_0 ?_
      have h9 := Option.some.inj h
      subst h9
      exact r_iret C rfl dX8_wetOf_21
    · replace h := ob_f h c2
      refine r_getsW C mX8_wetOf_1 dX8_wetOf_12 ?_
      refine r_iload_n C dX8_wetOf_15 0 rfl rfl ?_
      obtain ⟨hu3, h⟩ := ob_if h
      refine r_tiW C (inb_vp hu3) dX8_wetOf_16 ?_
      refine r_goto (tgt := 21) C dX8_wetOf_17 (by decide) ?_
      have h9 := Option.some.inj h
      subst h9
      exact r_iret C rfl dX8_wetOf_21

/-! ===== FlagWash$Wash.hangUp ===== -/
def fX8_hangUp_64 (rec2 : Int32 → (Nat → Int32) → (Nat → Int32) → Option ((Nat → Int32) × (Nat → Int32))) (x1 : Int32) (wh : (Nat → Int32)) (lf : (Nat → Int32)) (pegs : Int32) (flags : Int32) (pcl : (Nat → Int32)) : Option ((Nat → Int32) × (Nat → Int32)) :=
 (rec2 (x1 + (1 : Int32)) wh lf)
def gX8_hangUp_2 (rec2 : Int32 → (Nat → Int32) → (Nat → Int32) → Option ((Nat → Int32) × (Nat → Int32))) (x1 : Int32) (wh : (Nat → Int32)) (lf : (Nat → Int32)) (pegs : Int32) (flags : Int32) (pcl : (Nat → Int32)) : Option ((Nat → Int32) × (Nat → Int32)) :=
 (if flags ≤ x1 then (some (wh, lf))
 else (if inb x1 5 = true then (if (wh x1.toNatClampNeg) = (1 : Int32) then (if inb x1 5 = true then (if (lf x1.toNatClampNeg) = 0 then ((fX8_freePegs wh pegs flags).bind fun u6 => (if u6 ≤ 0 then (fX8_hangUp_64 rec2 x1 wh lf pegs flags pcl)
 else (if inb x1 5 = true then (if inb x1 5 = true then ((fX8_wetOf (pcl x1.toNatClampNeg)).bind fun u10 => (if inb x1 5 = true then (fX8_hangUp_64 rec2 x1 (upd wh x1.toNatClampNeg (2 : Int32)) (upd lf x1.toNatClampNeg u10) pegs flags pcl) else none)) else none) else none)))
 else (fX8_hangUp_64 rec2 x1 wh lf pegs flags pcl)) else none)
 else (fX8_hangUp_64 rec2 x1 wh lf pegs flags pcl)) else none))
def fX8_hangUp_2  (pegs : Int32) (flags : Int32) (pcl : (Nat → Int32)) : Nat → Int32 → (Nat → Int32) → (Nat → Int32) → Option ((Nat → Int32) × (Nat → Int32))
  | 0 => fun _ _ _ => none
  | n + 1 => fun x1 wh lf => gX8_hangUp_2 (fX8_hangUp_2  pegs flags pcl n) x1 wh lf pegs flags pcl
def fX8_hangUp  (wh : (Nat → Int32)) (lf : (Nat → Int32)) (pegs : Int32) (flags : Int32) (pcl : (Nat → Int32)) : Option ((Nat → Int32) × (Nat → Int32)) :=
 (fX8_hangUp_2  pegs flags pcl FU (0 : Int32) wh lf)
theorem hinX8_hangUp_X8 : ∀ w ∈ u_ws RX8 TX8 6, w ∈ wsX8_hangUp := fun w h => List.mem_cons_of_mem _ (List.mem_append_left _ (List.mem_append_right _ h))
theorem mX8_hangUp_1 : Cond.fieldLink RX8 28 "FlagWash$Wash" "plan" "LFlagWash$Plan;" ∈ wsX8_hangUp := List.mem_of_getElem? (i := 1) rfl
theorem hinX8_hangUp_X4 : ∀ w ∈ u_ws RX4 TX4 8, w ∈ wsX8_hangUp := fun w h => List.mem_cons_of_mem _ (List.mem_append_right _ h)
theorem mX8_hangUp_2 : Cond.fieldLink RX8 42 "FlagWash$Plan" "flags" "I" ∈ wsX8_hangUp := List.mem_of_getElem? (i := 2) rfl
theorem mX8_hangUp_3 : Cond.fieldLink RX8 9 "FlagWash$Wash" "where" "[I" ∈ wsX8_hangUp := List.mem_of_getElem? (i := 3) rfl
theorem mX8_hangUp_4 : Cond.fieldLink RX8 15 "FlagWash$Wash" "left" "[I" ∈ wsX8_hangUp := List.mem_of_getElem? (i := 4) rfl
theorem mX8_hangUp_5 : Cond.fieldLink RX8 93 "FlagWash$Plan" "cloth" "[I" ∈ wsX8_hangUp := List.mem_of_getElem? (i := 5) rfl
theorem hd_X8_hangUp : yX8_hangUp.cls ≠ "java/lang/invoke/MethodHandle" ∧ yX8_hangUp.cls ≠ "java/lang/invoke/VarHandle" ∧ (parseMethodDescriptor yX8_hangUp.desc).map (fun d => d.parameters.length) = some 0 := by decide +kernel
set_option maxHeartbeats 4000000 in
set_option maxRecDepth 100000 in
theorem LX8_hangUp_64 {p : Program} {l : Launch} {e : Env} {s : State} {m : MethodId} {args : Array Value} {below : List Frame} {meth : Method} {c : Code} {D : va_G} {cyI cyZ cyW : ClassId} {zW zO : Nat} {A : Nat → Prop} (C : Cx p s m args meth c cX8_hangUp RX8 "hangUp" wsX8_hangUp none 2 D (tyA cyI cyZ cyW) zW zO A) {w0 : Nat} {w1 : Nat} {w2 : Nat} {w3 : Nat} {p0 : Nat} {p1 : Nat} {p2 : Nat} {p3 : Nat} {p4 : Nat} {wh : (Nat → Int32)} {lf : (Nat → Int32)} {co : (Nat → Int32)} {wi : Int32} {ho : Int32} {tubs : Int32} {pegs : Int32} {pwi : Int32} {flags : Int32} {pco : (Nat → Int32)} {pcl : (Nat → Int32)} {phr : (Nat → Int32)} {pho : (Nat → Int32)} {x1 : Int32} {rec2 : Int32 → (Nat → Int32) → (Nat → Int32) → Option ((Nat → Int32) × (Nat → Int32))} {res : (Nat → Int32) × (Nat → Int32)} (hrec2 : ∀ (x1 : Int32) (wh : (Nat → Int32)) (lf : (Nat → Int32)), rec2 x1 wh lf = some res → Mx p l e ({ frames := 2, cells := 0, slots := 0, locals := 43 } : Room) s m args below meth c (MQ below (QV D (tyA cyI cyZ cyW) A (wWP cyI cyZ cyW w0 w1 w2 w3 p0 p1 p2 p3 p4 res.1 res.2 co wi ho tubs pegs pwi flags pco pcl phr pho)) args s 0 0 A) 2 D A 0 0 (wWP cyI cyZ cyW w0 w1 w2 w3 p0 p1 p2 p3 p4 wh lf co wi ho tubs pegs pwi flags pco pcl phr pho) 2 [(0, .ref w0), (1, .int x1)] []) (h : fX8_hangUp_64 rec2 x1 wh lf pegs flags pcl = some res) : Mx p l e ({ frames := 2, cells := 0, slots := 0, locals := 43 } : Room) s m args below meth c (MQ below (QV D (tyA cyI cyZ cyW) A (wWP cyI cyZ cyW w0 w1 w2 w3 p0 p1 p2 p3 p4 res.1 res.2 co wi ho tubs pegs pwi flags pco pcl phr pho)) args s 0 0 A) 2 D A 0 0 (wWP cyI cyZ cyW w0 w1 w2 w3 p0 p1 p2 p3 p4 wh lf co wi ho tubs pegs pwi flags pco pcl phr pho) 64 [(0, .ref w0), (1, .int x1)] [] := by
  unfold fX8_hangUp_64 at h
  refine r_iinc (v := 1) (lv' := [(1, .int (x1 + (1 : Int32))), (0, .ref w0)]) C dX8_hangUp_64 1 rfl ic_1 (by decide) rfl ?_
  refine r_goto (tgt := 2) C dX8_hangUp_67 (by decide) ?_
  refine r_lv (lv' := [(0, .ref w0), (1, .int (x1 + (1 : Int32)))]) [1, 0] rfl ?_
  exact hrec2 (x1 + (1 : Int32)) wh lf h
set_option maxHeartbeats 4000000 in
set_option maxRecDepth 100000 in
theorem LGX8_hangUp_2 {p : Program} {l : Launch} {e : Env} {s : State} {m : MethodId} {args : Array Value} {below : List Frame} {meth : Method} {c : Code} {D : va_G} {cyI cyZ cyW : ClassId} {zW zO : Nat} {A : Nat → Prop} (C : Cx p s m args meth c cX8_hangUp RX8 "hangUp" wsX8_hangUp none 2 D (tyA cyI cyZ cyW) zW zO A) {w0 : Nat} {w1 : Nat} {w2 : Nat} {w3 : Nat} {p0 : Nat} {p1 : Nat} {p2 : Nat} {p3 : Nat} {p4 : Nat} {wh : (Nat → Int32)} {lf : (Nat → Int32)} {co : (Nat → Int32)} {wi : Int32} {ho : Int32} {tubs : Int32} {pegs : Int32} {pwi : Int32} {flags : Int32} {pco : (Nat → Int32)} {pcl : (Nat → Int32)} {phr : (Nat → Int32)} {pho : (Nat → Int32)} {x1 : Int32} {rec2 : Int32 → (Nat → Int32) → (Nat → Int32) → Option ((Nat → Int32) × (Nat → Int32))} {res : (Nat → Int32) × (Nat → Int32)} (hrec2 : ∀ (x1 : Int32) (wh : (Nat → Int32)) (lf : (Nat → Int32)), rec2 x1 wh lf = some res → Mx p l e ({ frames := 2, cells := 0, slots := 0, locals := 43 } : Room) s m args below meth c (MQ below (QV D (tyA cyI cyZ cyW) A (wWP cyI cyZ cyW w0 w1 w2 w3 p0 p1 p2 p3 p4 res.1 res.2 co wi ho tubs pegs pwi flags pco pcl phr pho)) args s 0 0 A) 2 D A 0 0 (wWP cyI cyZ cyW w0 w1 w2 w3 p0 p1 p2 p3 p4 wh lf co wi ho tubs pegs pwi flags pco pcl phr pho) 2 [(0, .ref w0), (1, .int x1)] []) (h : gX8_hangUp_2 rec2 x1 wh lf pegs flags pcl = some res) : Mx p l e ({ frames := 2, cells := 0, slots := 0, locals := 43 } : Room) s m args below meth c (MQ below (QV D (tyA cyI cyZ cyW) A (wWP cyI cyZ cyW w0 w1 w2 w3 p0 p1 p2 p3 p4 res.1 res.2 co wi ho tubs pegs pwi flags pco pcl phr pho)) args s 0 0 A) 2 D A 0 0 (wWP cyI cyZ cyW w0 w1 w2 w3 p0 p1 p2 p3 p4 wh lf co wi ho tubs pegs pwi flags pco pcl phr pho) 2 [(0, .ref w0), (1, .int x1)] [] := by
  unfold gX8_hangUp_2 at h
  refine r_iload_n C dX8_hangUp_2 1 rfl rfl ?_
  refine r_aload_n C dX8_hangUp_3 0 rfl rfl ?_
  refine r_get (ci := 5) (CC := RX8) (T := TX8) (N := 6) (v := .ref p0) C hinX8_hangUp_X8 0 rfl rfl 0 (by decide) mX8_hangUp_1 rfl rfl dX8_hangUp_4 ?_
  refine r_get (ci := 2) (CC := RX4) (T := TX4) (N := 8) (v := .int flags) C hinX8_hangUp_X4 4 rfl rfl 3 (by decide) mX8_hangUp_2 rfl rfl dX8_hangUp_7 ?_
  refine r_icmp_ge (tgt := 70) C dX8_hangUp_10 (by decide) (fun c1 => ?_) (fun c1 => ?_)
  · replace h := ob_t h c1
    have h9 := Option.some.inj h
    subst h9
    exact r_vret C rfl dX8_hangUp_70
  · replace h := ob_f h c1
    refine r_aload_n C dX8_hangUp_13 0 rfl rfl ?_
    refine r_get (ci := 5) (CC := RX8) (T := TX8) (N := 6) (v := .ref w1) C hinX8_hangUp_X8 0 rfl rfl 1 (by decide) mX8_hangUp_3 rfl rfl dX8_hangUp_14 ?_
    refine r_iload_n C dX8_hangUp_17 1 rfl rfl ?_
    obtain ⟨hu2, h⟩ := ob_if h
    refine r_iald C 1 0 rfl rfl (inb_vp hu2) dX8_hangUp_18 ?_
    refine r_iconst (v := 1) C dX8_hangUp_19 ic_1 ?_
    refine r_icmp_ne (tgt := 64) C dX8_hangUp_20 (by decide) (fun c3 => ?_) (fun c3 => ?_)
    · replace h := ob_f h c3
      refine r_lv (lv' := [(0, .ref w0), (1, .int x1)]) [0, 1] rfl ?_
      exact LX8_hangUp_64 C (x1 := x1) (wh := wh) (lf := lf) (co := co) (wi := wi) (ho := ho) (tubs := tubs) (pegs := pegs) (pwi := pwi) (flags := flags) (pco := pco) (pcl := pcl) (phr := phr) (pho := pho) hrec2 h
    · replace h := ob_t h c3
      refine r_aload_n C dX8_hangUp_23 0 rfl rfl ?_
      refine r_get (ci := 5) (CC := RX8) (T := TX8) (N := 6) (v := .ref w2) C hinX8_hangUp_X8 0 rfl rfl 2 (by decide) mX8_hangUp_4 rfl rfl dX8_hangUp_24 ?_
      refine r_iload_n C dX8_hangUp_27 1 rfl rfl ?_
      obtain ⟨hu4, h⟩ := ob_if h
      refine r_iald C 2 0 rfl rfl (inb_vp hu4) dX8_hangUp_28 ?_
      refine r_if_ne (tgt := 64) C dX8_hangUp_29 (by decide) (fun c5 => ?_) (fun c5 => ?_)
      · replace h := ob_f h c5
        refine r_lv (lv' := [(0, .ref w0), (1, .int x1)]) [0, 1] rfl ?_
        exact LX8_hangUp_64 C (x1 := x1) (wh := wh) (lf := lf) (co := co) (wi := wi) (ho := ho) (tubs := tubs) (pegs := pegs) (pwi := pwi) (flags := flags) (pco := pco) (pcl := pcl) (phr := phr) (pho := pho) hrec2 h
      · replace h := ob_t h c5
        refine r_aload_n C dX8_hangUp_32 0 rfl rfl ?_
        obtain ⟨u6, hu6, h⟩ := ob_bind h
        refine r_readVI (q0 := 0) (As := []) (rest := []) C (kX8_freePegs (w0 := w0) (w1 := w1) (w2 := w2) (w3 := w3) (p0 := p0) (p1 := p1) (p2 := p2) (p3 := p3) (p4 := p4) (wh := wh) (lf := lf) (co := co) (wi := wi) (ho := ho) (tubs := tubs) (pegs := pegs) (pwi := pwi) (flags := flags) (pco := pco) (pcl := pcl) (phr := phr) (pho := pho)  hu6) gX8_hangUp_X8_freePegs rfl rfl rfl ⟨rfl, hd_X8_freePegs⟩ ⟨by decide, by decide⟩ rfl rfl rfl rfl [0, 1, 2, 3, 4, 5, 6, 7, 8] (by decide) in_29 rfl (Nat.le_of_ble_eq_true rfl) dX8_hangUp_33 ⟨Nat.zero_le _, Nat.zero_le _⟩ ?_
        refine r_if_le (tgt := 64) C dX8_hangUp_36 (by decide) (fun c7 => ?_) (fun c7 => ?_)
        · replace h := ob_t h c7
          refine r_lv (lv' := [(0, .ref w0), (1, .int x1)]) [0, 1] rfl ?_
          exact LX8_hangUp_64 C (x1 := x1) (wh := wh) (lf := lf) (co := co) (wi := wi) (ho := ho) (tubs := tubs) (pegs := pegs) (pwi := pwi) (flags := flags) (pco := pco) (pcl := pcl) (phr := phr) (pho := pho) hrec2 h
        · replace h := ob_f h c7
          refine r_aload_n C dX8_hangUp_39 0 rfl rfl ?_
          refine r_get (ci := 5) (CC := RX8) (T := TX8) (N := 6) (v := .ref w1) C hinX8_hangUp_X8 0 rfl rfl 1 (by decide) mX8_hangUp_3 rfl rfl dX8_hangUp_40 ?_
          refine r_iload_n C dX8_hangUp_43 1 rfl rfl ?_
          refine r_iconst (v := 2) C dX8_hangUp_44 ic_2 ?_
          obtain ⟨hu8, h⟩ := ob_if h
          refine r_iast (ws1 := (wWP cyI cyZ cyW w0 w1 w2 w3 p0 p1 p2 p3 p4 (upd wh x1.toNatClampNeg (2 : Int32)) lf co wi ho tubs pegs pwi flags pco pcl phr pho)) C 1 0 rfl rfl (inb_vp hu8) rfl dX8_hangUp_45 ?_
          refine r_aload_n C dX8_hangUp_46 0 rfl rfl ?_
          refine r_get (ci := 5) (CC := RX8) (T := TX8) (N := 6) (v := .ref w2) C hinX8_hangUp_X8 0 rfl rfl 2 (by decide) mX8_hangUp_4 rfl rfl dX8_hangUp_47 ?_
          refine r_iload_n C dX8_hangUp_50 1 rfl rfl ?_
          refine r_aload_n C dX8_hangUp_51 0 rfl rfl ?_
          refine r_get (ci := 5) (CC := RX8) (T := TX8) (N := 6) (v := .ref p0) C hinX8_hangUp_X8 0 rfl rfl 0 (by decide) mX8_hangUp_1 rfl rfl dX8_hangUp_52 ?_
          refine r_get (ci := 2) (CC := RX4) (T := TX4) (N := 8) (v := .ref p2) C hinX8_hangUp_X4 4 rfl rfl 5 (by decide) mX8_hangUp_5 rfl rfl dX8_hangUp_55 ?_
          refine r_iload_n C dX8_hangUp_58 1 rfl rfl ?_
          obtain ⟨hu9, h⟩ := ob_if h
          refine r_iald C 6 0 rfl rfl (inb_vp hu9) dX8_hangUp_59 ?_
          obtain ⟨u10, hu10, h⟩ := ob_bind h
          refine r_readSI (As := [.int (pcl x1.toNatClampNeg)]) (rest := [.int x1, .ref w2]) C (kX8_wetOf   (x0 := (pcl x1.toNatClampNeg)) hu10) gX8_hangUp_X8_wetOf rfl rfl rfl hd_X8_wetOf ⟨by decide, by decide⟩ rfl [] (by decide) rfl rfl (Nat.le_of_ble_eq_true rfl) dX8_hangUp_60 ⟨Nat.zero_le _, Nat.zero_le _⟩ ?_
          obtain ⟨hu11, h⟩ := ob_if h
          refine r_iast (ws1 := (wWP cyI cyZ cyW w0 w1 w2 w3 p0 p1 p2 p3 p4 (upd wh x1.toNatClampNeg (2 : Int32)) (upd lf x1.toNatClampNeg u10) co wi ho tubs pegs pwi flags pco pcl phr pho)) C 2 0 rfl rfl (inb_vp hu11) rfl dX8_hangUp_63 ?_
          refine r_lv (lv' := [(0, .ref w0), (1, .int x1)]) [0, 1] rfl ?_
          exact LX8_hangUp_64 C (x1 := x1) (wh := (upd wh x1.toNatClampNeg (2 : Int32))) (lf := (upd lf x1.toNatClampNeg u10)) (co := co) (wi := wi) (ho := ho) (tubs := tubs) (pegs := pegs) (pwi := pwi) (flags := flags) (pco := pco) (pcl := pcl) (phr := phr) (pho := pho) hrec2 h
set_option maxHeartbeats 4000000 in
set_option maxRecDepth 100000 in
theorem LX8_hangUp_2 {p : Program} {l : Launch} {e : Env} {s : State} {m : MethodId} {args : Array Value} {below : List Frame} {meth : Method} {c : Code} {D : va_G} {cyI cyZ cyW : ClassId} {zW zO : Nat} {A : Nat → Prop} (C : Cx p s m args meth c cX8_hangUp RX8 "hangUp" wsX8_hangUp none 2 D (tyA cyI cyZ cyW) zW zO A) {w0 : Nat} {w1 : Nat} {w2 : Nat} {w3 : Nat} {p0 : Nat} {p1 : Nat} {p2 : Nat} {p3 : Nat} {p4 : Nat} {co : (Nat → Int32)} {wi : Int32} {ho : Int32} {tubs : Int32} {pegs : Int32} {pwi : Int32} {flags : Int32} {pco : (Nat → Int32)} {pcl : (Nat → Int32)} {phr : (Nat → Int32)} {pho : (Nat → Int32)}  {res : (Nat → Int32) × (Nat → Int32)}  : ∀ (n : Nat) (x1 : Int32) (wh : (Nat → Int32)) (lf : (Nat → Int32)), fX8_hangUp_2  pegs flags pcl n x1 wh lf = some res → Mx p l e ({ frames := 2, cells := 0, slots := 0, locals := 43 } : Room) s m args below meth c (MQ below (QV D (tyA cyI cyZ cyW) A (wWP cyI cyZ cyW w0 w1 w2 w3 p0 p1 p2 p3 p4 res.1 res.2 co wi ho tubs pegs pwi flags pco pcl phr pho)) args s 0 0 A) 2 D A 0 0 (wWP cyI cyZ cyW w0 w1 w2 w3 p0 p1 p2 p3 p4 wh lf co wi ho tubs pegs pwi flags pco pcl phr pho) 2 [(0, .ref w0), (1, .int x1)] [] := by
  intro n
  induction n with
  | zero => intro x1 wh lf h; cases h
  | succ n ih => intro x1 wh lf h; exact LGX8_hangUp_2 C ih h
set_option maxHeartbeats 4000000 in
set_option maxRecDepth 100000 in
theorem kX8_hangUp {l : Launch} {D : va_G} {cyI cyZ cyW : ClassId} {zW zO : Nat} {w0 : Nat} {w1 : Nat} {w2 : Nat} {w3 : Nat} {p0 : Nat} {p1 : Nat} {p2 : Nat} {p3 : Nat} {p4 : Nat} {wh : (Nat → Int32)} {lf : (Nat → Int32)} {co : (Nat → Int32)} {wi : Int32} {ho : Int32} {tubs : Int32} {pegs : Int32} {pwi : Int32} {flags : Int32} {pco : (Nat → Int32)} {pcl : (Nat → Int32)} {phr : (Nat → Int32)} {pho : (Nat → Int32)}  {res : (Nat → Int32) × (Nat → Int32)} (h : fX8_hangUp wh lf pegs flags pcl = some res) : KV l yX8_hangUp wsX8_hangUp ({ frames := 2, cells := 0, slots := 0, locals := 43 } : Room) D (tyA cyI cyZ cyW) zW zO [.ref w0] (wWP cyI cyZ cyW w0 w1 w2 w3 p0 p1 p2 p3 p4 wh lf co wi ho tubs pegs pwi flags pco pcl phr pho) (wWP cyI cyZ cyW w0 w1 w2 w3 p0 p1 p2 p3 p4 res.1 res.2 co wi ho tubs pegs pwi flags pco pcl phr pho) := by
  refine enterV (cc := cX8_hangUp) (nL := 2) (ret := none) (by decide) rfl (Nat.le_of_ble_eq_true rfl) (fun p e s m below meth c A C => ?_)
  refine r_lv (lv' := [(0, .ref w0)]) [0] rfl ?_
  unfold fX8_hangUp at h
  refine r_iconst (v := 0) C dX8_hangUp_0 ic_0 ?_
  refine r_istore_n (lv' := [(1, .int (0 : Int32)), (0, .ref w0)]) C dX8_hangUp_1 rfl (by decide) rfl ?_
  refine r_lv (lv' := [(0, .ref w0), (1, .int (0 : Int32))]) [1, 0] rfl ?_
  exact LX8_hangUp_2 C (co := co) (wi := wi) (ho := ho) (tubs := tubs) (pegs := pegs) (pwi := pwi) (flags := flags) (pco := pco) (pcl := pcl) (phr := phr) (pho := pho)  FU (0 : Int32) wh lf h
