/-! ===== FlagWash$Acts.forgetAll ===== -/
def fX0_forgetAll   : Option (Int32 × Int32) :=
 (some ((0 : Int32), (0 : Int32)))
theorem hinX0_forgetAll_X0 : ∀ w ∈ u_ws RX0 TX0 3, w ∈ wsX0_forgetAll := fun w h => List.mem_cons_of_mem _ (List.mem_append_right _ h)
theorem mX0_forgetAll_1 : Cond.fieldLink RX0 17 "FlagWash$Acts" "first" "I" ∈ wsX0_forgetAll := List.mem_of_getElem? (i := 1) rfl
theorem mX0_forgetAll_2 : Cond.fieldLink RX0 21 "FlagWash$Acts" "size" "I" ∈ wsX0_forgetAll := List.mem_of_getElem? (i := 2) rfl
theorem hd_X0_forgetAll : yX0_forgetAll.cls ≠ "java/lang/invoke/MethodHandle" ∧ yX0_forgetAll.cls ≠ "java/lang/invoke/VarHandle" ∧ (parseMethodDescriptor yX0_forgetAll.desc).map (fun d => d.parameters.length) = some 0 := by decide +kernel
set_option maxHeartbeats 4000000 in
set_option maxRecDepth 100000 in
theorem kX0_forgetAll {l : Launch} {D : va_G} {cyI cyZ cyW : ClassId} {zW zO : Nat} {a0 : Nat} {a1 : Nat} {first : Int32} {size : Int32}  {res : Int32 × Int32} (h : fX0_forgetAll  = some res) : KV l yX0_forgetAll wsX0_forgetAll ({ frames := 0, cells := 0, slots := 0, locals := 0 } : Room) D (tyA cyI cyZ cyW) zW zO [.ref a0] (wAO cyI cyZ cyW a0 a1 first size) (wAO cyI cyZ cyW a0 a1 res.1 res.2) := by
  refine enterV (cc := cX0_forgetAll) (nL := 1) (ret := none) (by decide) rfl (Nat.le_of_ble_eq_true rfl) (fun p e s m below meth c A C => ?_)
  refine r_lv (lv' := [(0, .ref a0)]) [0] rfl ?_
  unfold fX0_forgetAll at h
  refine r_aload_n C dX0_forgetAll_0 0 rfl rfl ?_
  refine r_iconst (v := 0) C dX0_forgetAll_1 ic_0 ?_
  refine r_put (ci := 0) (CC := RX0) (T := TX0) (N := 3) (v := .int (0 : Int32)) (ws1 := (wAO cyI cyZ cyW a0 a1 (0 : Int32) size)) (ty := .int) C hinX0_forgetAll_X0 tyX0 tyX0_ok nmX0 0 rfl rfl 1 (by decide) mX0_forgetAll_1 rfl rfl rfl rfl rfl (Nat.le_of_ble_eq_true rfl) rfl dX0_forgetAll_2 ?_
  refine r_aload_n C dX0_forgetAll_5 0 rfl rfl ?_
  refine r_iconst (v := 0) C dX0_forgetAll_6 ic_0 ?_
  refine r_put (ci := 0) (CC := RX0) (T := TX0) (N := 3) (v := .int (0 : Int32)) (ws1 := (wAO cyI cyZ cyW a0 a1 (0 : Int32) (0 : Int32))) (ty := .int) C hinX0_forgetAll_X0 tyX0 tyX0_ok nmX0 0 rfl rfl 2 (by decide) mX0_forgetAll_2 rfl rfl rfl rfl rfl (Nat.le_of_ble_eq_true rfl) rfl dX0_forgetAll_7 ?_
  have h9 := Option.some.inj h
  subst h9
  exact r_vret C rfl dX0_forgetAll_10

/-! ===== FlagWash$Acts.remember ===== -/
def fX0_remember_48  (y0 : Int32) (first : Int32) (size : Int32) (awh : (Nat → Nat → Int32)) (alf : (Nat → Nat → Int32)) (aco : (Nat → Nat → Int32)) (awi : (Nat → Int32)) (aho : (Nat → Int32)) (wh : (Nat → Int32)) (lf : (Nat → Int32)) (co : (Nat → Int32)) (wi : Int32) (ho : Int32) : Option (Int32 × Int32 × (Nat → Nat → Int32) × (Nat → Nat → Int32) × (Nat → Nat → Int32) × (Nat → Int32) × (Nat → Int32)) :=
 (if inb y0 14 = true then ((fX8_copyFrom (awh y0.toNatClampNeg) (alf y0.toNatClampNeg) (aco y0.toNatClampNeg) wh lf co wi ho).bind fun u3 => (some (first, (size + (1 : Int32)), (va_up awh y0.toNatClampNeg u3.1), (va_up alf y0.toNatClampNeg u3.2.1), (va_up aco y0.toNatClampNeg u3.2.2.1), (va_up awi y0.toNatClampNeg u3.2.2.2.1), (va_up aho y0.toNatClampNeg u3.2.2.2.2)))) else none)
def fX0_remember_32  (first : Int32) (size : Int32) (awh : (Nat → Nat → Int32)) (alf : (Nat → Nat → Int32)) (aco : (Nat → Nat → Int32)) (awi : (Nat → Int32)) (aho : (Nat → Int32)) (wh : (Nat → Int32)) (lf : (Nat → Int32)) (co : (Nat → Int32)) (wi : Int32) (ho : Int32) : Option (Int32 × Int32 × (Nat → Nat → Int32) × (Nat → Nat → Int32) × (Nat → Nat → Int32) × (Nat → Int32) × (Nat → Int32)) :=
 (fX0_remember_48  (jrem (first + size) (14 : Int32)) first size awh alf aco awi aho wh lf co wi ho)
def fX0_remember  (first : Int32) (size : Int32) (awh : (Nat → Nat → Int32)) (alf : (Nat → Nat → Int32)) (aco : (Nat → Nat → Int32)) (awi : (Nat → Int32)) (aho : (Nat → Int32)) (wh : (Nat → Int32)) (lf : (Nat → Int32)) (co : (Nat → Int32)) (wi : Int32) (ho : Int32) : Option (Int32 × Int32 × (Nat → Nat → Int32) × (Nat → Nat → Int32) × (Nat → Nat → Int32) × (Nat → Int32) × (Nat → Int32)) :=
 (if size = (14 : Int32) then (fX0_remember_32  (jrem (first + (1 : Int32)) (14 : Int32)) (size - (1 : Int32)) awh alf aco awi aho wh lf co wi ho)
 else (fX0_remember_32  first size awh alf aco awi aho wh lf co wi ho))
theorem hinX0_remember_X0 : ∀ w ∈ u_ws RX0 TX0 3, w ∈ wsX0_remember := fun w h => List.mem_cons_of_mem _ (List.mem_append_left _ (List.mem_append_right _ h))
theorem mX0_remember_1 : Cond.fieldLink RX0 21 "FlagWash$Acts" "size" "I" ∈ wsX0_remember := List.mem_of_getElem? (i := 1) rfl
theorem mX0_remember_2 : Cond.fieldLink RX0 17 "FlagWash$Acts" "first" "I" ∈ wsX0_remember := List.mem_of_getElem? (i := 2) rfl
theorem mX0_remember_3 : Cond.fieldLink RX0 11 "FlagWash$Acts" "before" "[LFlagWash$Wash;" ∈ wsX0_remember := List.mem_of_getElem? (i := 3) rfl
theorem hd_X0_remember : yX0_remember.cls ≠ "java/lang/invoke/MethodHandle" ∧ yX0_remember.cls ≠ "java/lang/invoke/VarHandle" ∧ (parseMethodDescriptor yX0_remember.desc).map (fun d => d.parameters.length) = some 1 := by decide +kernel
set_option maxHeartbeats 4000000 in
set_option maxRecDepth 100000 in
theorem LX0_remember_48 {p : Program} {l : Launch} {e : Env} {s : State} {m : MethodId} {args : Array Value} {below : List Frame} {meth : Method} {c : Code} {D : va_G} {cyI cyZ cyW : ClassId} {zW zO : Nat} {A : Nat → Prop} (C : Cx p s m args meth c cX0_remember RX0 "remember" wsX0_remember none 2 D (tyA cyI cyZ cyW) zW zO A) {a0 : Nat} {a1 : Nat} {aw : Nat → Nat} {w0 : Nat} {w1 : Nat} {w2 : Nat} {w3 : Nat} {p0 : Nat} {first : Int32} {size : Int32} {awh : (Nat → Nat → Int32)} {alf : (Nat → Nat → Int32)} {aco : (Nat → Nat → Int32)} {awi : (Nat → Int32)} {aho : (Nat → Int32)} {wh : (Nat → Int32)} {lf : (Nat → Int32)} {co : (Nat → Int32)} {wi : Int32} {ho : Int32} {y0 : Int32}  {res : Int32 × Int32 × (Nat → Nat → Int32) × (Nat → Nat → Int32) × (Nat → Nat → Int32) × (Nat → Int32) × (Nat → Int32)}  (h : fX0_remember_48  y0 first size awh alf aco awi aho wh lf co wi ho = some res) : Mx p l e ({ frames := 2, cells := 0, slots := 0, locals := 39 } : Room) s m args below meth c (MQ below (QV D (tyA cyI cyZ cyW) A (wAC cyI cyZ cyW a0 a1 aw w0 w1 w2 w3 p0 res.1 res.2.1 res.2.2.1 res.2.2.2.1 res.2.2.2.2.1 res.2.2.2.2.2.1 res.2.2.2.2.2.2 wh lf co wi ho)) args s 0 0 A) 2 D A 0 0 (wAC cyI cyZ cyW a0 a1 aw w0 w1 w2 w3 p0 first size awh alf aco awi aho wh lf co wi ho) 48 [(0, .ref a0), (1, .ref w0)] [.int y0, .ref a1] := by
  unfold fX0_remember_48 at h
  obtain ⟨hu2, h⟩ := ob_if h
  obtain ⟨j, hj, rfl⟩ := vp_in_of (inb_vp hu2) (by decide)
  simp only [nI_clamp (show j < 2 ^ 31 by omega)] at h
  rcases (show j = 0 ∨ j = 1 ∨ j = 2 ∨ j = 3 ∨ j = 4 ∨ j = 5 ∨ j = 6 ∨ j = 7 ∨ j = 8 ∨ j = 9 ∨ j = 10 ∨ j = 11 ∨ j = 12 ∨ j = 13 by omega) with rfl | rfl | rfl | rfl | rfl | rfl | rfl | rfl | rfl | rfl | rfl | rfl | rfl | rfl
  · refine r_aldq (b := (aw 0)) C 1 2 rfl rfl (inb_vp hu2) rfl dX0_remember_48 ?_
    refine r_aload_n C dX0_remember_49 1 rfl rfl ?_
    obtain ⟨u3, hu3, h⟩ := ob_bind h
    refine r_callVV (q0 := 0) (As := [.ref w0]) (rest := []) (ws1 := (wAC cyI cyZ cyW a0 a1 aw w0 w1 w2 w3 p0 first size (va_up awh 0 u3.1) (va_up alf 0 u3.2.1) (va_up aco 0 u3.2.2.1) (va_up awi 0 u3.2.2.2.1) (va_up aho 0 u3.2.2.2.2) wh lf co wi ho)) C (kX8_copyFrom (w0 := (aw 0)) (w1 := (aw 1)) (w2 := (aw 2)) (w3 := (aw 3)) (v0 := w0) (v1 := w1) (v2 := w2) (v3 := w3) (p0 := p0) (wh := (awh 0)) (lf := (alf 0)) (co := (aco 0)) (wi := (awi 0)) (ho := (aho 0)) (owh := wh) (olf := lf) (oco := co) (owi := wi) (oho := ho)  hu3) gX0_remember_X8_copyFrom rfl rfl rfl ⟨rfl, hd_X8_copyFrom⟩ ⟨by decide, by decide⟩ rfl rfl rfl rfl [2, 3, 4, 5, 58, 59, 60, 61] (by decide) in_0 se_0 (adrAC.trans adrAC.symm) rfl (Nat.le_of_ble_eq_true rfl) dX0_remember_50 ⟨Nat.zero_le _, Nat.zero_le _⟩ ?_
    refine r_aload_n C dX0_remember_53 0 rfl rfl ?_
    refine r_dup C dX0_remember_54 rfl ?_
    refine r_get (ci := 0) (CC := RX0) (T := TX0) (N := 3) (v := .int size) C hinX0_remember_X0 0 rfl rfl 2 (by decide) mX0_remember_1 rfl rfl dX0_remember_55 ?_
    refine r_iconst (v := 1) C dX0_remember_58 ic_1 ?_
    refine r_iadd C dX0_remember_59 ?_
    refine r_put (ci := 0) (CC := RX0) (T := TX0) (N := 3) (v := .int (size + (1 : Int32))) (ws1 := (wAC cyI cyZ cyW a0 a1 aw w0 w1 w2 w3 p0 first (size + (1 : Int32)) (va_up awh 0 u3.1) (va_up alf 0 u3.2.1) (va_up aco 0 u3.2.2.1) (va_up awi 0 u3.2.2.2.1) (va_up aho 0 u3.2.2.2.2) wh lf co wi ho)) (ty := .int) C hinX0_remember_X0 tyX0 tyX0_ok nmX0 0 rfl rfl 2 (by decide) mX0_remember_1 rfl rfl rfl rfl rfl (Nat.le_of_ble_eq_true rfl) rfl dX0_remember_60 ?_
    have h9 := Option.some.inj h
    subst h9
    exact r_vret C rfl dX0_remember_63
  · refine r_aldq (b := (aw 4)) C 1 2 rfl rfl (inb_vp hu2) rfl dX0_remember_48 ?_
    refine r_aload_n C dX0_remember_49 1 rfl rfl ?_
    obtain ⟨u3, hu3, h⟩ := ob_bind h
    refine r_callVV (q0 := 0) (As := [.ref w0]) (rest := []) (ws1 := (wAC cyI cyZ cyW a0 a1 aw w0 w1 w2 w3 p0 first size (va_up awh 1 u3.1) (va_up alf 1 u3.2.1) (va_up aco 1 u3.2.2.1) (va_up awi 1 u3.2.2.2.1) (va_up aho 1 u3.2.2.2.2) wh lf co wi ho)) C (kX8_copyFrom (w0 := (aw 4)) (w1 := (aw 5)) (w2 := (aw 6)) (w3 := (aw 7)) (v0 := w0) (v1 := w1) (v2 := w2) (v3 := w3) (p0 := p0) (wh := (awh 1)) (lf := (alf 1)) (co := (aco 1)) (wi := (awi 1)) (ho := (aho 1)) (owh := wh) (olf := lf) (oco := co) (owi := wi) (oho := ho)  hu3) gX0_remember_X8_copyFrom rfl rfl rfl ⟨rfl, hd_X8_copyFrom⟩ ⟨by decide, by decide⟩ rfl rfl rfl rfl [6, 7, 8, 9, 58, 59, 60, 61] (by decide) in_1 se_1 (adrAC.trans adrAC.symm) rfl (Nat.le_of_ble_eq_true rfl) dX0_remember_50 ⟨Nat.zero_le _, Nat.zero_le _⟩ ?_
    refine r_aload_n C dX0_remember_53 0 rfl rfl ?_
    refine r_dup C dX0_remember_54 rfl ?_
    refine r_get (ci := 0) (CC := RX0) (T := TX0) (N := 3) (v := .int size) C hinX0_remember_X0 0 rfl rfl 2 (by decide) mX0_remember_1 rfl rfl dX0_remember_55 ?_
    refine r_iconst (v := 1) C dX0_remember_58 ic_1 ?_
    refine r_iadd C dX0_remember_59 ?_
    refine r_put (ci := 0) (CC := RX0) (T := TX0) (N := 3) (v := .int (size + (1 : Int32))) (ws1 := (wAC cyI cyZ cyW a0 a1 aw w0 w1 w2 w3 p0 first (size + (1 : Int32)) (va_up awh 1 u3.1) (va_up alf 1 u3.2.1) (va_up aco 1 u3.2.2.1) (va_up awi 1 u3.2.2.2.1) (va_up aho 1 u3.2.2.2.2) wh lf co wi ho)) (ty := .int) C hinX0_remember_X0 tyX0 tyX0_ok nmX0 0 rfl rfl 2 (by decide) mX0_remember_1 rfl rfl rfl rfl rfl (Nat.le_of_ble_eq_true rfl) rfl dX0_remember_60 ?_
    have h9 := Option.some.inj h
    subst h9
    exact r_vret C rfl dX0_remember_63
  · refine r_aldq (b := (aw 8)) C 1 2 rfl rfl (inb_vp hu2) rfl dX0_remember_48 ?_
    refine r_aload_n C dX0_remember_49 1 rfl rfl ?_
    obtain ⟨u3, hu3, h⟩ := ob_bind h
    refine r_callVV (q0 := 0) (As := [.ref w0]) (rest := []) (ws1 := (wAC cyI cyZ cyW a0 a1 aw w0 w1 w2 w3 p0 first size (va_up awh 2 u3.1) (va_up alf 2 u3.2.1) (va_up aco 2 u3.2.2.1) (va_up awi 2 u3.2.2.2.1) (va_up aho 2 u3.2.2.2.2) wh lf co wi ho)) C (kX8_copyFrom (w0 := (aw 8)) (w1 := (aw 9)) (w2 := (aw 10)) (w3 := (aw 11)) (v0 := w0) (v1 := w1) (v2 := w2) (v3 := w3) (p0 := p0) (wh := (awh 2)) (lf := (alf 2)) (co := (aco 2)) (wi := (awi 2)) (ho := (aho 2)) (owh := wh) (olf := lf) (oco := co) (owi := wi) (oho := ho)  hu3) gX0_remember_X8_copyFrom rfl rfl rfl ⟨rfl, hd_X8_copyFrom⟩ ⟨by decide, by decide⟩ rfl rfl rfl rfl [10, 11, 12, 13, 58, 59, 60, 61] (by decide) in_2 se_2 (adrAC.trans adrAC.symm) rfl (Nat.le_of_ble_eq_true rfl) dX0_remember_50 ⟨Nat.zero_le _, Nat.zero_le _⟩ ?_
    refine r_aload_n C dX0_remember_53 0 rfl rfl ?_
    refine r_dup C dX0_remember_54 rfl ?_
    refine r_get (ci := 0) (CC := RX0) (T := TX0) (N := 3) (v := .int size) C hinX0_remember_X0 0 rfl rfl 2 (by decide) mX0_remember_1 rfl rfl dX0_remember_55 ?_
    refine r_iconst (v := 1) C dX0_remember_58 ic_1 ?_
    refine r_iadd C dX0_remember_59 ?_
    refine r_put (ci := 0) (CC := RX0) (T := TX0) (N := 3) (v := .int (size + (1 : Int32))) (ws1 := (wAC cyI cyZ cyW a0 a1 aw w0 w1 w2 w3 p0 first (size + (1 : Int32)) (va_up awh 2 u3.1) (va_up alf 2 u3.2.1) (va_up aco 2 u3.2.2.1) (va_up awi 2 u3.2.2.2.1) (va_up aho 2 u3.2.2.2.2) wh lf co wi ho)) (ty := .int) C hinX0_remember_X0 tyX0 tyX0_ok nmX0 0 rfl rfl 2 (by decide) mX0_remember_1 rfl rfl rfl rfl rfl (Nat.le_of_ble_eq_true rfl) rfl dX0_remember_60 ?_
    have h9 := Option.some.inj h
    subst h9
    exact r_vret C rfl dX0_remember_63
  · refine r_aldq (b := (aw 12)) C 1 2 rfl rfl (inb_vp hu2) rfl dX0_remember_48 ?_
    refine r_aload_n C dX0_remember_49 1 rfl rfl ?_
    obtain ⟨u3, hu3, h⟩ := ob_bind h
    refine r_callVV (q0 := 0) (As := [.ref w0]) (rest := []) (ws1 := (wAC cyI cyZ cyW a0 a1 aw w0 w1 w2 w3 p0 first size (va_up awh 3 u3.1) (va_up alf 3 u3.2.1) (va_up aco 3 u3.2.2.1) (va_up awi 3 u3.2.2.2.1) (va_up aho 3 u3.2.2.2.2) wh lf co wi ho)) C (kX8_copyFrom (w0 := (aw 12)) (w1 := (aw 13)) (w2 := (aw 14)) (w3 := (aw 15)) (v0 := w0) (v1 := w1) (v2 := w2) (v3 := w3) (p0 := p0) (wh := (awh 3)) (lf := (alf 3)) (co := (aco 3)) (wi := (awi 3)) (ho := (aho 3)) (owh := wh) (olf := lf) (oco := co) (owi := wi) (oho := ho)  hu3) gX0_remember_X8_copyFrom rfl rfl rfl ⟨rfl, hd_X8_copyFrom⟩ ⟨by decide, by decide⟩ rfl rfl rfl rfl [14, 15, 16, 17, 58, 59, 60, 61] (by decide) in_3 se_3 (adrAC.trans adrAC.symm) rfl (Nat.le_of_ble_eq_true rfl) dX0_remember_50 ⟨Nat.zero_le _, Nat.zero_le _⟩ ?_
    refine r_aload_n C dX0_remember_53 0 rfl rfl ?_
    refine r_dup C dX0_remember_54 rfl ?_
    refine r_get (ci := 0) (CC := RX0) (T := TX0) (N := 3) (v := .int size) C hinX0_remember_X0 0 rfl rfl 2 (by decide) mX0_remember_1 rfl rfl dX0_remember_55 ?_
    refine r_iconst (v := 1) C dX0_remember_58 ic_1 ?_
    refine r_iadd C dX0_remember_59 ?_
    refine r_put (ci := 0) (CC := RX0) (T := TX0) (N := 3) (v := .int (size + (1 : Int32))) (ws1 := (wAC cyI cyZ cyW a0 a1 aw w0 w1 w2 w3 p0 first (size + (1 : Int32)) (va_up awh 3 u3.1) (va_up alf 3 u3.2.1) (va_up aco 3 u3.2.2.1) (va_up awi 3 u3.2.2.2.1) (va_up aho 3 u3.2.2.2.2) wh lf co wi ho)) (ty := .int) C hinX0_remember_X0 tyX0 tyX0_ok nmX0 0 rfl rfl 2 (by decide) mX0_remember_1 rfl rfl rfl rfl rfl (Nat.le_of_ble_eq_true rfl) rfl dX0_remember_60 ?_
    have h9 := Option.some.inj h
    subst h9
    exact r_vret C rfl dX0_remember_63
  · refine r_aldq (b := (aw 16)) C 1 2 rfl rfl (inb_vp hu2) rfl dX0_remember_48 ?_
    refine r_aload_n C dX0_remember_49 1 rfl rfl ?_
    obtain ⟨u3, hu3, h⟩ := ob_bind h
    refine r_callVV (q0 := 0) (As := [.ref w0]) (rest := []) (ws1 := (wAC cyI cyZ cyW a0 a1 aw w0 w1 w2 w3 p0 first size (va_up awh 4 u3.1) (va_up alf 4 u3.2.1) (va_up aco 4 u3.2.2.1) (va_up awi 4 u3.2.2.2.1) (va_up aho 4 u3.2.2.2.2) wh lf co wi ho)) C (kX8_copyFrom (w0 := (aw 16)) (w1 := (aw 17)) (w2 := (aw 18)) (w3 := (aw 19)) (v0 := w0) (v1 := w1) (v2 := w2) (v3 := w3) (p0 := p0) (wh := (awh 4)) (lf := (alf 4)) (co := (aco 4)) (wi := (awi 4)) (ho := (aho 4)) (owh := wh) (olf := lf) (oco := co) (owi := wi) (oho := ho)  hu3) gX0_remember_X8_copyFrom rfl rfl rfl ⟨rfl, hd_X8_copyFrom⟩ ⟨by decide, by decide⟩ rfl rfl rfl rfl [18, 19, 20, 21, 58, 59, 60, 61] (by decide) in_4 se_4 (adrAC.trans adrAC.symm) rfl (Nat.le_of_ble_eq_true rfl) dX0_remember_50 ⟨Nat.zero_le _, Nat.zero_le _⟩ ?_
    refine r_aload_n C dX0_remember_53 0 rfl rfl ?_
    refine r_dup C dX0_remember_54 rfl ?_
    refine r_get (ci := 0) (CC := RX0) (T := TX0) (N := 3) (v := .int size) C hinX0_remember_X0 0 rfl rfl 2 (by decide) mX0_remember_1 rfl rfl dX0_remember_55 ?_
    refine r_iconst (v := 1) C dX0_remember_58 ic_1 ?_
    refine r_iadd C dX0_remember_59 ?_
    refine r_put (ci := 0) (CC := RX0) (T := TX0) (N := 3) (v := .int (size + (1 : Int32))) (ws1 := (wAC cyI cyZ cyW a0 a1 aw w0 w1 w2 w3 p0 first (size + (1 : Int32)) (va_up awh 4 u3.1) (va_up alf 4 u3.2.1) (va_up aco 4 u3.2.2.1) (va_up awi 4 u3.2.2.2.1) (va_up aho 4 u3.2.2.2.2) wh lf co wi ho)) (ty := .int) C hinX0_remember_X0 tyX0 tyX0_ok nmX0 0 rfl rfl 2 (by decide) mX0_remember_1 rfl rfl rfl rfl rfl (Nat.le_of_ble_eq_true rfl) rfl dX0_remember_60 ?_
    have h9 := Option.some.inj h
    subst h9
    exact r_vret C rfl dX0_remember_63
  · refine r_aldq (b := (aw 20)) C 1 2 rfl rfl (inb_vp hu2) rfl dX0_remember_48 ?_
    refine r_aload_n C dX0_remember_49 1 rfl rfl ?_
    obtain ⟨u3, hu3, h⟩ := ob_bind h
    refine r_callVV (q0 := 0) (As := [.ref w0]) (rest := []) (ws1 := (wAC cyI cyZ cyW a0 a1 aw w0 w1 w2 w3 p0 first size (va_up awh 5 u3.1) (va_up alf 5 u3.2.1) (va_up aco 5 u3.2.2.1) (va_up awi 5 u3.2.2.2.1) (va_up aho 5 u3.2.2.2.2) wh lf co wi ho)) C (kX8_copyFrom (w0 := (aw 20)) (w1 := (aw 21)) (w2 := (aw 22)) (w3 := (aw 23)) (v0 := w0) (v1 := w1) (v2 := w2) (v3 := w3) (p0 := p0) (wh := (awh 5)) (lf := (alf 5)) (co := (aco 5)) (wi := (awi 5)) (ho := (aho 5)) (owh := wh) (olf := lf) (oco := co) (owi := wi) (oho := ho)  hu3) gX0_remember_X8_copyFrom rfl rfl rfl ⟨rfl, hd_X8_copyFrom⟩ ⟨by decide, by decide⟩ rfl rfl rfl rfl [22, 23, 24, 25, 58, 59, 60, 61] (by decide) in_5 se_5 (adrAC.trans adrAC.symm) rfl (Nat.le_of_ble_eq_true rfl) dX0_remember_50 ⟨Nat.zero_le _, Nat.zero_le _⟩ ?_
    refine r_aload_n C dX0_remember_53 0 rfl rfl ?_
    refine r_dup C dX0_remember_54 rfl ?_
    refine r_get (ci := 0) (CC := RX0) (T := TX0) (N := 3) (v := .int size) C hinX0_remember_X0 0 rfl rfl 2 (by decide) mX0_remember_1 rfl rfl dX0_remember_55 ?_
    refine r_iconst (v := 1) C dX0_remember_58 ic_1 ?_
    refine r_iadd C dX0_remember_59 ?_
    refine r_put (ci := 0) (CC := RX0) (T := TX0) (N := 3) (v := .int (size + (1 : Int32))) (ws1 := (wAC cyI cyZ cyW a0 a1 aw w0 w1 w2 w3 p0 first (size + (1 : Int32)) (va_up awh 5 u3.1) (va_up alf 5 u3.2.1) (va_up aco 5 u3.2.2.1) (va_up awi 5 u3.2.2.2.1) (va_up aho 5 u3.2.2.2.2) wh lf co wi ho)) (ty := .int) C hinX0_remember_X0 tyX0 tyX0_ok nmX0 0 rfl rfl 2 (by decide) mX0_remember_1 rfl rfl rfl rfl rfl (Nat.le_of_ble_eq_true rfl) rfl dX0_remember_60 ?_
    have h9 := Option.some.inj h
    subst h9
    exact r_vret C rfl dX0_remember_63
  · refine r_aldq (b := (aw 24)) C 1 2 rfl rfl (inb_vp hu2) rfl dX0_remember_48 ?_
    refine r_aload_n C dX0_remember_49 1 rfl rfl ?_
    obtain ⟨u3, hu3, h⟩ := ob_bind h
    refine r_callVV (q0 := 0) (As := [.ref w0]) (rest := []) (ws1 := (wAC cyI cyZ cyW a0 a1 aw w0 w1 w2 w3 p0 first size (va_up awh 6 u3.1) (va_up alf 6 u3.2.1) (va_up aco 6 u3.2.2.1) (va_up awi 6 u3.2.2.2.1) (va_up aho 6 u3.2.2.2.2) wh lf co wi ho)) C (kX8_copyFrom (w0 := (aw 24)) (w1 := (aw 25)) (w2 := (aw 26)) (w3 := (aw 27)) (v0 := w0) (v1 := w1) (v2 := w2) (v3 := w3) (p0 := p0) (wh := (awh 6)) (lf := (alf 6)) (co := (aco 6)) (wi := (awi 6)) (ho := (aho 6)) (owh := wh) (olf := lf) (oco := co) (owi := wi) (oho := ho)  hu3) gX0_remember_X8_copyFrom rfl rfl rfl ⟨rfl, hd_X8_copyFrom⟩ ⟨by decide, by decide⟩ rfl rfl rfl rfl [26, 27, 28, 29, 58, 59, 60, 61] (by decide) in_6 se_6 (adrAC.trans adrAC.symm) rfl (Nat.le_of_ble_eq_true rfl) dX0_remember_50 ⟨Nat.zero_le _, Nat.zero_le _⟩ ?_
    refine r_aload_n C dX0_remember_53 0 rfl rfl ?_
    refine r_dup C dX0_remember_54 rfl ?_
    refine r_get (ci := 0) (CC := RX0) (T := TX0) (N := 3) (v := .int size) C hinX0_remember_X0 0 rfl rfl 2 (by decide) mX0_remember_1 rfl rfl dX0_remember_55 ?_
    refine r_iconst (v := 1) C dX0_remember_58 ic_1 ?_
    refine r_iadd C dX0_remember_59 ?_
    refine r_put (ci := 0) (CC := RX0) (T := TX0) (N := 3) (v := .int (size + (1 : Int32))) (ws1 := (wAC cyI cyZ cyW a0 a1 aw w0 w1 w2 w3 p0 first (size + (1 : Int32)) (va_up awh 6 u3.1) (va_up alf 6 u3.2.1) (va_up aco 6 u3.2.2.1) (va_up awi 6 u3.2.2.2.1) (va_up aho 6 u3.2.2.2.2) wh lf co wi ho)) (ty := .int) C hinX0_remember_X0 tyX0 tyX0_ok nmX0 0 rfl rfl 2 (by decide) mX0_remember_1 rfl rfl rfl rfl rfl (Nat.le_of_ble_eq_true rfl) rfl dX0_remember_60 ?_
    have h9 := Option.some.inj h
    subst h9
    exact r_vret C rfl dX0_remember_63
  · refine r_aldq (b := (aw 28)) C 1 2 rfl rfl (inb_vp hu2) rfl dX0_remember_48 ?_
    refine r_aload_n C dX0_remember_49 1 rfl rfl ?_
    obtain ⟨u3, hu3, h⟩ := ob_bind h
    refine r_callVV (q0 := 0) (As := [.ref w0]) (rest := []) (ws1 := (wAC cyI cyZ cyW a0 a1 aw w0 w1 w2 w3 p0 first size (va_up awh 7 u3.1) (va_up alf 7 u3.2.1) (va_up aco 7 u3.2.2.1) (va_up awi 7 u3.2.2.2.1) (va_up aho 7 u3.2.2.2.2) wh lf co wi ho)) C (kX8_copyFrom (w0 := (aw 28)) (w1 := (aw 29)) (w2 := (aw 30)) (w3 := (aw 31)) (v0 := w0) (v1 := w1) (v2 := w2) (v3 := w3) (p0 := p0) (wh := (awh 7)) (lf := (alf 7)) (co := (aco 7)) (wi := (awi 7)) (ho := (aho 7)) (owh := wh) (olf := lf) (oco := co) (owi := wi) (oho := ho)  hu3) gX0_remember_X8_copyFrom rfl rfl rfl ⟨rfl, hd_X8_copyFrom⟩ ⟨by decide, by decide⟩ rfl rfl rfl rfl [30, 31, 32, 33, 58, 59, 60, 61] (by decide) in_7 se_7 (adrAC.trans adrAC.symm) rfl (Nat.le_of_ble_eq_true rfl) dX0_remember_50 ⟨Nat.zero_le _, Nat.zero_le _⟩ ?_
    refine r_aload_n C dX0_remember_53 0 rfl rfl ?_
    refine r_dup C dX0_remember_54 rfl ?_
    refine r_get (ci := 0) (CC := RX0) (T := TX0) (N := 3) (v := .int size) C hinX0_remember_X0 0 rfl rfl 2 (by decide) mX0_remember_1 rfl rfl dX0_remember_55 ?_
    refine r_iconst (v := 1) C dX0_remember_58 ic_1 ?_
    refine r_iadd C dX0_remember_59 ?_
    refine r_put (ci := 0) (CC := RX0) (T := TX0) (N := 3) (v := .int (size + (1 : Int32))) (ws1 := (wAC cyI cyZ cyW a0 a1 aw w0 w1 w2 w3 p0 first (size + (1 : Int32)) (va_up awh 7 u3.1) (va_up alf 7 u3.2.1) (va_up aco 7 u3.2.2.1) (va_up awi 7 u3.2.2.2.1) (va_up aho 7 u3.2.2.2.2) wh lf co wi ho)) (ty := .int) C hinX0_remember_X0 tyX0 tyX0_ok nmX0 0 rfl rfl 2 (by decide) mX0_remember_1 rfl rfl rfl rfl rfl (Nat.le_of_ble_eq_true rfl) rfl dX0_remember_60 ?_
    have h9 := Option.some.inj h
    subst h9
    exact r_vret C rfl dX0_remember_63
  · refine r_aldq (b := (aw 32)) C 1 2 rfl rfl (inb_vp hu2) rfl dX0_remember_48 ?_
    refine r_aload_n C dX0_remember_49 1 rfl rfl ?_
    obtain ⟨u3, hu3, h⟩ := ob_bind h
    refine r_callVV (q0 := 0) (As := [.ref w0]) (rest := []) (ws1 := (wAC cyI cyZ cyW a0 a1 aw w0 w1 w2 w3 p0 first size (va_up awh 8 u3.1) (va_up alf 8 u3.2.1) (va_up aco 8 u3.2.2.1) (va_up awi 8 u3.2.2.2.1) (va_up aho 8 u3.2.2.2.2) wh lf co wi ho)) C (kX8_copyFrom (w0 := (aw 32)) (w1 := (aw 33)) (w2 := (aw 34)) (w3 := (aw 35)) (v0 := w0) (v1 := w1) (v2 := w2) (v3 := w3) (p0 := p0) (wh := (awh 8)) (lf := (alf 8)) (co := (aco 8)) (wi := (awi 8)) (ho := (aho 8)) (owh := wh) (olf := lf) (oco := co) (owi := wi) (oho := ho)  hu3) gX0_remember_X8_copyFrom rfl rfl rfl ⟨rfl, hd_X8_copyFrom⟩ ⟨by decide, by decide⟩ rfl rfl rfl rfl [34, 35, 36, 37, 58, 59, 60, 61] (by decide) in_8 se_8 (adrAC.trans adrAC.symm) rfl (Nat.le_of_ble_eq_true rfl) dX0_remember_50 ⟨Nat.zero_le _, Nat.zero_le _⟩ ?_
    refine r_aload_n C dX0_remember_53 0 rfl rfl ?_
    refine r_dup C dX0_remember_54 rfl ?_
    refine r_get (ci := 0) (CC := RX0) (T := TX0) (N := 3) (v := .int size) C hinX0_remember_X0 0 rfl rfl 2 (by decide) mX0_remember_1 rfl rfl dX0_remember_55 ?_
    refine r_iconst (v := 1) C dX0_remember_58 ic_1 ?_
    refine r_iadd C dX0_remember_59 ?_
    refine r_put (ci := 0) (CC := RX0) (T := TX0) (N := 3) (v := .int (size + (1 : Int32))) (ws1 := (wAC cyI cyZ cyW a0 a1 aw w0 w1 w2 w3 p0 first (size + (1 : Int32)) (va_up awh 8 u3.1) (va_up alf 8 u3.2.1) (va_up aco 8 u3.2.2.1) (va_up awi 8 u3.2.2.2.1) (va_up aho 8 u3.2.2.2.2) wh lf co wi ho)) (ty := .int) C hinX0_remember_X0 tyX0 tyX0_ok nmX0 0 rfl rfl 2 (by decide) mX0_remember_1 rfl rfl rfl rfl rfl (Nat.le_of_ble_eq_true rfl) rfl dX0_remember_60 ?_
    have h9 := Option.some.inj h
    subst h9
    exact r_vret C rfl dX0_remember_63
  · refine r_aldq (b := (aw 36)) C 1 2 rfl rfl (inb_vp hu2) rfl dX0_remember_48 ?_
    refine r_aload_n C dX0_remember_49 1 rfl rfl ?_
    obtain ⟨u3, hu3, h⟩ := ob_bind h
    refine r_callVV (q0 := 0) (As := [.ref w0]) (rest := []) (ws1 := (wAC cyI cyZ cyW a0 a1 aw w0 w1 w2 w3 p0 first size (va_up awh 9 u3.1) (va_up alf 9 u3.2.1) (va_up aco 9 u3.2.2.1) (va_up awi 9 u3.2.2.2.1) (va_up aho 9 u3.2.2.2.2) wh lf co wi ho)) C (kX8_copyFrom (w0 := (aw 36)) (w1 := (aw 37)) (w2 := (aw 38)) (w3 := (aw 39)) (v0 := w0) (v1 := w1) (v2 := w2) (v3 := w3) (p0 := p0) (wh := (awh 9)) (lf := (alf 9)) (co := (aco 9)) (wi := (awi 9)) (ho := (aho 9)) (owh := wh) (olf := lf) (oco := co) (owi := wi) (oho := ho)  hu3) gX0_remember_X8_copyFrom rfl rfl rfl ⟨rfl, hd_X8_copyFrom⟩ ⟨by decide, by decide⟩ rfl rfl rfl rfl [38, 39, 40, 41, 58, 59, 60, 61] (by decide) in_9 se_9 (adrAC.trans adrAC.symm) rfl (Nat.le_of_ble_eq_true rfl) dX0_remember_50 ⟨Nat.zero_le _, Nat.zero_le _⟩ ?_
    refine r_aload_n C dX0_remember_53 0 rfl rfl ?_
    refine r_dup C dX0_remember_54 rfl ?_
    refine r_get (ci := 0) (CC := RX0) (T := TX0) (N := 3) (v := .int size) C hinX0_remember_X0 0 rfl rfl 2 (by decide) mX0_remember_1 rfl rfl dX0_remember_55 ?_
    refine r_iconst (v := 1) C dX0_remember_58 ic_1 ?_
    refine r_iadd C dX0_remember_59 ?_
    refine r_put (ci := 0) (CC := RX0) (T := TX0) (N := 3) (v := .int (size + (1 : Int32))) (ws1 := (wAC cyI cyZ cyW a0 a1 aw w0 w1 w2 w3 p0 first (size + (1 : Int32)) (va_up awh 9 u3.1) (va_up alf 9 u3.2.1) (va_up aco 9 u3.2.2.1) (va_up awi 9 u3.2.2.2.1) (va_up aho 9 u3.2.2.2.2) wh lf co wi ho)) (ty := .int) C hinX0_remember_X0 tyX0 tyX0_ok nmX0 0 rfl rfl 2 (by decide) mX0_remember_1 rfl rfl rfl rfl rfl (Nat.le_of_ble_eq_true rfl) rfl dX0_remember_60 ?_
    have h9 := Option.some.inj h
    subst h9
    exact r_vret C rfl dX0_remember_63
  · refine r_aldq (b := (aw 40)) C 1 2 rfl rfl (inb_vp hu2) rfl dX0_remember_48 ?_
    refine r_aload_n C dX0_remember_49 1 rfl rfl ?_
    obtain ⟨u3, hu3, h⟩ := ob_bind h
    refine r_callVV (q0 := 0) (As := [.ref w0]) (rest := []) (ws1 := (wAC cyI cyZ cyW a0 a1 aw w0 w1 w2 w3 p0 first size (va_up awh 10 u3.1) (va_up alf 10 u3.2.1) (va_up aco 10 u3.2.2.1) (va_up awi 10 u3.2.2.2.1) (va_up aho 10 u3.2.2.2.2) wh lf co wi ho)) C (kX8_copyFrom (w0 := (aw 40)) (w1 := (aw 41)) (w2 := (aw 42)) (w3 := (aw 43)) (v0 := w0) (v1 := w1) (v2 := w2) (v3 := w3) (p0 := p0) (wh := (awh 10)) (lf := (alf 10)) (co := (aco 10)) (wi := (awi 10)) (ho := (aho 10)) (owh := wh) (olf := lf) (oco := co) (owi := wi) (oho := ho)  hu3) gX0_remember_X8_copyFrom rfl rfl rfl ⟨rfl, hd_X8_copyFrom⟩ ⟨by decide, by decide⟩ rfl rfl rfl rfl [42, 43, 44, 45, 58, 59, 60, 61] (by decide) in_10 se_10 (adrAC.trans adrAC.symm) rfl (Nat.le_of_ble_eq_true rfl) dX0_remember_50 ⟨Nat.zero_le _, Nat.zero_le _⟩ ?_
    refine r_aload_n C dX0_remember_53 0 rfl rfl ?_
    refine r_dup C dX0_remember_54 rfl ?_
    refine r_get (ci := 0) (CC := RX0) (T := TX0) (N := 3) (v := .int size) C hinX0_remember_X0 0 rfl rfl 2 (by decide) mX0_remember_1 rfl rfl dX0_remember_55 ?_
    refine r_iconst (v := 1) C dX0_remember_58 ic_1 ?_
    refine r_iadd C dX0_remember_59 ?_
    refine r_put (ci := 0) (CC := RX0) (T := TX0) (N := 3) (v := .int (size + (1 : Int32))) (ws1 := (wAC cyI cyZ cyW a0 a1 aw w0 w1 w2 w3 p0 first (size + (1 : Int32)) (va_up awh 10 u3.1) (va_up alf 10 u3.2.1) (va_up aco 10 u3.2.2.1) (va_up awi 10 u3.2.2.2.1) (va_up aho 10 u3.2.2.2.2) wh lf co wi ho)) (ty := .int) C hinX0_remember_X0 tyX0 tyX0_ok nmX0 0 rfl rfl 2 (by decide) mX0_remember_1 rfl rfl rfl rfl rfl (Nat.le_of_ble_eq_true rfl) rfl dX0_remember_60 ?_
    have h9 := Option.some.inj h
    subst h9
    exact r_vret C rfl dX0_remember_63
  · refine r_aldq (b := (aw 44)) C 1 2 rfl rfl (inb_vp hu2) rfl dX0_remember_48 ?_
    refine r_aload_n C dX0_remember_49 1 rfl rfl ?_
    obtain ⟨u3, hu3, h⟩ := ob_bind h
    refine r_callVV (q0 := 0) (As := [.ref w0]) (rest := []) (ws1 := (wAC cyI cyZ cyW a0 a1 aw w0 w1 w2 w3 p0 first size (va_up awh 11 u3.1) (va_up alf 11 u3.2.1) (va_up aco 11 u3.2.2.1) (va_up awi 11 u3.2.2.2.1) (va_up aho 11 u3.2.2.2.2) wh lf co wi ho)) C (kX8_copyFrom (w0 := (aw 44)) (w1 := (aw 45)) (w2 := (aw 46)) (w3 := (aw 47)) (v0 := w0) (v1 := w1) (v2 := w2) (v3 := w3) (p0 := p0) (wh := (awh 11)) (lf := (alf 11)) (co := (aco 11)) (wi := (awi 11)) (ho := (aho 11)) (owh := wh) (olf := lf) (oco := co) (owi := wi) (oho := ho)  hu3) gX0_remember_X8_copyFrom rfl rfl rfl ⟨rfl, hd_X8_copyFrom⟩ ⟨by decide, by decide⟩ rfl rfl rfl rfl [46, 47, 48, 49, 58, 59, 60, 61] (by decide) in_11 se_11 (adrAC.trans adrAC.symm) rfl (Nat.le_of_ble_eq_true rfl) dX0_remember_50 ⟨Nat.zero_le _, Nat.zero_le _⟩ ?_
    refine r_aload_n C dX0_remember_53 0 rfl rfl ?_
    refine r_dup C dX0_remember_54 rfl ?_
    refine r_get (ci := 0) (CC := RX0) (T := TX0) (N := 3) (v := .int size) C hinX0_remember_X0 0 rfl rfl 2 (by decide) mX0_remember_1 rfl rfl dX0_remember_55 ?_
    refine r_iconst (v := 1) C dX0_remember_58 ic_1 ?_
    refine r_iadd C dX0_remember_59 ?_
    refine r_put (ci := 0) (CC := RX0) (T := TX0) (N := 3) (v := .int (size + (1 : Int32))) (ws1 := (wAC cyI cyZ cyW a0 a1 aw w0 w1 w2 w3 p0 first (size + (1 : Int32)) (va_up awh 11 u3.1) (va_up alf 11 u3.2.1) (va_up aco 11 u3.2.2.1) (va_up awi 11 u3.2.2.2.1) (va_up aho 11 u3.2.2.2.2) wh lf co wi ho)) (ty := .int) C hinX0_remember_X0 tyX0 tyX0_ok nmX0 0 rfl rfl 2 (by decide) mX0_remember_1 rfl rfl rfl rfl rfl (Nat.le_of_ble_eq_true rfl) rfl dX0_remember_60 ?_
    have h9 := Option.some.inj h
    subst h9
    exact r_vret C rfl dX0_remember_63
  · refine r_aldq (b := (aw 48)) C 1 2 rfl rfl (inb_vp hu2) rfl dX0_remember_48 ?_
    refine r_aload_n C dX0_remember_49 1 rfl rfl ?_
    obtain ⟨u3, hu3, h⟩ := ob_bind h
    refine r_callVV (q0 := 0) (As := [.ref w0]) (rest := []) (ws1 := (wAC cyI cyZ cyW a0 a1 aw w0 w1 w2 w3 p0 first size (va_up awh 12 u3.1) (va_up alf 12 u3.2.1) (va_up aco 12 u3.2.2.1) (va_up awi 12 u3.2.2.2.1) (va_up aho 12 u3.2.2.2.2) wh lf co wi ho)) C (kX8_copyFrom (w0 := (aw 48)) (w1 := (aw 49)) (w2 := (aw 50)) (w3 := (aw 51)) (v0 := w0) (v1 := w1) (v2 := w2) (v3 := w3) (p0 := p0) (wh := (awh 12)) (lf := (alf 12)) (co := (aco 12)) (wi := (awi 12)) (ho := (aho 12)) (owh := wh) (olf := lf) (oco := co) (owi := wi) (oho := ho)  hu3) gX0_remember_X8_copyFrom rfl rfl rfl ⟨rfl, hd_X8_copyFrom⟩ ⟨by decide, by decide⟩ rfl rfl rfl rfl [50, 51, 52, 53, 58, 59, 60, 61] (by decide) in_12 se_12 (adrAC.trans adrAC.symm) rfl (Nat.le_of_ble_eq_true rfl) dX0_remember_50 ⟨Nat.zero_le _, Nat.zero_le _⟩ ?_
    refine r_aload_n C dX0_remember_53 0 rfl rfl ?_
    refine r_dup C dX0_remember_54 rfl ?_
    refine r_get (ci := 0) (CC := RX0) (T := TX0) (N := 3) (v := .int size) C hinX0_remember_X0 0 rfl rfl 2 (by decide) mX0_remember_1 rfl rfl dX0_remember_55 ?_
    refine r_iconst (v := 1) C dX0_remember_58 ic_1 ?_
    refine r_iadd C dX0_remember_59 ?_
    refine r_put (ci := 0) (CC := RX0) (T := TX0) (N := 3) (v := .int (size + (1 : Int32))) (ws1 := (wAC cyI cyZ cyW a0 a1 aw w0 w1 w2 w3 p0 first (size + (1 : Int32)) (va_up awh 12 u3.1) (va_up alf 12 u3.2.1) (va_up aco 12 u3.2.2.1) (va_up awi 12 u3.2.2.2.1) (va_up aho 12 u3.2.2.2.2) wh lf co wi ho)) (ty := .int) C hinX0_remember_X0 tyX0 tyX0_ok nmX0 0 rfl rfl 2 (by decide) mX0_remember_1 rfl rfl rfl rfl rfl (Nat.le_of_ble_eq_true rfl) rfl dX0_remember_60 ?_
    have h9 := Option.some.inj h
    subst h9
    exact r_vret C rfl dX0_remember_63
  · refine r_aldq (b := (aw 52)) C 1 2 rfl rfl (inb_vp hu2) rfl dX0_remember_48 ?_
    refine r_aload_n C dX0_remember_49 1 rfl rfl ?_
    obtain ⟨u3, hu3, h⟩ := ob_bind h
    refine r_callVV (q0 := 0) (As := [.ref w0]) (rest := []) (ws1 := (wAC cyI cyZ cyW a0 a1 aw w0 w1 w2 w3 p0 first size (va_up awh 13 u3.1) (va_up alf 13 u3.2.1) (va_up aco 13 u3.2.2.1) (va_up awi 13 u3.2.2.2.1) (va_up aho 13 u3.2.2.2.2) wh lf co wi ho)) C (kX8_copyFrom (w0 := (aw 52)) (w1 := (aw 53)) (w2 := (aw 54)) (w3 := (aw 55)) (v0 := w0) (v1 := w1) (v2 := w2) (v3 := w3) (p0 := p0) (wh := (awh 13)) (lf := (alf 13)) (co := (aco 13)) (wi := (awi 13)) (ho := (aho 13)) (owh := wh) (olf := lf) (oco := co) (owi := wi) (oho := ho)  hu3) gX0_remember_X8_copyFrom rfl rfl rfl ⟨rfl, hd_X8_copyFrom⟩ ⟨by decide, by decide⟩ rfl rfl rfl rfl [54, 55, 56, 57, 58, 59, 60, 61] (by decide) in_13 se_13 (adrAC.trans adrAC.symm) rfl (Nat.le_of_ble_eq_true rfl) dX0_remember_50 ⟨Nat.zero_le _, Nat.zero_le _⟩ ?_
    refine r_aload_n C dX0_remember_53 0 rfl rfl ?_
    refine r_dup C dX0_remember_54 rfl ?_
    refine r_get (ci := 0) (CC := RX0) (T := TX0) (N := 3) (v := .int size) C hinX0_remember_X0 0 rfl rfl 2 (by decide) mX0_remember_1 rfl rfl dX0_remember_55 ?_
    refine r_iconst (v := 1) C dX0_remember_58 ic_1 ?_
    refine r_iadd C dX0_remember_59 ?_
    refine r_put (ci := 0) (CC := RX0) (T := TX0) (N := 3) (v := .int (size + (1 : Int32))) (ws1 := (wAC cyI cyZ cyW a0 a1 aw w0 w1 w2 w3 p0 first (size + (1 : Int32)) (va_up awh 13 u3.1) (va_up alf 13 u3.2.1) (va_up aco 13 u3.2.2.1) (va_up awi 13 u3.2.2.2.1) (va_up aho 13 u3.2.2.2.2) wh lf co wi ho)) (ty := .int) C hinX0_remember_X0 tyX0 tyX0_ok nmX0 0 rfl rfl 2 (by decide) mX0_remember_1 rfl rfl rfl rfl rfl (Nat.le_of_ble_eq_true rfl) rfl dX0_remember_60 ?_
    have h9 := Option.some.inj h
    subst h9
    exact r_vret C rfl dX0_remember_63
set_option maxHeartbeats 4000000 in
set_option maxRecDepth 100000 in
theorem LX0_remember_32 {p : Program} {l : Launch} {e : Env} {s : State} {m : MethodId} {args : Array Value} {below : List Frame} {meth : Method} {c : Code} {D : va_G} {cyI cyZ cyW : ClassId} {zW zO : Nat} {A : Nat → Prop} (C : Cx p s m args meth c cX0_remember RX0 "remember" wsX0_remember none 2 D (tyA cyI cyZ cyW) zW zO A) {a0 : Nat} {a1 : Nat} {aw : Nat → Nat} {w0 : Nat} {w1 : Nat} {w2 : Nat} {w3 : Nat} {p0 : Nat} {first : Int32} {size : Int32} {awh : (Nat → Nat → Int32)} {alf : (Nat → Nat → Int32)} {aco : (Nat → Nat → Int32)} {awi : (Nat → Int32)} {aho : (Nat → Int32)} {wh : (Nat → Int32)} {lf : (Nat → Int32)} {co : (Nat → Int32)} {wi : Int32} {ho : Int32}   {res : Int32 × Int32 × (Nat → Nat → Int32) × (Nat → Nat → Int32) × (Nat → Nat → Int32) × (Nat → Int32) × (Nat → Int32)}  (h : fX0_remember_32  first size awh alf aco awi aho wh lf co wi ho = some res) : Mx p l e ({ frames := 2, cells := 0, slots := 0, locals := 39 } : Room) s m args below meth c (MQ below (QV D (tyA cyI cyZ cyW) A (wAC cyI cyZ cyW a0 a1 aw w0 w1 w2 w3 p0 res.1 res.2.1 res.2.2.1 res.2.2.2.1 res.2.2.2.2.1 res.2.2.2.2.2.1 res.2.2.2.2.2.2 wh lf co wi ho)) args s 0 0 A) 2 D A 0 0 (wAC cyI cyZ cyW a0 a1 aw w0 w1 w2 w3 p0 first size awh alf aco awi aho wh lf co wi ho) 32 [(0, .ref a0), (1, .ref w0)] [] := by
  unfold fX0_remember_32 at h
  refine r_aload_n C dX0_remember_32 0 rfl rfl ?_
  refine r_get (ci := 0) (CC := RX0) (T := TX0) (N := 3) (v := .ref a1) C hinX0_remember_X0 0 rfl rfl 0 (by decide) mX0_remember_3 rfl rfl dX0_remember_33 ?_
  refine r_aload_n C dX0_remember_36 0 rfl rfl ?_
  refine r_get (ci := 0) (CC := RX0) (T := TX0) (N := 3) (v := .int first) C hinX0_remember_X0 0 rfl rfl 1 (by decide) mX0_remember_2 rfl rfl dX0_remember_37 ?_
  refine r_aload_n C dX0_remember_40 0 rfl rfl ?_
  refine r_get (ci := 0) (CC := RX0) (T := TX0) (N := 3) (v := .int size) C hinX0_remember_X0 0 rfl rfl 2 (by decide) mX0_remember_1 rfl rfl dX0_remember_41 ?_
  refine r_iadd C dX0_remember_44 ?_
  refine r_bipush (v := 14) C dX0_remember_45 bp_14 ?_
  refine r_irem C dX0_remember_47 (by decide) ?_
  refine r_lv (lv' := [(0, .ref a0), (1, .ref w0)]) [0, 1] rfl ?_
  exact LX0_remember_48 C (y0 := (jrem (first + size) (14 : Int32))) (first := first) (size := size) (awh := awh) (alf := alf) (aco := aco) (awi := awi) (aho := aho) (wh := wh) (lf := lf) (co := co) (wi := wi) (ho := ho)  h
set_option maxHeartbeats 4000000 in
set_option maxRecDepth 100000 in
theorem kX0_remember {l : Launch} {D : va_G} {cyI cyZ cyW : ClassId} {zW zO : Nat} {a0 : Nat} {a1 : Nat} {aw : Nat → Nat} {w0 : Nat} {w1 : Nat} {w2 : Nat} {w3 : Nat} {p0 : Nat} {first : Int32} {size : Int32} {awh : (Nat → Nat → Int32)} {alf : (Nat → Nat → Int32)} {aco : (Nat → Nat → Int32)} {awi : (Nat → Int32)} {aho : (Nat → Int32)} {wh : (Nat → Int32)} {lf : (Nat → Int32)} {co : (Nat → Int32)} {wi : Int32} {ho : Int32}  {res : Int32 × Int32 × (Nat → Nat → Int32) × (Nat → Nat → Int32) × (Nat → Nat → Int32) × (Nat → Int32) × (Nat → Int32)} (h : fX0_remember first size awh alf aco awi aho wh lf co wi ho = some res) : KV l yX0_remember wsX0_remember ({ frames := 2, cells := 0, slots := 0, locals := 39 } : Room) D (tyA cyI cyZ cyW) zW zO [.ref a0, .ref w0] (wAC cyI cyZ cyW a0 a1 aw w0 w1 w2 w3 p0 first size awh alf aco awi aho wh lf co wi ho) (wAC cyI cyZ cyW a0 a1 aw w0 w1 w2 w3 p0 res.1 res.2.1 res.2.2.1 res.2.2.2.1 res.2.2.2.2.1 res.2.2.2.2.2.1 res.2.2.2.2.2.2 wh lf co wi ho) := by
  refine enterV (cc := cX0_remember) (nL := 2) (ret := none) (by decide) rfl (Nat.le_of_ble_eq_true rfl) (fun p e s m below meth c A C => ?_)
  refine r_lv (lv' := [(0, .ref a0), (1, .ref w0)]) [0, 1] rfl ?_
  unfold fX0_remember at h
  refine r_aload_n C dX0_remember_0 0 rfl rfl ?_
  refine r_get (ci := 0) (CC := RX0) (T := TX0) (N := 3) (v := .int size) C hinX0_remember_X0 0 rfl rfl 2 (by decide) mX0_remember_1 rfl rfl dX0_remember_1 ?_
  refine r_bipush (v := 14) C dX0_remember_4 bp_14 ?_
  refine r_icmp_ne (tgt := 32) C dX0_remember_6 (by decide) (fun c1 => ?_) (fun c1 => ?_)
  · replace h := ob_f h c1
    refine r_lv (lv' := [(0, .ref a0), (1, .ref w0)]) [0, 1] rfl ?_
    exact LX0_remember_32 C (first := first) (size := size) (awh := awh) (alf := alf) (aco := aco) (awi := awi) (aho := aho) (wh := wh) (lf := lf) (co := co) (wi := wi) (ho := ho)  h
  · replace h := ob_t h c1
    refine r_aload_n C dX0_remember_9 0 rfl rfl ?_
    refine r_aload_n C dX0_remember_10 0 rfl rfl ?_
    refine r_get (ci := 0) (CC := RX0) (T := TX0) (N := 3) (v := .int first) C hinX0_remember_X0 0 rfl rfl 1 (by decide) mX0_remember_2 rfl rfl dX0_remember_11 ?_
    refine r_iconst (v := 1) C dX0_remember_14 ic_1 ?_
    refine r_iadd C dX0_remember_15 ?_
    refine r_bipush (v := 14) C dX0_remember_16 bp_14 ?_
    refine r_irem C dX0_remember_18 (by decide) ?_
    refine r_put (ci := 0) (CC := RX0) (T := TX0) (N := 3) (v := .int (jrem (first + (1 : Int32)) (14 : Int32))) (ws1 := (wAC cyI cyZ cyW a0 a1 aw w0 w1 w2 w3 p0 (jrem (first + (1 : Int32)) (14 : Int32)) size awh alf aco awi aho wh lf co wi ho)) (ty := .int) C hinX0_remember_X0 tyX0 tyX0_ok nmX0 0 rfl rfl 1 (by decide) mX0_remember_2 rfl rfl rfl rfl rfl (Nat.le_of_ble_eq_true rfl) rfl dX0_remember_19 ?_
    refine r_aload_n C dX0_remember_22 0 rfl rfl ?_
    refine r_dup C dX0_remember_23 rfl ?_
    refine r_get (ci := 0) (CC := RX0) (T := TX0) (N := 3) (v := .int size) C hinX0_remember_X0 0 rfl rfl 2 (by decide) mX0_remember_1 rfl rfl dX0_remember_24 ?_
    refine r_iconst (v := 1) C dX0_remember_27 ic_1 ?_
    refine r_isub C dX0_remember_28 ?_
    refine r_put (ci := 0) (CC := RX0) (T := TX0) (N := 3) (v := .int (size - (1 : Int32))) (ws1 := (wAC cyI cyZ cyW a0 a1 aw w0 w1 w2 w3 p0 (jrem (first + (1 : Int32)) (14 : Int32)) (size - (1 : Int32)) awh alf aco awi aho wh lf co wi ho)) (ty := .int) C hinX0_remember_X0 tyX0 tyX0_ok nmX0 0 rfl rfl 2 (by decide) mX0_remember_1 rfl rfl rfl rfl rfl (Nat.le_of_ble_eq_true rfl) rfl dX0_remember_29 ?_
    refine r_lv (lv' := [(0, .ref a0), (1, .ref w0)]) [0, 1] rfl ?_
    exact LX0_remember_32 C (first := (jrem (first + (1 : Int32)) (14 : Int32))) (size := (size - (1 : Int32))) (awh := awh) (alf := alf) (aco := aco) (awi := awi) (aho := aho) (wh := wh) (lf := lf) (co := co) (wi := wi) (ho := ho)  h
