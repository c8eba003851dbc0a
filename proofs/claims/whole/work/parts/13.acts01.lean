/-! ===== FlagWash$Acts.takeBack ===== -/
def fX0_takeBack_36  (y0 : Int32) (size : Int32) (awh : (Nat → Nat → Int32)) (alf : (Nat → Nat → Int32)) (aco : (Nat → Nat → Int32)) (awi : (Nat → Int32)) (aho : (Nat → Int32)) (wh : (Nat → Int32)) (lf : (Nat → Int32)) (co : (Nat → Int32)) : Option (Bool × Int32 × (Nat → Int32) × (Nat → Int32) × (Nat → Int32) × Int32 × Int32) :=
 (if inb y0 14 = true then ((fX8_copyFrom wh lf co (awh y0.toNatClampNeg) (alf y0.toNatClampNeg) (aco y0.toNatClampNeg) (awi y0.toNatClampNeg) (aho y0.toNatClampNeg)).bind fun u3 => (some (true, size, u3.1, u3.2.1, u3.2.2.1, u3.2.2.2.1, u3.2.2.2.2))) else none)
def fX0_takeBack  (first : Int32) (size : Int32) (awh : (Nat → Nat → Int32)) (alf : (Nat → Nat → Int32)) (aco : (Nat → Nat → Int32)) (awi : (Nat → Int32)) (aho : (Nat → Int32)) (wh : (Nat → Int32)) (lf : (Nat → Int32)) (co : (Nat → Int32)) (wi : Int32) (ho : Int32) : Option (Bool × Int32 × (Nat → Int32) × (Nat → Int32) × (Nat → Int32) × Int32 × Int32) :=
 (if size = 0 then (some (false, size, wh, lf, co, wi, ho))
 else (fX0_takeBack_36  (jrem (first + (size - (1 : Int32))) (14 : Int32)) (size - (1 : Int32)) awh alf aco awi aho wh lf co))
theorem hinX0_takeBack_X0 : ∀ w ∈ u_ws RX0 TX0 3, w ∈ wsX0_takeBack := fun w h => List.mem_cons_of_mem _ (List.mem_append_left _ (List.mem_append_right _ h))
theorem mX0_takeBack_1 : Cond.fieldLink RX0 21 "FlagWash$Acts" "size" "I" ∈ wsX0_takeBack := List.mem_of_getElem? (i := 1) rfl
theorem mX0_takeBack_2 : Cond.fieldLink RX0 11 "FlagWash$Acts" "before" "[LFlagWash$Wash;" ∈ wsX0_takeBack := List.mem_of_getElem? (i := 2) rfl
theorem mX0_takeBack_3 : Cond.fieldLink RX0 17 "FlagWash$Acts" "first" "I" ∈ wsX0_takeBack := List.mem_of_getElem? (i := 3) rfl
theorem hd_X0_takeBack : yX0_takeBack.cls ≠ "java/lang/invoke/MethodHandle" ∧ yX0_takeBack.cls ≠ "java/lang/invoke/VarHandle" ∧ (parseMethodDescriptor yX0_takeBack.desc).map (fun d => d.parameters.length) = some 1 := by decide +kernel
set_option maxHeartbeats 4000000 in
set_option maxRecDepth 100000 in
theorem LX0_takeBack_36 {p : Program} {l : Launch} {e : Env} {s : State} {m : MethodId} {args : Array Value} {below : List Frame} {meth : Method} {c : Code} {D : va_G} {cyI cyZ cyW : ClassId} {zW zO : Nat} {A : Nat → Prop} (C : Cx p s m args meth c cX0_takeBack RX0 "takeBack" wsX0_takeBack (some .boolean) 2 D (tyA cyI cyZ cyW) zW zO A) {a0 : Nat} {a1 : Nat} {aw : Nat → Nat} {w0 : Nat} {w1 : Nat} {w2 : Nat} {w3 : Nat} {p0 : Nat} {first : Int32} {size : Int32} {awh : (Nat → Nat → Int32)} {alf : (Nat → Nat → Int32)} {aco : (Nat → Nat → Int32)} {awi : (Nat → Int32)} {aho : (Nat → Int32)} {wh : (Nat → Int32)} {lf : (Nat → Int32)} {co : (Nat → Int32)} {wi : Int32} {ho : Int32} {y0 : Int32}  {res : Bool × Int32 × (Nat → Int32) × (Nat → Int32) × (Nat → Int32) × Int32 × Int32}  (h : fX0_takeBack_36  y0 size awh alf aco awi aho wh lf co = some res) : Mx p l e ({ frames := 2, cells := 0, slots := 0, locals := 39 } : Room) s m args below meth c (MQ below (QI D (tyA cyI cyZ cyW) A (wAC cyI cyZ cyW a0 a1 aw w0 w1 w2 w3 p0 first res.2.1 awh alf aco awi aho res.2.2.1 res.2.2.2.1 res.2.2.2.2.1 res.2.2.2.2.2.1 res.2.2.2.2.2.2) (b2i res.1)) args s 0 0 A) 2 D A 0 0 (wAC cyI cyZ cyW a0 a1 aw w0 w1 w2 w3 p0 first size awh alf aco awi aho wh lf co wi ho) 36 [] [.int y0, .ref a1, .ref w0] := by
  unfold fX0_takeBack_36 at h
  obtain ⟨hu2, h⟩ := ob_if h
  obtain ⟨j, hj, rfl⟩ := vp_in_of (inb_vp hu2) (by decide)
  simp only [nI_clamp (show j < 2 ^ 31 by omega)] at h
  rcases (show j = 0 ∨ j = 1 ∨ j = 2 ∨ j = 3 ∨ j = 4 ∨ j = 5 ∨ j = 6 ∨ j = 7 ∨ j = 8 ∨ j = 9 ∨ j = 10 ∨ j = 11 ∨ j = 12 ∨ j = 13 by omega) with rfl | rfl | rfl | rfl | rfl | rfl | rfl | rfl | rfl | rfl | rfl | rfl | rfl | rfl
  · refine r_aldq (b := (aw 0)) C 1 2 rfl rfl (inb_vp hu2) rfl dX0_takeBack_36 ?_
    obtain ⟨u3, hu3, h⟩ := ob_bind h
    refine r_callVV (q0 := 0) (As := [.ref (aw 0)]) (rest := []) (ws1 := (wAC cyI cyZ cyW a0 a1 aw w0 w1 w2 w3 p0 first size awh alf aco awi aho u3.1 u3.2.1 u3.2.2.1 u3.2.2.2.1 u3.2.2.2.2)) C (kX8_copyFrom (w0 := w0) (w1 := w1) (w2 := w2) (w3 := w3) (v0 := (aw 0)) (v1 := (aw 1)) (v2 := (aw 2)) (v3 := (aw 3)) (p0 := p0) (wh := wh) (lf := lf) (co := co) (wi := wi) (ho := ho) (owh := (awh 0)) (olf := (alf 0)) (oco := (aco 0)) (owi := (awi 0)) (oho := (aho 0))  hu3) gX0_takeBack_X8_copyFrom rfl rfl rfl ⟨rfl, hd_X8_copyFrom⟩ ⟨by decide, by decide⟩ rfl rfl rfl rfl [58, 59, 60, 61, 2, 3, 4, 5] (by decide) in_14 se_14 (adrAC.trans adrAC.symm) rfl (Nat.le_of_ble_eq_true rfl) dX0_takeBack_37 ⟨Nat.zero_le _, Nat.zero_le _⟩ ?_
    refine r_iconst (v := 1) C dX0_takeBack_40 ic_1 ?_
    have h9 := Option.some.inj h
    subst h9
    exact r_zret (b := true) C rfl dX0_takeBack_41
  · refine r_aldq (b := (aw 4)) C 1 2 rfl rfl (inb_vp hu2) rfl dX0_takeBack_36 ?_
    obtain ⟨u3, hu3, h⟩ := ob_bind h
    refine r_callVV (q0 := 0) (As := [.ref (aw 4)]) (rest := []) (ws1 := (wAC cyI cyZ cyW a0 a1 aw w0 w1 w2 w3 p0 first size awh alf aco awi aho u3.1 u3.2.1 u3.2.2.1 u3.2.2.2.1 u3.2.2.2.2)) C (kX8_copyFrom (w0 := w0) (w1 := w1) (w2 := w2) (w3 := w3) (v0 := (aw 4)) (v1 := (aw 5)) (v2 := (aw 6)) (v3 := (aw 7)) (p0 := p0) (wh := wh) (lf := lf) (co := co) (wi := wi) (ho := ho) (owh := (awh 1)) (olf := (alf 1)) (oco := (aco 1)) (owi := (awi 1)) (oho := (aho 1))  hu3) gX0_takeBack_X8_copyFrom rfl rfl rfl ⟨rfl, hd_X8_copyFrom⟩ ⟨by decide, by decide⟩ rfl rfl rfl rfl [58, 59, 60, 61, 6, 7, 8, 9] (by decide) in_15 se_15 (adrAC.trans adrAC.symm) rfl (Nat.le_of_ble_eq_true rfl) dX0_takeBack_37 ⟨Nat.zero_le _, Nat.zero_le _⟩ ?_
    refine r_iconst (v := 1) C dX0_takeBack_40 ic_1 ?_
    have h9 := Option.some.inj h
    subst h9
    exact r_zret (b := true) C rfl dX0_takeBack_41
  · refine r_aldq (b := (aw 8)) C 1 2 rfl rfl (inb_vp hu2) rfl dX0_takeBack_36 ?_
    obtain ⟨u3, hu3, h⟩ := ob_bind h
    refine r_callVV (q0 := 0) (As := [.ref (aw 8)]) (rest := []) (ws1 := (wAC cyI cyZ cyW a0 a1 aw w0 w1 w2 w3 p0 first size awh alf aco awi aho u3.1 u3.2.1 u3.2.2.1 u3.2.2.2.1 u3.2.2.2.2)) C (kX8_copyFrom (w0 := w0) (w1 := w1) (w2 := w2) (w3 := w3) (v0 := (aw 8)) (v1 := (aw 9)) (v2 := (aw 10)) (v3 := (aw 11)) (p0 := p0) (wh := wh) (lf := lf) (co := co) (wi := wi) (ho := ho) (owh := (awh 2)) (olf := (alf 2)) (oco := (aco 2)) (owi := (awi 2)) (oho := (aho 2))  hu3) gX0_takeBack_X8_copyFrom rfl rfl rfl ⟨rfl, hd_X8_copyFrom⟩ ⟨by decide, by decide⟩ rfl rfl rfl rfl [58, 59, 60, 61, 10, 11, 12, 13] (by decide) in_16 se_16 (adrAC.trans adrAC.symm) rfl (Nat.le_of_ble_eq_true rfl) dX0_takeBack_37 ⟨Nat.zero_le _, Nat.zero_le _⟩ ?_
    refine r_iconst (v := 1) C dX0_takeBack_40 ic_1 ?_
    have h9 := Option.some.inj h
    subst h9
    exact r_zret (b := true) C rfl dX0_takeBack_41
  · refine r_aldq (b := (aw 12)) C 1 2 rfl rfl (inb_vp hu2) rfl dX0_takeBack_36 ?_
    obtain ⟨u3, hu3, h⟩ := ob_bind h
    refine r_callVV (q0 := 0) (As := [.ref (aw 12)]) (rest := []) (ws1 := (wAC cyI cyZ cyW a0 a1 aw w0 w1 w2 w3 p0 first size awh alf aco awi aho u3.1 u3.2.1 u3.2.2.1 u3.2.2.2.1 u3.2.2.2.2)) C (kX8_copyFrom (w0 := w0) (w1 := w1) (w2 := w2) (w3 := w3) (v0 := (aw 12)) (v1 := (aw 13)) (v2 := (aw 14)) (v3 := (aw 15)) (p0 := p0) (wh := wh) (lf := lf) (co := co) (wi := wi) (ho := ho) (owh := (awh 3)) (olf := (alf 3)) (oco := (aco 3)) (owi := (awi 3)) (oho := (aho 3))  hu3) gX0_takeBack_X8_copyFrom rfl rfl rfl ⟨rfl, hd_X8_copyFrom⟩ ⟨by decide, by decide⟩ rfl rfl rfl rfl [58, 59, 60, 61, 14, 15, 16, 17] (by decide) in_17 se_17 (adrAC.trans adrAC.symm) rfl (Nat.le_of_ble_eq_true rfl) dX0_takeBack_37 ⟨Nat.zero_le _, Nat.zero_le _⟩ ?_
    refine r_iconst (v := 1) C dX0_takeBack_40 ic_1 ?_
    have h9 := Option.some.inj h
    subst h9
    exact r_zret (b := true) C rfl dX0_takeBack_41
  · refine r_aldq (b := (aw 16)) C 1 2 rfl rfl (inb_vp hu2) rfl dX0_takeBack_36 ?_
    obtain ⟨u3, hu3, h⟩ := ob_bind h
    refine r_callVV (q0 := 0) (As := [.ref (aw 16)]) (rest := []) (ws1 := (wAC cyI cyZ cyW a0 a1 aw w0 w1 w2 w3 p0 first size awh alf aco awi aho u3.1 u3.2.1 u3.2.2.1 u3.2.2.2.1 u3.2.2.2.2)) C (kX8_copyFrom (w0 := w0) (w1 := w1) (w2 := w2) (w3 := w3) (v0 := (aw 16)) (v1 := (aw 17)) (v2 := (aw 18)) (v3 := (aw 19)) (p0 := p0) (wh := wh) (lf := lf) (co := co) (wi := wi) (ho := ho) (owh := (awh 4)) (olf := (alf 4)) (oco := (aco 4)) (owi := (awi 4)) (oho := (aho 4))  hu3) gX0_takeBack_X8_copyFrom rfl rfl rfl ⟨rfl, hd_X8_copyFrom⟩ ⟨by decide, by decide⟩ rfl rfl rfl rfl [58, 59, 60, 61, 18, 19, 20, 21] (by decide) in_18 se_18 (adrAC.trans adrAC.symm) rfl (Nat.le_of_ble_eq_true rfl) dX0_takeBack_37 ⟨Nat.zero_le _, Nat.zero_le _⟩ ?_
    refine r_iconst (v := 1) C dX0_takeBack_40 ic_1 ?_
    have h9 := Option.some.inj h
    subst h9
    exact r_zret (b := true) C rfl dX0_takeBack_41
  · refine r_aldq (b := (aw 20)) C 1 2 rfl rfl (inb_vp hu2) rfl dX0_takeBack_36 ?_
    obtain ⟨u3, hu3, h⟩ := ob_bind h
    refine r_callVV (q0 := 0) (As := [.ref (aw 20)]) (rest := []) (ws1 := (wAC cyI cyZ cyW a0 a1 aw w0 w1 w2 w3 p0 first size awh alf aco awi aho u3.1 u3.2.1 u3.2.2.1 u3.2.2.2.1 u3.2.2.2.2)) C (kX8_copyFrom (w0 := w0) (w1 := w1) (w2 := w2) (w3 := w3) (v0 := (aw 20)) (v1 := (aw 21)) (v2 := (aw 22)) (v3 := (aw 23)) (p0 := p0) (wh := wh) (lf := lf) (co := co) (wi := wi) (ho := ho) (owh := (awh 5)) (olf := (alf 5)) (oco := (aco 5)) (owi := (awi 5)) (oho := (aho 5))  hu3) gX0_takeBack_X8_copyFrom rfl rfl rfl ⟨rfl, hd_X8_copyFrom⟩ ⟨by decide, by decide⟩ rfl rfl rfl rfl [58, 59, 60, 61, 22, 23, 24, 25] (by decide) in_19 se_19 (adrAC.trans adrAC.symm) rfl (Nat.le_of_ble_eq_true rfl) dX0_takeBack_37 ⟨Nat.zero_le _, Nat.zero_le _⟩ ?_
    refine r_iconst (v := 1) C dX0_takeBack_40 ic_1 ?_
    have h9 := Option.some.inj h
    subst h9
    exact r_zret (b := true) C rfl dX0_takeBack_41
  · refine r_aldq (b := (aw 24)) C 1 2 rfl rfl (inb_vp hu2) rfl dX0_takeBack_36 ?_
    obtain ⟨u3, hu3, h⟩ := ob_bind h
    refine r_callVV (q0 := 0) (As := [.ref (aw 24)]) (rest := []) (ws1 := (wAC cyI cyZ cyW a0 a1 aw w0 w1 w2 w3 p0 first size awh alf aco awi aho u3.1 u3.2.1 u3.2.2.1 u3.2.2.2.1 u3.2.2.2.2)) C (kX8_copyFrom (w0 := w0) (w1 := w1) (w2 := w2) (w3 := w3) (v0 := (aw 24)) (v1 := (aw 25)) (v2 := (aw 26)) (v3 := (aw 27)) (p0 := p0) (wh := wh) (lf := lf) (co := co) (wi := wi) (ho := ho) (owh := (awh 6)) (olf := (alf 6)) (oco := (aco 6)) (owi := (awi 6)) (oho := (aho 6))  hu3) gX0_takeBack_X8_copyFrom rfl rfl rfl ⟨rfl, hd_X8_copyFrom⟩ ⟨by decide, by decide⟩ rfl rfl rfl rfl [58, 59, 60, 61, 26, 27, 28, 29] (by decide) in_20 se_20 (adrAC.trans adrAC.symm) rfl (Nat.le_of_ble_eq_true rfl) dX0_takeBack_37 ⟨Nat.zero_le _, Nat.zero_le _⟩ ?_
    refine r_iconst (v := 1) C dX0_takeBack_40 ic_1 ?_
    have h9 := Option.some.inj h
    subst h9
    exact r_zret (b := true) C rfl dX0_takeBack_41
  · refine r_aldq (b := (aw 28)) C 1 2 rfl rfl (inb_vp hu2) rfl dX0_takeBack_36 ?_
    obtain ⟨u3, hu3, h⟩ := ob_bind h
    refine r_callVV (q0 := 0) (As := [.ref (aw 28)]) (rest := []) (ws1 := (wAC cyI cyZ cyW a0 a1 aw w0 w1 w2 w3 p0 first size awh alf aco awi aho u3.1 u3.2.1 u3.2.2.1 u3.2.2.2.1 u3.2.2.2.2)) C (kX8_copyFrom (w0 := w0) (w1 := w1) (w2 := w2) (w3 := w3) (v0 := (aw 28)) (v1 := (aw 29)) (v2 := (aw 30)) (v3 := (aw 31)) (p0 := p0) (wh := wh) (lf := lf) (co := co) (wi := wi) (ho := ho) (owh := (awh 7)) (olf := (alf 7)) (oco := (aco 7)) (owi := (awi 7)) (oho := (aho 7))  hu3) gX0_takeBack_X8_copyFrom rfl rfl rfl ⟨rfl, hd_X8_copyFrom⟩ ⟨by decide, by decide⟩ rfl rfl rfl rfl [58, 59, 60, 61, 30, 31, 32, 33] (by decide) in_21 se_21 (adrAC.trans adrAC.symm) rfl (Nat.le_of_ble_eq_true rfl) dX0_takeBack_37 ⟨Nat.zero_le _, Nat.zero_le _⟩ ?_
    refine r_iconst (v := 1) C dX0_takeBack_40 ic_1 ?_
    have h9 := Option.some.inj h
    subst h9
    exact r_zret (b := true) C rfl dX0_takeBack_41
  · refine r_aldq (b := (aw 32)) C 1 2 rfl rfl (inb_vp hu2) rfl dX0_takeBack_36 ?_
    obtain ⟨u3, hu3, h⟩ := ob_bind h
    refine r_callVV (q0 := 0) (As := [.ref (aw 32)]) (rest := []) (ws1 := (wAC cyI cyZ cyW a0 a1 aw w0 w1 w2 w3 p0 first size awh alf aco awi aho u3.1 u3.2.1 u3.2.2.1 u3.2.2.2.1 u3.2.2.2.2)) C (kX8_copyFrom (w0 := w0) (w1 := w1) (w2 := w2) (w3 := w3) (v0 := (aw 32)) (v1 := (aw 33)) (v2 := (aw 34)) (v3 := (aw 35)) (p0 := p0) (wh := wh) (lf := lf) (co := co) (wi := wi) (ho := ho) (owh := (awh 8)) (olf := (alf 8)) (oco := (aco 8)) (owi := (awi 8)) (oho := (aho 8))  hu3) gX0_takeBack_X8_copyFrom rfl rfl rfl ⟨rfl, hd_X8_copyFrom⟩ ⟨by decide, by decide⟩ rfl rfl rfl rfl [58, 59, 60, 61, 34, 35, 36, 37] (by decide) in_22 se_22 (adrAC.trans adrAC.symm) rfl (Nat.le_of_ble_eq_true rfl) dX0_takeBack_37 ⟨Nat.zero_le _, Nat.zero_le _⟩ ?_
    refine r_iconst (v := 1) C dX0_takeBack_40 ic_1 ?_
    have h9 := Option.some.inj h
    subst h9
    exact r_zret (b := true) C rfl dX0_takeBack_41
  · refine r_aldq (b := (aw 36)) C 1 2 rfl rfl (inb_vp hu2) rfl dX0_takeBack_36 ?_
    obtain ⟨u3, hu3, h⟩ := ob_bind h
    refine r_callVV (q0 := 0) (As := [.ref (aw 36)]) (rest := []) (ws1 := (wAC cyI cyZ cyW a0 a1 aw w0 w1 w2 w3 p0 first size awh alf aco awi aho u3.1 u3.2.1 u3.2.2.1 u3.2.2.2.1 u3.2.2.2.2)) C (kX8_copyFrom (w0 := w0) (w1 := w1) (w2 := w2) (w3 := w3) (v0 := (aw 36)) (v1 := (aw 37)) (v2 := (aw 38)) (v3 := (aw 39)) (p0 := p0) (wh := wh) (lf := lf) (co := co) (wi := wi) (ho := ho) (owh := (awh 9)) (olf := (alf 9)) (oco := (aco 9)) (owi := (awi 9)) (oho := (aho 9))  hu3) gX0_takeBack_X8_copyFrom rfl rfl rfl ⟨rfl, hd_X8_copyFrom⟩ ⟨by decide, by decide⟩ rfl rfl rfl rfl [58, 59, 60, 61, 38, 39, 40, 41] (by decide) in_23 se_23 (adrAC.trans adrAC.symm) rfl (Nat.le_of_ble_eq_true rfl) dX0_takeBack_37 ⟨Nat.zero_le _, Nat.zero_le _⟩ ?_
    refine r_iconst (v := 1) C dX0_takeBack_40 ic_1 ?_
    have h9 := Option.some.inj h
    subst h9
    exact r_zret (b := true) C rfl dX0_takeBack_41
  · refine r_aldq (b := (aw 40)) C 1 2 rfl rfl (inb_vp hu2) rfl dX0_takeBack_36 ?_
    obtain ⟨u3, hu3, h⟩ := ob_bind h
    refine r_callVV (q0 := 0) (As := [.ref (aw 40)]) (rest := []) (ws1 := (wAC cyI cyZ cyW a0 a1 aw w0 w1 w2 w3 p0 first size awh alf aco awi aho u3.1 u3.2.1 u3.2.2.1 u3.2.2.2.1 u3.2.2.2.2)) C (kX8_copyFrom (w0 := w0) (w1 := w1) (w2 := w2) (w3 := w3) (v0 := (aw 40)) (v1 := (aw 41)) (v2 := (aw 42)) (v3 := (aw 43)) (p0 := p0) (wh := wh) (lf := lf) (co := co) (wi := wi) (ho := ho) (owh := (awh 10)) (olf := (alf 10)) (oco := (aco 10)) (owi := (awi 10)) (oho := (aho 10))  hu3) gX0_takeBack_X8_copyFrom rfl rfl rfl ⟨rfl, hd_X8_copyFrom⟩ ⟨by decide, by decide⟩ rfl rfl rfl rfl [58, 59, 60, 61, 42, 43, 44, 45] (by decide) in_24 se_24 (adrAC.trans adrAC.symm) rfl (Nat.le_of_ble_eq_true rfl) dX0_takeBack_37 ⟨Nat.zero_le _, Nat.zero_le _⟩ ?_
    refine r_iconst (v := 1) C dX0_takeBack_40 ic_1 ?_
    have h9 := Option.some.inj h
    subst h9
    exact r_zret (b := true) C rfl dX0_takeBack_41
  · refine r_aldq (b := (aw 44)) C 1 2 rfl rfl (inb_vp hu2) rfl dX0_takeBack_36 ?_
    obtain ⟨u3, hu3, h⟩ := ob_bind h
    refine r_callVV (q0 := 0) (As := [.ref (aw 44)]) (rest := []) (ws1 := (wAC cyI cyZ cyW a0 a1 aw w0 w1 w2 w3 p0 first size awh alf aco awi aho u3.1 u3.2.1 u3.2.2.1 u3.2.2.2.1 u3.2.2.2.2)) C (kX8_copyFrom (w0 := w0) (w1 := w1) (w2 := w2) (w3 := w3) (v0 := (aw 44)) (v1 := (aw 45)) (v2 := (aw 46)) (v3 := (aw 47)) (p0 := p0) (wh := wh) (lf := lf) (co := co) (wi := wi) (ho := ho) (owh := (awh 11)) (olf := (alf 11)) (oco := (aco 11)) (owi := (awi 11)) (oho := (aho 11))  hu3) gX0_takeBack_X8_copyFrom rfl rfl rfl ⟨rfl, hd_X8_copyFrom⟩ ⟨by decide, by decide⟩ rfl rfl rfl rfl [58, 59, 60, 61, 46, 47, 48, 49] (by decide) in_25 se_25 (adrAC.trans adrAC.symm) rfl (Nat.le_of_ble_eq_true rfl) dX0_takeBack_37 ⟨Nat.zero_le _, Nat.zero_le _⟩ ?_
    refine r_iconst (v := 1) C dX0_takeBack_40 ic_1 ?_
    have h9 := Option.some.inj h
    subst h9
    exact r_zret (b := true) C rfl dX0_takeBack_41
  · refine r_aldq (b := (aw 48)) C 1 2 rfl rfl (inb_vp hu2) rfl dX0_takeBack_36 ?_
    obtain ⟨u3, hu3, h⟩ := ob_bind h
    refine r_callVV (q0 := 0) (As := [.ref (aw 48)]) (rest := []) (ws1 := (wAC cyI cyZ cyW a0 a1 aw w0 w1 w2 w3 p0 first size awh alf aco awi aho u3.1 u3.2.1 u3.2.2.1 u3.2.2.2.1 u3.2.2.2.2)) C (kX8_copyFrom (w0 := w0) (w1 := w1) (w2 := w2) (w3 := w3) (v0 := (aw 48)) (v1 := (aw 49)) (v2 := (aw 50)) (v3 := (aw 51)) (p0 := p0) (wh := wh) (lf := lf) (co := co) (wi := wi) (ho := ho) (owh := (awh 12)) (olf := (alf 12)) (oco := (aco 12)) (owi := (awi 12)) (oho := (aho 12))  hu3) gX0_takeBack_X8_copyFrom rfl rfl rfl ⟨rfl, hd_X8_copyFrom⟩ ⟨by decide, by decide⟩ rfl rfl rfl rfl [58, 59, 60, 61, 50, 51, 52, 53] (by decide) in_26 se_26 (adrAC.trans adrAC.symm) rfl (Nat.le_of_ble_eq_true rfl) dX0_takeBack_37 ⟨Nat.zero_le _, Nat.zero_le _⟩ ?_
    refine r_iconst (v := 1) C dX0_takeBack_40 ic_1 ?_
    have h9 := Option.some.inj h
    subst h9
    exact r_zret (b := true) C rfl dX0_takeBack_41
  · refine r_aldq (b := (aw 52)) C 1 2 rfl rfl (inb_vp hu2) rfl dX0_takeBack_36 ?_
    obtain ⟨u3, hu3, h⟩ := ob_bind h
    refine r_callVV (q0 := 0) (As := [.ref (aw 52)]) (rest := []) (ws1 := (wAC cyI cyZ cyW a0 a1 aw w0 w1 w2 w3 p0 first size awh alf aco awi aho u3.1 u3.2.1 u3.2.2.1 u3.2.2.2.1 u3.2.2.2.2)) C (kX8_copyFrom (w0 := w0) (w1 := w1) (w2 := w2) (w3 := w3) (v0 := (aw 52)) (v1 := (aw 53)) (v2 := (aw 54)) (v3 := (aw 55)) (p0 := p0) (wh := wh) (lf := lf) (co := co) (wi := wi) (ho := ho) (owh := (awh 13)) (olf := (alf 13)) (oco := (aco 13)) (owi := (awi 13)) (oho := (aho 13))  hu3) gX0_takeBack_X8_copyFrom rfl rfl rfl ⟨rfl, hd_X8_copyFrom⟩ ⟨by decide, by decide⟩ rfl rfl rfl rfl [58, 59, 60, 61, 54, 55, 56, 57] (by decide) in_27 se_27 (adrAC.trans adrAC.symm) rfl (Nat.le_of_ble_eq_true rfl) dX0_takeBack_37 ⟨Nat.zero_le _, Nat.zero_le _⟩ ?_
    refine r_iconst (v := 1) C dX0_takeBack_40 ic_1 ?_
    have h9 := Option.some.inj h
    subst h9
    exact r_zret (b := true) C rfl dX0_takeBack_41
set_option maxHeartbeats 4000000 in
set_option maxRecDepth 100000 in
theorem kX0_takeBack {l : Launch} {D : va_G} {cyI cyZ cyW : ClassId} {zW zO : Nat} {a0 : Nat} {a1 : Nat} {aw : Nat → Nat} {w0 : Nat} {w1 : Nat} {w2 : Nat} {w3 : Nat} {p0 : Nat} {first : Int32} {size : Int32} {awh : (Nat → Nat → Int32)} {alf : (Nat → Nat → Int32)} {aco : (Nat → Nat → Int32)} {awi : (Nat → Int32)} {aho : (Nat → Int32)} {wh : (Nat → Int32)} {lf : (Nat → Int32)} {co : (Nat → Int32)} {wi : Int32} {ho : Int32}  {res : Bool × Int32 × (Nat → Int32) × (Nat → Int32) × (Nat → Int32) × Int32 × Int32} (h : fX0_takeBack first size awh alf aco awi aho wh lf co wi ho = some res) : KI l yX0_takeBack wsX0_takeBack ({ frames := 2, cells := 0, slots := 0, locals := 39 } : Room) D (tyA cyI cyZ cyW) zW zO [.ref a0, .ref w0] (wAC cyI cyZ cyW a0 a1 aw w0 w1 w2 w3 p0 first size awh alf aco awi aho wh lf co wi ho) (wAC cyI cyZ cyW a0 a1 aw w0 w1 w2 w3 p0 first res.2.1 awh alf aco awi aho res.2.2.1 res.2.2.2.1 res.2.2.2.2.1 res.2.2.2.2.2.1 res.2.2.2.2.2.2) (b2i res.1) := by
  refine enterI (cc := cX0_takeBack) (nL := 2) (ret := (some .boolean)) (by decide) rfl (Nat.le_of_ble_eq_true rfl) (fun p e s m below meth c A C => ?_)
  refine r_lv (lv' := [(0, .ref a0), (1, .ref w0)]) [0, 1] rfl ?_
  unfold fX0_takeBack at h
  refine r_aload_n C dX0_takeBack_0 0 rfl rfl ?_
  refine r_get (ci := 0) (CC := RX0) (T := TX0) (N := 3) (v := .int size) C hinX0_takeBack_X0 0 rfl rfl 2 (by decide) mX0_takeBack_1 rfl rfl dX0_takeBack_1 ?_
  refine r_if_ne (tgt := 9) C dX0_takeBack_4 (by decide) (fun c1 => ?_) (fun c1 => ?_)
  · replace h := ob_f h c1
    refine r_aload_n C dX0_takeBack_9 0 rfl rfl ?_
    refine r_dup C dX0_takeBack_10 rfl ?_
    refine r_get (ci := 0) (CC := RX0) (T := TX0) (N := 3) (v := .int size) C hinX0_takeBack_X0 0 rfl rfl 2 (by decide) mX0_takeBack_1 rfl rfl dX0_takeBack_11 ?_
    refine r_iconst (v := 1) C dX0_takeBack_14 ic_1 ?_
    refine r_isub C dX0_takeBack_15 ?_
    refine r_put (ci := 0) (CC := RX0) (T := TX0) (N := 3) (v := .int (size - (1 : Int32))) (ws1 := (wAC cyI cyZ cyW a0 a1 aw w0 w1 w2 w3 p0 first (size - (1 : Int32)) awh alf aco awi aho wh lf co wi ho)) (ty := .int) C hinX0_takeBack_X0 tyX0 tyX0_ok nmX0 0 rfl rfl 2 (by decide) mX0_takeBack_1 rfl rfl rfl rfl rfl (Nat.le_of_ble_eq_true rfl) rfl dX0_takeBack_16 ?_
    refine r_aload_n C dX0_takeBack_19 1 rfl rfl ?_
    refine r_aload_n C dX0_takeBack_20 0 rfl rfl ?_
    refine r_get (ci := 0) (CC := RX0) (T := TX0) (N := 3) (v := .ref a1) C hinX0_takeBack_X0 0 rfl rfl 0 (by decide) mX0_takeBack_2 rfl rfl dX0_takeBack_21 ?_
    refine r_aload_n C dX0_takeBack_24 0 rfl rfl ?_
    refine r_get (ci := 0) (CC := RX0) (T := TX0) (N := 3) (v := .int first) C hinX0_takeBack_X0 0 rfl rfl 1 (by decide) mX0_takeBack_3 rfl rfl dX0_takeBack_25 ?_
    refine r_aload_n C dX0_takeBack_28 0 rfl rfl ?_
    refine r_get (ci := 0) (CC := RX0) (T := TX0) (N := 3) (v := .int (size - (1 : Int32))) C hinX0_takeBack_X0 0 rfl rfl 2 (by decide) mX0_takeBack_1 rfl rfl dX0_takeBack_29 ?_
    refine r_iadd C dX0_takeBack_32 ?_
    refine r_bipush (v := 14) C dX0_takeBack_33 bp_14 ?_
    refine r_irem C dX0_takeBack_35 (by decide) ?_
    refine r_lv (lv' := []) [] rfl ?_
    exact LX0_takeBack_36 C (y0 := (jrem (first + (size - (1 : Int32))) (14 : Int32))) (first := first) (size := (size - (1 : Int32))) (awh := awh) (alf := alf) (aco := aco) (awi := awi) (aho := aho) (wh := wh) (lf := lf) (co := co) (wi := wi) (ho := ho)  h
  · replace h := ob_t h c1
    refine r_iconst (v := 0) C dX0_takeBack_7 ic_0 ?_
    have h9 := Option.some.inj h
    subst h9
    exact r_zret (b := false) C rfl dX0_takeBack_8

/-! ===== FlagWash$Forecast.hoursToFight ===== -/
def gX2_hoursToFight_58 (rec58 : Int32 → (Nat → Int32) → (Nat → Int32) → (Nat → Int32) → Int32 → Option (Int32 × (Nat → Int32) × (Nat → Int32) × (Nat → Int32) × Int32 × Int32)) (x3 : Int32) (x4 : Int32) (wh : (Nat → Int32)) (lf : (Nat → Int32)) (co : (Nat → Int32)) (wi : Int32) (ho : Int32) (pegs : Int32) (flags : Int32) (pcl : (Nat → Int32)) (pho : (Nat → Int32)) : Option (Int32 × (Nat → Int32) × (Nat → Int32) × (Nat → Int32) × Int32 × Int32) :=
 (if (40 : Int32) < x4 then (some ((-9 : Int32), wh, lf, co, wi, ho))
 else ((fX8_homeBits wh flags).bind fun u8 => ((fX4_hostilePairs (u8 &&& x3) flags pho).bind fun u9 => (if u9 ≤ 0 then ((fX8_passHour wh lf co wi ho pegs flags pcl).bind fun u11 => (rec58 (x4 + (1 : Int32)) u11.2.1 u11.2.2.1 u11.2.2.2.1 u11.2.2.2.2))
 else (some (x4, wh, lf, co, wi, ho))))))
def fX2_hoursToFight_58  (x3 : Int32) (wi : Int32) (pegs : Int32) (flags : Int32) (pcl : (Nat → Int32)) (pho : (Nat → Int32)) : Nat → Int32 → (Nat → Int32) → (Nat → Int32) → (Nat → Int32) → Int32 → Option (Int32 × (Nat → Int32) × (Nat → Int32) × (Nat → Int32) × Int32 × Int32)
  | 0 => fun _ _ _ _ _ => none
  | n + 1 => fun x4 wh lf co ho => gX2_hoursToFight_58 (fX2_hoursToFight_58  x3 wi pegs flags pcl pho n) x3 x4 wh lf co wi ho pegs flags pcl pho
def fX2_hoursToFight_49 (rec25 : Int32 → (Nat → Int32) → (Nat → Int32) → Option (Int32 × (Nat → Int32) × (Nat → Int32) × (Nat → Int32) × Int32 × Int32)) (x2 : Int32) (x3 : Int32) (x4 : Int32) (wh : (Nat → Int32)) (lf : (Nat → Int32)) (co : (Nat → Int32)) (wi : Int32) (ho : Int32) (pegs : Int32) (flags : Int32) (pcl : (Nat → Int32)) (phr : (Nat → Int32)) (pho : (Nat → Int32)) : Option (Int32 × (Nat → Int32) × (Nat → Int32) × (Nat → Int32) × Int32 × Int32) :=
 (rec25 (x4 + (1 : Int32)) wh lf)
def gX2_hoursToFight_25 (rec25 : Int32 → (Nat → Int32) → (Nat → Int32) → Option (Int32 × (Nat → Int32) × (Nat → Int32) × (Nat → Int32) × Int32 × Int32)) (x2 : Int32) (x3 : Int32) (x4 : Int32) (wh : (Nat → Int32)) (lf : (Nat → Int32)) (co : (Nat → Int32)) (wi : Int32) (ho : Int32) (pegs : Int32) (flags : Int32) (pcl : (Nat → Int32)) (phr : (Nat → Int32)) (pho : (Nat → Int32)) : Option (Int32 × (Nat → Int32) × (Nat → Int32) × (Nat → Int32) × Int32 × Int32) :=
 (if (5 : Int32) ≤ x4 then (fX2_hoursToFight_58  x3 wi pegs flags pcl pho FU (0 : Int32) wh lf co ho)
 else (if ((x2 >>> (x4 &&& 31)) &&& (1 : Int32)) = 0 then (fX2_hoursToFight_49 rec25 x2 x3 x4 wh lf co wi ho pegs flags pcl phr pho)
 else ((fX8_putInTub x4 wh lf flags phr).bind fun u6 => (fX2_hoursToFight_49 rec25 x2 x3 x4 u6.1 u6.2 co wi ho pegs flags pcl phr pho))))
def fX2_hoursToFight_25  (x2 : Int32) (x3 : Int32) (co : (Nat → Int32)) (wi : Int32) (ho : Int32) (pegs : Int32) (flags : Int32) (pcl : (Nat → Int32)) (phr : (Nat → Int32)) (pho : (Nat → Int32)) : Nat → Int32 → (Nat → Int32) → (Nat → Int32) → Option (Int32 × (Nat → Int32) × (Nat → Int32) × (Nat → Int32) × Int32 × Int32)
  | 0 => fun _ _ _ => none
  | n + 1 => fun x4 wh lf => gX2_hoursToFight_25 (fX2_hoursToFight_25  x2 x3 co wi ho pegs flags pcl phr pho n) x2 x3 x4 wh lf co wi ho pegs flags pcl phr pho
def fX2_hoursToFight  (x2 : Int32) (x3 : Int32) (wh : (Nat → Int32)) (lf : (Nat → Int32)) (co : (Nat → Int32)) (wi : Int32) (ho : Int32) (owh : (Nat → Int32)) (olf : (Nat → Int32)) (oco : (Nat → Int32)) (owi : Int32) (oho : Int32) (pegs : Int32) (flags : Int32) (pcl : (Nat → Int32)) (phr : (Nat → Int32)) (pho : (Nat → Int32)) : Option (Int32 × (Nat → Int32) × (Nat → Int32) × (Nat → Int32) × Int32 × Int32) :=
 ((fX4_hostilePairs x3 flags pho).bind fun u1 => (if u1 = 0 then (some ((-9 : Int32), wh, lf, co, wi, ho))
 else ((fX8_copyFrom wh lf co owh olf oco owi oho).bind fun u3 => (fX2_hoursToFight_25  x2 x3 u3.2.2.1 u3.2.2.2.1 u3.2.2.2.2 pegs flags pcl phr pho FU (0 : Int32) u3.1 u3.2.1))))
theorem hinX2_hoursToFight_X8 : ∀ w ∈ u_ws RX8 TX8 6, w ∈ wsX2_hoursToFight := fun w h => List.mem_cons_of_mem _ (List.mem_append_left _ (List.mem_append_left _ (List.mem_append_right _ h)))
theorem mX2_hoursToFight_1 : Cond.fieldLink RX2 15 "FlagWash$Wash" "plan" "LFlagWash$Plan;" ∈ wsX2_hoursToFight := List.mem_of_getElem? (i := 1) rfl
theorem hinX2_hoursToFight_X2 : ∀ w ∈ u_ws RX2 TX2 1, w ∈ wsX2_hoursToFight := fun w h => List.mem_cons_of_mem _ (List.mem_append_left _ (List.mem_append_right _ h))
theorem mX2_hoursToFight_2 : Cond.fieldLink RX2 9 "FlagWash$Forecast" "ahead" "LFlagWash$Wash;" ∈ wsX2_hoursToFight := List.mem_of_getElem? (i := 2) rfl
theorem hd_X2_hoursToFight : yX2_hoursToFight.cls ≠ "java/lang/invoke/MethodHandle" ∧ yX2_hoursToFight.cls ≠ "java/lang/invoke/VarHandle" ∧ (parseMethodDescriptor yX2_hoursToFight.desc).map (fun d => d.parameters.length) = some 3 := by decide +kernel
set_option maxHeartbeats 4000000 in
set_option maxRecDepth 100000 in
theorem LGX2_hoursToFight_58 {p : Program} {l : Launch} {e : Env} {s : State} {m : MethodId} {args : Array Value} {below : List Frame} {meth : Method} {c : Code} {D : va_G} {cyI cyZ cyW : ClassId} {zW zO : Nat} {A : Nat → Prop} (C : Cx p s m args meth c cX2_hoursToFight RX2 "hoursToFight" wsX2_hoursToFight (some .int) 5 D (tyA cyI cyZ cyW) zW zO A) {f0 : Nat} {w0 : Nat} {w1 : Nat} {w2 : Nat} {w3 : Nat} {v0 : Nat} {v1 : Nat} {v2 : Nat} {v3 : Nat} {p0 : Nat} {p1 : Nat} {p2 : Nat} {p3 : Nat} {p4 : Nat} {wh : (Nat → Int32)} {lf : (Nat → Int32)} {co : (Nat → Int32)} {wi : Int32} {ho : Int32} {owh : (Nat → Int32)} {olf : (Nat → Int32)} {oco : (Nat → Int32)} {owi : Int32} {oho : Int32} {tubs : Int32} {pegs : Int32} {pwi : Int32} {flags : Int32} {pco : (Nat → Int32)} {pcl : (Nat → Int32)} {phr : (Nat → Int32)} {pho : (Nat → Int32)} {x3 : Int32} {x4 : Int32} {rec58 : Int32 → (Nat → Int32) → (Nat → Int32) → (Nat → Int32) → Int32 → Option (Int32 × (Nat → Int32) × (Nat → Int32) × (Nat → Int32) × Int32 × Int32)} {res : Int32 × (Nat → Int32) × (Nat → Int32) × (Nat → Int32) × Int32 × Int32} (hrec58 : ∀ (x4 : Int32) (wh : (Nat → Int32)) (lf : (Nat → Int32)) (co : (Nat → Int32)) (ho : Int32), rec58 x4 wh lf co ho = some res → Mx p l e ({ frames := 4, cells := 0, slots := 0, locals := 85 } : Room) s m args below meth c (MQ below (QI D (tyA cyI cyZ cyW) A (wFO cyI cyZ cyW f0 w0 w1 w2 w3 v0 v1 v2 v3 p0 p1 p2 p3 p4 res.2.1 res.2.2.1 res.2.2.2.1 res.2.2.2.2.1 res.2.2.2.2.2 owh olf oco owi oho tubs pegs pwi flags pco pcl phr pho) res.1) args s 0 0 A) 5 D A 0 0 (wFO cyI cyZ cyW f0 w0 w1 w2 w3 v0 v1 v2 v3 p0 p1 p2 p3 p4 wh lf co wi ho owh olf oco owi oho tubs pegs pwi flags pco pcl phr pho) 58 [(0, .ref f0), (3, .int x3), (4, .int x4)] []) (h : gX2_hoursToFight_58 rec58 x3 x4 wh lf co wi ho pegs flags pcl pho = some res) : Mx p l e ({ frames := 4, cells := 0, slots := 0, locals := 85 } : Room) s m args below meth c (MQ below (QI D (tyA cyI cyZ cyW) A (wFO cyI cyZ cyW f0 w0 w1 w2 w3 v0 v1 v2 v3 p0 p1 p2 p3 p4 res.2.1 res.2.2.1 res.2.2.2.1 res.2.2.2.2.1 res.2.2.2.2.2 owh olf oco owi oho tubs pegs pwi flags pco pcl phr pho) res.1) args s 0 0 A) 5 D A 0 0 (wFO cyI cyZ cyW f0 w0 w1 w2 w3 v0 v1 v2 v3 p0 p1 p2 p3 p4 wh lf co wi ho owh olf oco owi oho tubs pegs pwi flags pco pcl phr pho) 58 [(0, .ref f0), (3, .int x3), (4, .int x4)] [] := by
  unfold gX2_hoursToFight_58 at h
  refine r_iload C dX2_hoursToFight_58 2 rfl ?_
  refine r_bipush (v := 40) C dX2_hoursToFight_60 bp_40 ?_
  refine r_icmp_gt (tgt := 104) C dX2_hoursToFight_62 (by decide) (fun c7 => ?_) (fun c7 => ?_)
  · replace h := ob_t h c7
    refine r_bipush (v := -9) C dX2_hoursToFight_104 bp_m9 ?_
    have h9 := Option.some.inj h
    subst h9
    exact r_iret C rfl dX2_hoursToFight_106
  · replace h := ob_f h c7
    refine r_aload_n C dX2_hoursToFight_65 0 rfl rfl ?_
    refine r_get (ci := 1) (CC := RX2) (T := TX2) (N := 1) (v := .ref w0) C hinX2_hoursToFight_X2 0 rfl rfl 0 (by decide) mX2_hoursToFight_2 rfl rfl dX2_hoursToFight_66 ?_
    refine r_get (ci := 5) (CC := RX8) (T := TX8) (N := 6) (v := .ref p0) C hinX2_hoursToFight_X8 1 rfl rfl 0 (by decide) mX2_hoursToFight_1 rfl rfl dX2_hoursToFight_69 ?_
    refine r_aload_n C dX2_hoursToFight_72 0 rfl rfl ?_
    refine r_get (ci := 1) (CC := RX2) (T := TX2) (N := 1) (v := .ref w0) C hinX2_hoursToFight_X2 0 rfl rfl 0 (by decide) mX2_hoursToFight_2 rfl rfl dX2_hoursToFight_73 ?_
    obtain ⟨u8, hu8, h⟩ := ob_bind h
    refine r_readVI (q0 := 0) (As := []) (rest := [.ref p0]) C (kX8_homeBits (w0 := w0) (w1 := w1) (w2 := w2) (w3 := w3) (p0 := p0) (p1 := p1) (p2 := p2) (p3 := p3) (p4 := p4) (wh := wh) (lf := lf) (co := co) (wi := wi) (ho := ho) (tubs := tubs) (pegs := pegs) (pwi := pwi) (flags := flags) (pco := pco) (pcl := pcl) (phr := phr) (pho := pho)  hu8) gX2_hoursToFight_X8_homeBits rfl rfl rfl ⟨rfl, hd_X8_homeBits⟩ ⟨by decide, by decide⟩ rfl rfl rfl rfl [1, 2, 3, 4, 9, 10, 11, 12, 13] (by decide) in_36 rfl (Nat.le_of_ble_eq_true rfl) dX2_hoursToFight_76 ⟨Nat.zero_le _, Nat.zero_le _⟩ ?_
    refine r_iload_n C dX2_hoursToFight_79 1 rfl rfl ?_
    refine r_iand C dX2_hoursToFight_80 ?_
    obtain ⟨u9, hu9, h⟩ := ob_bind h
    refine r_readVI (q0 := 0) (As := [.int (u8 &&& x3)]) (rest := []) C (kX4_hostilePairs (p0 := p0) (p1 := p1) (p2 := p2) (p3 := p3) (p4 := p4) (tubs := tubs) (pegs := pegs) (pwi := pwi) (flags := flags) (pco := pco) (pcl := pcl) (phr := phr) (pho := pho) (x1 := (u8 &&& x3)) hu9) gX2_hoursToFight_X4_hostilePairs rfl rfl rfl ⟨rfl, hd_X4_hostilePairs⟩ ⟨by decide, by decide⟩ rfl rfl rfl rfl [9, 10, 11, 12, 13] (by decide) in_33 rfl (Nat.le_of_ble_eq_true rfl) dX2_hoursToFight_81 ⟨Nat.zero_le _, Nat.zero_le _⟩ ?_
    refine r_if_le (tgt := 90) C dX2_hoursToFight_84 (by decide) (fun c10 => ?_) (fun c10 => ?_)
    · replace h := ob_t h c10
      refine r_aload_n C dX2_hoursToFight_90 0 rfl rfl ?_
      refine r_get (ci := 1) (CC := RX2) (T := TX2) (N := 1) (v := .ref w0) C hinX2_hoursToFight_X2 0 rfl rfl 0 (by decide) mX2_hoursToFight_2 rfl rfl dX2_hoursToFight_91 ?_
      obtain ⟨u11, hu11, h⟩ := ob_bind h
      refine r_callVI (q0 := 0) (As := []) (rest := []) (ws1 := (wFO cyI cyZ cyW f0 w0 w1 w2 w3 v0 v1 v2 v3 p0 p1 p2 p3 p4 u11.2.1 u11.2.2.1 u11.2.2.2.1 wi u11.2.2.2.2 owh olf oco owi oho tubs pegs pwi flags pco pcl phr pho)) C (kX8_passHour (w0 := w0) (w1 := w1) (w2 := w2) (w3 := w3) (p0 := p0) (p1 := p1) (p2 := p2) (p3 := p3) (p4 := p4) (wh := wh) (lf := lf) (co := co) (wi := wi) (ho := ho) (tubs := tubs) (pegs := pegs) (pwi := pwi) (flags := flags) (pco := pco) (pcl := pcl) (phr := phr) (pho := pho)  hu11) gX2_hoursToFight_X8_passHour rfl rfl rfl ⟨rfl, hd_X8_passHour⟩ ⟨by decide, by decide⟩ rfl rfl rfl rfl [1, 2, 3, 4, 9, 10, 11, 12, 13] (by decide) in_37 se_37 (adrFO.trans adrFO.symm) rfl (Nat.le_of_ble_eq_true rfl) dX2_hoursToFight_94 ⟨Nat.zero_le _, Nat.zero_le _⟩ ?_
      refine r_pop C dX2_hoursToFight_97 rfl ?_
      refine r_iinc (v := 1) (lv' := [(4, .int (x4 + (1 : Int32))), (0, .ref f0), (3, .int x3)]) C dX2_hoursToFight_98 2 rfl ic_1 (by decide) rfl ?_
      refine r_goto (tgt := 58) C dX2_hoursToFight_101 (by decide) ?_
      refine r_lv (lv' := [(0, .ref f0), (3, .int x3), (4, .int (x4 + (1 : Int32)))]) [1, 2, 0] rfl ?_
      exact hrec58 (x4 + (1 : Int32)) u11.2.1 u11.2.2.1 u11.2.2.2.1 u11.2.2.2.2 h
    · replace h := ob_f h c10
      refine r_iload C dX2_hoursToFight_87 2 rfl ?_
      have h9 := Option.some.inj h
      subst h9
      exact r_iret C rfl dX2_hoursToFight_89
set_option maxHeartbeats 4000000 in
set_option maxRecDepth 100000 in
theorem LX2_hoursToFight_58 {p : Program} {l : Launch} {e : Env} {s : State} {m : MethodId} {args : Array Value} {below : List Frame} {meth : Method} {c : Code} {D : va_G} {cyI cyZ cyW : ClassId} {zW zO : Nat} {A : Nat → Prop} (C : Cx p s m args meth c cX2_hoursToFight RX2 "hoursToFight" wsX2_hoursToFight (some .int) 5 D (tyA cyI cyZ cyW) zW zO A) {f0 : Nat} {w0 : Nat} {w1 : Nat} {w2 : Nat} {w3 : Nat} {v0 : Nat} {v1 : Nat} {v2 : Nat} {v3 : Nat} {p0 : Nat} {p1 : Nat} {p2 : Nat} {p3 : Nat} {p4 : Nat} {x3 : Int32} {wi : Int32} {owh : (Nat → Int32)} {olf : (Nat → Int32)} {oco : (Nat → Int32)} {owi : Int32} {oho : Int32} {tubs : Int32} {pegs : Int32} {pwi : Int32} {flags : Int32} {pco : (Nat → Int32)} {pcl : (Nat → Int32)} {phr : (Nat → Int32)} {pho : (Nat → Int32)}  {res : Int32 × (Nat → Int32) × (Nat → Int32) × (Nat → Int32) × Int32 × Int32}  : ∀ (n : Nat) (x4 : Int32) (wh : (Nat → Int32)) (lf : (Nat → Int32)) (co : (Nat → Int32)) (ho : Int32), fX2_hoursToFight_58  x3 wi pegs flags pcl pho n x4 wh lf co ho = some res → Mx p l e ({ frames := 4, cells := 0, slots := 0, locals := 85 } : Room) s m args below meth c (MQ below (QI D (tyA cyI cyZ cyW) A (wFO cyI cyZ cyW f0 w0 w1 w2 w3 v0 v1 v2 v3 p0 p1 p2 p3 p4 res.2.1 res.2.2.1 res.2.2.2.1 res.2.2.2.2.1 res.2.2.2.2.2 owh olf oco owi oho tubs pegs pwi flags pco pcl phr pho) res.1) args s 0 0 A) 5 D A 0 0 (wFO cyI cyZ cyW f0 w0 w1 w2 w3 v0 v1 v2 v3 p0 p1 p2 p3 p4 wh lf co wi ho owh olf oco owi oho tubs pegs pwi flags pco pcl phr pho) 58 [(0, .ref f0), (3, .int x3), (4, .int x4)] [] := by
  intro n
  induction n with
  | zero => intro x4 wh lf co ho h; cases h
  | succ n ih => intro x4 wh lf co ho h; exact LGX2_hoursToFight_58 C ih h
set_option maxHeartbeats 4000000 in
set_option maxRecDepth 100000 in
theorem LX2_hoursToFight_49 {p : Program} {l : Launch} {e : Env} {s : State} {m : MethodId} {args : Array Value} {below : List Frame} {meth : Method} {c : Code} {D : va_G} {cyI cyZ cyW : ClassId} {zW zO : Nat} {A : Nat → Prop} (C : Cx p s m args meth c cX2_hoursToFight RX2 "hoursToFight" wsX2_hoursToFight (some .int) 5 D (tyA cyI cyZ cyW) zW zO A) {f0 : Nat} {w0 : Nat} {w1 : Nat} {w2 : Nat} {w3 : Nat} {v0 : Nat} {v1 : Nat} {v2 : Nat} {v3 : Nat} {p0 : Nat} {p1 : Nat} {p2 : Nat} {p3 : Nat} {p4 : Nat} {wh : (Nat → Int32)} {lf : (Nat → Int32)} {co : (Nat → Int32)} {wi : Int32} {ho : Int32} {owh : (Nat → Int32)} {olf : (Nat → Int32)} {oco : (Nat → Int32)} {owi : Int32} {oho : Int32} {tubs : Int32} {pegs : Int32} {pwi : Int32} {flags : Int32} {pco : (Nat → Int32)} {pcl : (Nat → Int32)} {phr : (Nat → Int32)} {pho : (Nat → Int32)} {x2 : Int32} {x3 : Int32} {x4 : Int32} {rec25 : Int32 → (Nat → Int32) → (Nat → Int32) → Option (Int32 × (Nat → Int32) × (Nat → Int32) × (Nat → Int32) × Int32 × Int32)} {res : Int32 × (Nat → Int32) × (Nat → Int32) × (Nat → Int32) × Int32 × Int32} (hrec25 : ∀ (x4 : Int32) (wh : (Nat → Int32)) (lf : (Nat → Int32)), rec25 x4 wh lf = some res → Mx p l e ({ frames := 4, cells := 0, slots := 0, locals := 85 } : Room) s m args below meth c (MQ below (QI D (tyA cyI cyZ cyW) A (wFO cyI cyZ cyW f0 w0 w1 w2 w3 v0 v1 v2 v3 p0 p1 p2 p3 p4 res.2.1 res.2.2.1 res.2.2.2.1 res.2.2.2.2.1 res.2.2.2.2.2 owh olf oco owi oho tubs pegs pwi flags pco pcl phr pho) res.1) args s 0 0 A) 5 D A 0 0 (wFO cyI cyZ cyW f0 w0 w1 w2 w3 v0 v1 v2 v3 p0 p1 p2 p3 p4 wh lf co wi ho owh olf oco owi oho tubs pegs pwi flags pco pcl phr pho) 25 [(0, .ref f0), (2, .int x2), (3, .int x3), (4, .int x4)] []) (h : fX2_hoursToFight_49 rec25 x2 x3 x4 wh lf co wi ho pegs flags pcl phr pho = some res) : Mx p l e ({ frames := 4, cells := 0, slots := 0, locals := 85 } : Room) s m args below meth c (MQ below (QI D (tyA cyI cyZ cyW) A (wFO cyI cyZ cyW f0 w0 w1 w2 w3 v0 v1 v2 v3 p0 p1 p2 p3 p4 res.2.1 res.2.2.1 res.2.2.2.1 res.2.2.2.2.1 res.2.2.2.2.2 owh olf oco owi oho tubs pegs pwi flags pco pcl phr pho) res.1) args s 0 0 A) 5 D A 0 0 (wFO cyI cyZ cyW f0 w0 w1 w2 w3 v0 v1 v2 v3 p0 p1 p2 p3 p4 wh lf co wi ho owh olf oco owi oho tubs pegs pwi flags pco pcl phr pho) 49 [(0, .ref f0), (2, .int x2), (3, .int x3), (4, .int x4)] [] := by
  unfold fX2_hoursToFight_49 at h
  refine r_iinc (v := 1) (lv' := [(4, .int (x4 + (1 : Int32))), (0, .ref f0), (2, .int x2), (3, .int x3)]) C dX2_hoursToFight_49 3 rfl ic_1 (by decide) rfl ?_
  refine r_goto (tgt := 25) C dX2_hoursToFight_52 (by decide) ?_
  refine r_lv (lv' := [(0, .ref f0), (2, .int x2), (3, .int x3), (4, .int (x4 + (1 : Int32)))]) [1, 2, 3, 0] rfl ?_
  exact hrec25 (x4 + (1 : Int32)) wh lf h
set_option maxHeartbeats 4000000 in
set_option maxRecDepth 100000 in
theorem LGX2_hoursToFight_25 {p : Program} {l : Launch} {e : Env} {s : State} {m : MethodId} {args : Array Value} {below : List Frame} {meth : Method} {c : Code} {D : va_G} {cyI cyZ cyW : ClassId} {zW zO : Nat} {A : Nat → Prop} (C : Cx p s m args meth c cX2_hoursToFight RX2 "hoursToFight" wsX2_hoursToFight (some .int) 5 D (tyA cyI cyZ cyW) zW zO A) {f0 : Nat} {w0 : Nat} {w1 : Nat} {w2 : Nat} {w3 : Nat} {v0 : Nat} {v1 : Nat} {v2 : Nat} {v3 : Nat} {p0 : Nat} {p1 : Nat} {p2 : Nat} {p3 : Nat} {p4 : Nat} {wh : (Nat → Int32)} {lf : (Nat → Int32)} {co : (Nat → Int32)} {wi : Int32} {ho : Int32} {owh : (Nat → Int32)} {olf : (Nat → Int32)} {oco : (Nat → Int32)} {owi : Int32} {oho : Int32} {tubs : Int32} {pegs : Int32} {pwi : Int32} {flags : Int32} {pco : (Nat → Int32)} {pcl : (Nat → Int32)} {phr : (Nat → Int32)} {pho : (Nat → Int32)} {x2 : Int32} {x3 : Int32} {x4 : Int32} {rec25 : Int32 → (Nat → Int32) → (Nat → Int32) → Option (Int32 × (Nat → Int32) × (Nat → Int32) × (Nat → Int32) × Int32 × Int32)} {res : Int32 × (Nat → Int32) × (Nat → Int32) × (Nat → Int32) × Int32 × Int32} (hrec25 : ∀ (x4 : Int32) (wh : (Nat → Int32)) (lf : (Nat → Int32)), rec25 x4 wh lf = some res → Mx p l e ({ frames := 4, cells := 0, slots := 0, locals := 85 } : Room) s m args below meth c (MQ below (QI D (tyA cyI cyZ cyW) A (wFO cyI cyZ cyW f0 w0 w1 w2 w3 v0 v1 v2 v3 p0 p1 p2 p3 p4 res.2.1 res.2.2.1 res.2.2.2.1 res.2.2.2.2.1 res.2.2.2.2.2 owh olf oco owi oho tubs pegs pwi flags pco pcl phr pho) res.1) args s 0 0 A) 5 D A 0 0 (wFO cyI cyZ cyW f0 w0 w1 w2 w3 v0 v1 v2 v3 p0 p1 p2 p3 p4 wh lf co wi ho owh olf oco owi oho tubs pegs pwi flags pco pcl phr pho) 25 [(0, .ref f0), (2, .int x2), (3, .int x3), (4, .int x4)] []) (h : gX2_hoursToFight_25 rec25 x2 x3 x4 wh lf co wi ho pegs flags pcl phr pho = some res) : Mx p l e ({ frames := 4, cells := 0, slots := 0, locals := 85 } : Room) s m args below meth c (MQ below (QI D (tyA cyI cyZ cyW) A (wFO cyI cyZ cyW f0 w0 w1 w2 w3 v0 v1 v2 v3 p0 p1 p2 p3 p4 res.2.1 res.2.2.1 res.2.2.2.1 res.2.2.2.2.1 res.2.2.2.2.2 owh olf oco owi oho tubs pegs pwi flags pco pcl phr pho) res.1) args s 0 0 A) 5 D A 0 0 (wFO cyI cyZ cyW f0 w0 w1 w2 w3 v0 v1 v2 v3 p0 p1 p2 p3 p4 wh lf co wi ho owh olf oco owi oho tubs pegs pwi flags pco pcl phr pho) 25 [(0, .ref f0), (2, .int x2), (3, .int x3), (4, .int x4)] [] := by
  unfold gX2_hoursToFight_25 at h
  refine r_iload C dX2_hoursToFight_25 3 rfl ?_
  refine r_iconst (v := 5) C dX2_hoursToFight_27 ic_5 ?_
  refine r_icmp_ge (tgt := 55) C dX2_hoursToFight_28 (by decide) (fun c4 => ?_) (fun c4 => ?_)
  · replace h := ob_t h c4
    refine r_iconst (v := 0) C dX2_hoursToFight_55 ic_0 ?_
    refine r_istore (lv' := [(4, .int (0 : Int32)), (0, .ref f0), (2, .int x2), (3, .int x3)]) C dX2_hoursToFight_56 (by decide) rfl ?_
    refine r_lv (lv' := [(0, .ref f0), (3, .int x3), (4, .int (0 : Int32))]) [1, 3, 0] rfl ?_
    exact LX2_hoursToFight_58 C (x3 := x3) (wi := wi) (owh := owh) (olf := olf) (oco := oco) (owi := owi) (oho := oho) (tubs := tubs) (pegs := pegs) (pwi := pwi) (flags := flags) (pco := pco) (pcl := pcl) (phr := phr) (pho := pho)  FU (0 : Int32) wh lf co ho h
  · replace h := ob_f h c4
    refine r_iload_n C dX2_hoursToFight_31 1 rfl rfl ?_
    refine r_iload C dX2_hoursToFight_32 3 rfl ?_
    refine r_ishr C dX2_hoursToFight_34 ?_
    refine r_iconst (v := 1) C dX2_hoursToFight_35 ic_1 ?_
    refine r_iand C dX2_hoursToFight_36 ?_
    refine r_if_eq (tgt := 49) C dX2_hoursToFight_37 (by decide) (fun c5 => ?_) (fun c5 => ?_)
    · replace h := ob_t h c5
      refine r_lv (lv' := [(0, .ref f0), (2, .int x2), (3, .int x3), (4, .int x4)]) [0, 1, 2, 3] rfl ?_
      exact LX2_hoursToFight_49 C (x2 := x2) (x3 := x3) (x4 := x4) (wh := wh) (lf := lf) (co := co) (wi := wi) (ho := ho) (owh := owh) (olf := olf) (oco := oco) (owi := owi) (oho := oho) (tubs := tubs) (pegs := pegs) (pwi := pwi) (flags := flags) (pco := pco) (pcl := pcl) (phr := phr) (pho := pho) hrec25 h
    · replace h := ob_f h c5
      refine r_aload_n C dX2_hoursToFight_40 0 rfl rfl ?_
      refine r_get (ci := 1) (CC := RX2) (T := TX2) (N := 1) (v := .ref w0) C hinX2_hoursToFight_X2 0 rfl rfl 0 (by decide) mX2_hoursToFight_2 rfl rfl dX2_hoursToFight_41 ?_
      refine r_iload C dX2_hoursToFight_44 3 rfl ?_
      obtain ⟨u6, hu6, h⟩ := ob_bind h
      refine r_callVV (q0 := 0) (As := [.int x4]) (rest := []) (ws1 := (wFO cyI cyZ cyW f0 w0 w1 w2 w3 v0 v1 v2 v3 p0 p1 p2 p3 p4 u6.1 u6.2 co wi ho owh olf oco owi oho tubs pegs pwi flags pco pcl phr pho)) C (kX8_putInTub (w0 := w0) (w1 := w1) (w2 := w2) (w3 := w3) (p0 := p0) (p1 := p1) (p2 := p2) (p3 := p3) (p4 := p4) (wh := wh) (lf := lf) (co := co) (wi := wi) (ho := ho) (tubs := tubs) (pegs := pegs) (pwi := pwi) (flags := flags) (pco := pco) (pcl := pcl) (phr := phr) (pho := pho) (x1 := x4) hu6) gX2_hoursToFight_X8_putInTub rfl rfl rfl ⟨rfl, hd_X8_putInTub⟩ ⟨by decide, by decide⟩ rfl rfl rfl rfl [1, 2, 3, 4, 9, 10, 11, 12, 13] (by decide) in_35 se_35 (adrFO.trans adrFO.symm) rfl (Nat.le_of_ble_eq_true rfl) dX2_hoursToFight_46 ⟨Nat.zero_le _, Nat.zero_le _⟩ ?_
      refine r_lv (lv' := [(0, .ref f0), (2, .int x2), (3, .int x3), (4, .int x4)]) [0, 1, 2, 3] rfl ?_
      exact LX2_hoursToFight_49 C (x2 := x2) (x3 := x3) (x4 := x4) (wh := u6.1) (lf := u6.2) (co := co) (wi := wi) (ho := ho) (owh := owh) (olf := olf) (oco := oco) (owi := owi) (oho := oho) (tubs := tubs) (pegs := pegs) (pwi := pwi) (flags := flags) (pco := pco) (pcl := pcl) (phr := phr) (pho := pho) hrec25 h
set_option maxHeartbeats 4000000 in
set_option maxRecDepth 100000 in
theorem LX2_hoursToFight_25 {p : Program} {l : Launch} {e : Env} {s : State} {m : MethodId} {args : Array Value} {below : List Frame} {meth : Method} {c : Code} {D : va_G} {cyI cyZ cyW : ClassId} {zW zO : Nat} {A : Nat → Prop} (C : Cx p s m args meth c cX2_hoursToFight RX2 "hoursToFight" wsX2_hoursToFight (some .int) 5 D (tyA cyI cyZ cyW) zW zO A) {f0 : Nat} {w0 : Nat} {w1 : Nat} {w2 : Nat} {w3 : Nat} {v0 : Nat} {v1 : Nat} {v2 : Nat} {v3 : Nat} {p0 : Nat} {p1 : Nat} {p2 : Nat} {p3 : Nat} {p4 : Nat} {x2 : Int32} {x3 : Int32} {co : (Nat → Int32)} {wi : Int32} {ho : Int32} {owh : (Nat → Int32)} {olf : (Nat → Int32)} {oco : (Nat → Int32)} {owi : Int32} {oho : Int32} {tubs : Int32} {pegs : Int32} {pwi : Int32} {flags : Int32} {pco : (Nat → Int32)} {pcl : (Nat → Int32)} {phr : (Nat → Int32)} {pho : (Nat → Int32)}  {res : Int32 × (Nat → Int32) × (Nat → Int32) × (Nat → Int32) × Int32 × Int32}  : ∀ (n : Nat) (x4 : Int32) (wh : (Nat → Int32)) (lf : (Nat → Int32)), fX2_hoursToFight_25  x2 x3 co wi ho pegs flags pcl phr pho n x4 wh lf = some res → Mx p l e ({ frames := 4, cells := 0, slots := 0, locals := 85 } : Room) s m args below meth c (MQ below (QI D (tyA cyI cyZ cyW) A (wFO cyI cyZ cyW f0 w0 w1 w2 w3 v0 v1 v2 v3 p0 p1 p2 p3 p4 res.2.1 res.2.2.1 res.2.2.2.1 res.2.2.2.2.1 res.2.2.2.2.2 owh olf oco owi oho tubs pegs pwi flags pco pcl phr pho) res.1) args s 0 0 A) 5 D A 0 0 (wFO cyI cyZ cyW f0 w0 w1 w2 w3 v0 v1 v2 v3 p0 p1 p2 p3 p4 wh lf co wi ho owh olf oco owi oho tubs pegs pwi flags pco pcl phr pho) 25 [(0, .ref f0), (2, .int x2), (3, .int x3), (4, .int x4)] [] := by
  intro n
  induction n with
  | zero => intro x4 wh lf h; cases h
  | succ n ih => intro x4 wh lf h; exact LGX2_hoursToFight_25 C ih h
set_option maxHeartbeats 4000000 in
set_option maxRecDepth 100000 in
theorem kX2_hoursToFight {l : Launch} {D : va_G} {cyI cyZ cyW : ClassId} {zW zO : Nat} {f0 : Nat} {w0 : Nat} {w1 : Nat} {w2 : Nat} {w3 : Nat} {v0 : Nat} {v1 : Nat} {v2 : Nat} {v3 : Nat} {p0 : Nat} {p1 : Nat} {p2 : Nat} {p3 : Nat} {p4 : Nat} {wh : (Nat → Int32)} {lf : (Nat → Int32)} {co : (Nat → Int32)} {wi : Int32} {ho : Int32} {owh : (Nat → Int32)} {olf : (Nat → Int32)} {oco : (Nat → Int32)} {owi : Int32} {oho : Int32} {tubs : Int32} {pegs : Int32} {pwi : Int32} {flags : Int32} {pco : (Nat → Int32)} {pcl : (Nat → Int32)} {phr : (Nat → Int32)} {pho : (Nat → Int32)} {x2 : Int32} {x3 : Int32} {res : Int32 × (Nat → Int32) × (Nat → Int32) × (Nat → Int32) × Int32 × Int32} (h : fX2_hoursToFight x2 x3 wh lf co wi ho owh olf oco owi oho pegs flags pcl phr pho = some res) : KI l yX2_hoursToFight wsX2_hoursToFight ({ frames := 4, cells := 0, slots := 0, locals := 85 } : Room) D (tyA cyI cyZ cyW) zW zO [.ref f0, .ref v0, .int x2, .int x3] (wFO cyI cyZ cyW f0 w0 w1 w2 w3 v0 v1 v2 v3 p0 p1 p2 p3 p4 wh lf co wi ho owh olf oco owi oho tubs pegs pwi flags pco pcl phr pho) (wFO cyI cyZ cyW f0 w0 w1 w2 w3 v0 v1 v2 v3 p0 p1 p2 p3 p4 res.2.1 res.2.2.1 res.2.2.2.1 res.2.2.2.2.1 res.2.2.2.2.2 owh olf oco owi oho tubs pegs pwi flags pco pcl phr pho) res.1 := by
  refine enterI (cc := cX2_hoursToFight) (nL := 5) (ret := (some .int)) (by decide) rfl (Nat.le_of_ble_eq_true rfl) (fun p e s m below meth c A C => ?_)
  refine r_lv (lv' := [(0, .ref f0), (1, .ref v0), (2, .int x2), (3, .int x3)]) [0, 1, 2, 3] rfl ?_
  unfold fX2_hoursToFight at h
  refine r_aload_n C dX2_hoursToFight_0 1 rfl rfl ?_
  refine r_get (ci := 5) (CC := RX8) (T := TX8) (N := 6) (v := .ref p0) C hinX2_hoursToFight_X8 5 rfl rfl 0 (by decide) mX2_hoursToFight_1 rfl rfl dX2_hoursToFight_1 ?_
  refine r_iload_n C dX2_hoursToFight_4 3 rfl rfl ?_
  obtain ⟨u1, hu1, h⟩ := ob_bind h
  refine r_readVI (q0 := 0) (As := [.int x3]) (rest := []) C (kX4_hostilePairs (p0 := p0) (p1 := p1) (p2 := p2) (p3 := p3) (p4 := p4) (tubs := tubs) (pegs := pegs) (pwi := pwi) (flags := flags) (pco := pco) (pcl := pcl) (phr := phr) (pho := pho) (x1 := x3) hu1) gX2_hoursToFight_X4_hostilePairs rfl rfl rfl ⟨rfl, hd_X4_hostilePairs⟩ ⟨by decide, by decide⟩ rfl rfl rfl rfl [9, 10, 11, 12, 13] (by decide) in_33 rfl (Nat.le_of_ble_eq_true rfl) dX2_hoursToFight_5 ⟨Nat.zero_le _, Nat.zero_le _⟩ ?_
  refine r_if_ne (tgt := 14) C dX2_hoursToFight_8 (by decide) (fun c2 => ?_) (fun c2 => ?_)
  · replace h := ob_f h c2
    refine r_aload_n C dX2_hoursToFight_14 0 rfl rfl ?_
    refine r_get (ci := 1) (CC := RX2) (T := TX2) (N := 1) (v := .ref w0) C hinX2_hoursToFight_X2 0 rfl rfl 0 (by decide) mX2_hoursToFight_2 rfl rfl dX2_hoursToFight_15 ?_
    refine r_aload_n C dX2_hoursToFight_18 1 rfl rfl ?_
    obtain ⟨u3, hu3, h⟩ := ob_bind h
    refine r_callVV (q0 := 0) (As := [.ref v0]) (rest := []) (ws1 := (wFO cyI cyZ cyW f0 w0 w1 w2 w3 v0 v1 v2 v3 p0 p1 p2 p3 p4 u3.1 u3.2.1 u3.2.2.1 u3.2.2.2.1 u3.2.2.2.2 owh olf oco owi oho tubs pegs pwi flags pco pcl phr pho)) C (kX8_copyFrom (w0 := w0) (w1 := w1) (w2 := w2) (w3 := w3) (v0 := v0) (v1 := v1) (v2 := v2) (v3 := v3) (p0 := p0) (wh := wh) (lf := lf) (co := co) (wi := wi) (ho := ho) (owh := owh) (olf := olf) (oco := oco) (owi := owi) (oho := oho)  hu3) gX2_hoursToFight_X8_copyFrom rfl rfl rfl ⟨rfl, hd_X8_copyFrom⟩ ⟨by decide, by decide⟩ rfl rfl rfl rfl [1, 2, 3, 4, 5, 6, 7, 8] (by decide) in_34 se_34 (adrFO.trans adrFO.symm) rfl (Nat.le_of_ble_eq_true rfl) dX2_hoursToFight_19 ⟨Nat.zero_le _, Nat.zero_le _⟩ ?_
    refine r_iconst (v := 0) C dX2_hoursToFight_22 ic_0 ?_
    refine r_istore (lv' := [(4, .int (0 : Int32)), (0, .ref f0), (1, .ref v0), (2, .int x2), (3, .int x3)]) C dX2_hoursToFight_23 (by decide) rfl ?_
    refine r_lv (lv' := [(0, .ref f0), (2, .int x2), (3, .int x3), (4, .int (0 : Int32))]) [1, 3, 4, 0] rfl ?_
    exact LX2_hoursToFight_25 C (x2 := x2) (x3 := x3) (co := u3.2.2.1) (wi := u3.2.2.2.1) (ho := u3.2.2.2.2) (owh := owh) (olf := olf) (oco := oco) (owi := owi) (oho := oho) (tubs := tubs) (pegs := pegs) (pwi := pwi) (flags := flags) (pco := pco) (pcl := pcl) (phr := phr) (pho := pho)  FU (0 : Int32) u3.1 u3.2.1 h
  · replace h := ob_t h c2
    refine r_bipush (v := -9) C dX2_hoursToFight_11 bp_m9 ?_
    have h9 := Option.some.inj h
    subst h9
    exact r_iret C rfl dX2_hoursToFight_13
