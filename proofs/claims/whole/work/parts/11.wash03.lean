/-! ===== FlagWash$Wash.doByChance ===== -/
def fX8_doByChance  (x1 : Int32) (wh : (Nat → Int32)) (lf : (Nat → Int32)) (co : (Nat → Int32)) (wi : Int32) (ho : Int32) (tubs : Int32) (pegs : Int32) (flags : Int32) (pcl : (Nat → Int32)) (phr : (Nat → Int32)) : Option ((Nat → Int32) × (Nat → Int32) × (Nat → Int32) × Int32 × Int32) :=
 (if (5 : Int32) ≤ x1 then ((fX8_passHour wh lf co (jrem x1 (3 : Int32)) ho pegs flags pcl).bind fun u2 => (some (u2.2.1, u2.2.2.1, u2.2.2.2.1, (jrem x1 (3 : Int32)), u2.2.2.2.2)))
 else ((fX8_sendIfItCan x1 wh lf tubs flags phr).bind fun u3 => (some (u3.2.1, u3.2.2, co, wi, ho))))
theorem hinX8_doByChance_X8 : ∀ w ∈ u_ws RX8 TX8 6, w ∈ wsX8_doByChance := fun w h => List.mem_cons_of_mem _ (List.mem_append_left _ (List.mem_append_right _ h))
theorem mX8_doByChance_1 : Cond.fieldLink RX8 21 "FlagWash$Wash" "wind" "I" ∈ wsX8_doByChance := List.mem_of_getElem? (i := 1) rfl
theorem hd_X8_doByChance : yX8_doByChance.cls ≠ "java/lang/invoke/MethodHandle" ∧ yX8_doByChance.cls ≠ "java/lang/invoke/VarHandle" ∧ (parseMethodDescriptor yX8_doByChance.desc).map (fun d => d.parameters.length) = some 1 := by decide +kernel
set_option maxHeartbeats 4000000 in
set_option maxRecDepth 100000 in
theorem kX8_doByChance {l : Launch} {D : va_G} {cyI cyZ cyW : ClassId} {zW zO : Nat} {w0 : Nat} {w1 : Nat} {w2 : Nat} {w3 : Nat} {p0 : Nat} {p1 : Nat} {p2 : Nat} {p3 : Nat} {p4 : Nat} {wh : (Nat → Int32)} {lf : (Nat → Int32)} {co : (Nat → Int32)} {wi : Int32} {ho : Int32} {tubs : Int32} {pegs : Int32} {pwi : Int32} {flags : Int32} {pco : (Nat → Int32)} {pcl : (Nat → Int32)} {phr : (Nat → Int32)} {pho : (Nat → Int32)} {x1 : Int32} {res : (Nat → Int32) × (Nat → Int32) × (Nat → Int32) × Int32 × Int32} (h : fX8_doByChance x1 wh lf co wi ho tubs pegs flags pcl phr = some res) : KV l yX8_doByChance wsX8_doByChance ({ frames := 4, cells := 0, slots := 0, locals := 86 } : Room) D (tyA cyI cyZ cyW) zW zO [.ref w0, .int x1] (wWP cyI cyZ cyW w0 w1 w2 w3 p0 p1 p2 p3 p4 wh lf co wi ho tubs pegs pwi flags pco pcl phr pho) (wWP cyI cyZ cyW w0 w1 w2 w3 p0 p1 p2 p3 p4 res.1 res.2.1 res.2.2.1 res.2.2.2.1 res.2.2.2.2 tubs pegs pwi flags pco pcl phr pho) := by
  refine enterV (cc := cX8_doByChance) (nL := 2) (ret := none) (by decide) rfl (Nat.le_of_ble_eq_true rfl) (fun p e s m below meth c A C => ?_)
  refine r_lv (lv' := [(0, .ref w0), (1, .int x1)]) [0, 1] rfl ?_
  unfold fX8_doByChance at h
  refine r_iload_n C dX8_doByChance_0 1 rfl rfl ?_
  refine r_iconst (v := 5) C dX8_doByChance_1 ic_5 ?_
  refine r_icmp_ge (tgt := 14) C dX8_doByChance_2 (by decide) (fun c1 => ?_) (fun c1 => ?_)
  · replace h := ob_t h c1
    refine r_aload_n C dX8_doByChance_14 0 rfl rfl ?_
    refine r_iload_n C dX8_doByChance_15 1 rfl rfl ?_
    refine r_iconst (v := 3) C dX8_doByChance_16 ic_3 ?_
    refine r_irem C dX8_doByChance_17 (by decide) ?_
    refine r_put (ci := 5) (CC := RX8) (T := TX8) (N := 6) (v := .int (jrem x1 (3 : Int32))) (ws1 := (wWP cyI cyZ cyW w0 w1 w2 w3 p0 p1 p2 p3 p4 wh lf co (jrem x1 (3 : Int32)) ho tubs pegs pwi flags pco pcl phr pho)) (ty := .int) C hinX8_doByChance_X8 tyX8 tyX8_ok nmX8 0 rfl rfl 4 (by decide) mX8_doByChance_1 rfl rfl rfl rfl rfl (Nat.le_of_ble_eq_true rfl) rfl dX8_doByChance_18 ?_
    refine r_aload_n C dX8_doByChance_21 0 rfl rfl ?_
    obtain ⟨u2, hu2, h⟩ := ob_bind h
    refine r_callVI (q0 := 0) (As := []) (rest := []) (ws1 := (wWP cyI cyZ cyW w0 w1 w2 w3 p0 p1 p2 p3 p4 u2.2.1 u2.2.2.1 u2.2.2.2.1 (jrem x1 (3 : Int32)) u2.2.2.2.2 tubs pegs pwi flags pco pcl phr pho)) C (kX8_passHour (w0 := w0) (w1 := w1) (w2 := w2) (w3 := w3) (p0 := p0) (p1 := p1) (p2 := p2) (p3 := p3) (p4 := p4) (wh := wh) (lf := lf) (co := co) (wi := (jrem x1 (3 : Int32))) (ho := ho) (tubs := tubs) (pegs := pegs) (pwi := pwi) (flags := flags) (pco := pco) (pcl := pcl) (phr := phr) (pho := pho)  hu2) gX8_doByChance_X8_passHour rfl rfl rfl ⟨rfl, hd_X8_passHour⟩ ⟨by decide, by decide⟩ rfl rfl rfl rfl [0, 1, 2, 3, 4, 5, 6, 7, 8] (by decide) in_53 se_53 (adrWP.trans adrWP.symm) rfl (Nat.le_of_ble_eq_true rfl) dX8_doByChance_22 ⟨Nat.zero_le _, Nat.zero_le _⟩ ?_
    refine r_pop C dX8_doByChance_25 rfl ?_
    have h9 := Option.some.inj h
    subst h9
    exact r_vret C rfl dX8_doByChance_26
  · replace h := ob_f h c1
    refine r_aload_n C dX8_doByChance_5 0 rfl rfl ?_
    refine r_iload_n C dX8_doByChance_6 1 rfl rfl ?_
    obtain ⟨u3, hu3, h⟩ := ob_bind h
    refine r_callVI (q0 := 0) (As := [.int x1]) (rest := []) (ws1 := (wWP cyI cyZ cyW w0 w1 w2 w3 p0 p1 p2 p3 p4 u3.2.1 u3.2.2 co wi ho tubs pegs pwi flags pco pcl phr pho)) C (kX8_sendIfItCan (w0 := w0) (w1 := w1) (w2 := w2) (w3 := w3) (p0 := p0) (p1 := p1) (p2 := p2) (p3 := p3) (p4 := p4) (wh := wh) (lf := lf) (co := co) (wi := wi) (ho := ho) (tubs := tubs) (pegs := pegs) (pwi := pwi) (flags := flags) (pco := pco) (pcl := pcl) (phr := phr) (pho := pho) (x1 := x1) hu3) gX8_doByChance_X8_sendIfItCan rfl rfl rfl ⟨rfl, hd_X8_sendIfItCan⟩ ⟨by decide, by decide⟩ rfl rfl rfl rfl [0, 1, 2, 3, 4, 5, 6, 7, 8] (by decide) in_30 se_30 (adrWP.trans adrWP.symm) rfl (Nat.le_of_ble_eq_true rfl) dX8_doByChance_7 ⟨Nat.zero_le _, Nat.zero_le _⟩ ?_
    refine r_pop C dX8_doByChance_10 rfl ?_
    refine r_goto (tgt := 26) C dX8_doByChance_11 (by decide) ?_
    have h9 := Option.some.inj h
    subst h9
    exact r_vret C rfl dX8_doByChance_26
