/-! ===== FlagWash$Sightings.fitsAll ===== -/
def fX7_fitsAll_87 (rec3 : Int32 → Option (Bool)) (x1 : Int32) (x2 : Int32) (x4 : Int32) (sfl : (Nat → Int32)) (sco : (Nat → Int32)) (swt : (Nat → Int32)) (ssz : Int32) (co : (Nat → Int32)) (flags : Int32) : Option (Bool) :=
 (rec3 (x4 + (1 : Int32)))
def fX7_fitsAll_55 (rec3 : Int32 → Option (Bool)) (x1 : Int32) (x2 : Int32) (x4 : Int32) (y0 : Bool) (sfl : (Nat → Int32)) (sco : (Nat → Int32)) (swt : (Nat → Int32)) (ssz : Int32) (co : (Nat → Int32)) (flags : Int32) : Option (Bool) :=
 (if y0 = true then (if inb x4 6 = true then ((fX8_coloursOf (swt x4.toNatClampNeg) co flags).bind fun u11 => (if inb x4 6 = true then (if (x2 ||| u11) = (sco x4.toNatClampNeg) then (fX7_fitsAll_87 rec3 x1 x2 x4 sfl sco swt ssz co flags)
 else (some false)) else none)) else none)
 else (fX7_fitsAll_87 rec3 x1 x2 x4 sfl sco swt ssz co flags))
def fX7_fitsAll_54 (rec3 : Int32 → Option (Bool)) (x1 : Int32) (x2 : Int32) (x4 : Int32) (sfl : (Nat → Int32)) (sco : (Nat → Int32)) (swt : (Nat → Int32)) (ssz : Int32) (co : (Nat → Int32)) (flags : Int32) : Option (Bool) :=
 (fX7_fitsAll_55 rec3 x1 x2 x4 false sfl sco swt ssz co flags)
def gX7_fitsAll_3 (rec3 : Int32 → Option (Bool)) (x1 : Int32) (x2 : Int32) (x4 : Int32) (sfl : (Nat → Int32)) (sco : (Nat → Int32)) (swt : (Nat → Int32)) (ssz : Int32) (co : (Nat → Int32)) (flags : Int32) : Option (Bool) :=
 (if ssz ≤ x4 then (some true)
 else (if (6 : Int32) ≤ x4 then (some true)
 else (if inb x4 6 = true then (if (sfl x4.toNatClampNeg) = x1 then (if inb x4 6 = true then ((fX4_allBits flags).bind fun u6 => ((fX9_isWithin (swt x4.toNatClampNeg) u6).bind fun u7 => (if u7 = true then (fX7_fitsAll_55 rec3 x1 x2 x4 true sfl sco swt ssz co flags)
 else (fX7_fitsAll_54 rec3 x1 x2 x4 sfl sco swt ssz co flags)))) else none)
 else (fX7_fitsAll_54 rec3 x1 x2 x4 sfl sco swt ssz co flags)) else none)))
def fX7_fitsAll_3  (x1 : Int32) (x2 : Int32) (sfl : (Nat → Int32)) (sco : (Nat → Int32)) (swt : (Nat → Int32)) (ssz : Int32) (co : (Nat → Int32)) (flags : Int32) : Nat → Int32 → Option (Bool)
  | 0 => fun _ => none
  | n + 1 => fun x4 => gX7_fitsAll_3 (fX7_fitsAll_3  x1 x2 sfl sco swt ssz co flags n) x1 x2 x4 sfl sco swt ssz co flags
def fX7_fitsAll  (x1 : Int32) (x2 : Int32) (sfl : (Nat → Int32)) (sco : (Nat → Int32)) (swt : (Nat → Int32)) (ssz : Int32) (co : (Nat → Int32)) (flags : Int32) : Option (Bool) :=
 (fX7_fitsAll_3  x1 x2 sfl sco swt ssz co flags FU (0 : Int32))
theorem hinX7_fitsAll_X7 : ∀ w ∈ u_ws RX7 TX7 4, w ∈ wsX7_fitsAll := fun w h => List.mem_cons_of_mem _ (List.mem_append_left _ (List.mem_append_left _ (List.mem_append_right _ h)))
theorem mX7_fitsAll_1 : Cond.fieldLink RX7 21 "FlagWash$Sightings" "size" "I" ∈ wsX7_fitsAll := List.mem_of_getElem? (i := 1) rfl
theorem mX7_fitsAll_2 : Cond.fieldLink RX7 9 "FlagWash$Sightings" "flag" "[I" ∈ wsX7_fitsAll := List.mem_of_getElem? (i := 2) rfl
theorem mX7_fitsAll_3 : Cond.fieldLink RX7 18 "FlagWash$Sightings" "with" "[I" ∈ wsX7_fitsAll := List.mem_of_getElem? (i := 3) rfl
theorem hinX7_fitsAll_X8 : ∀ w ∈ u_ws RX8 TX8 6, w ∈ wsX7_fitsAll := fun w h => List.mem_cons_of_mem _ (List.mem_append_left _ (List.mem_append_right _ h))
theorem mX7_fitsAll_4 : Cond.fieldLink RX7 29 "FlagWash$Wash" "plan" "LFlagWash$Plan;" ∈ wsX7_fitsAll := List.mem_of_getElem? (i := 4) rfl
theorem mX7_fitsAll_13 : Cond.initialized RX9 ∈ wsX7_fitsAll := List.mem_of_getElem? (i := 13) rfl
theorem mX7_fitsAll_12 : Cond.static yX9_isWithin ∈ wsX7_fitsAll := List.mem_of_getElem? (i := 12) rfl
theorem mX7_fitsAll_5 : Cond.fieldLink RX7 15 "FlagWash$Sightings" "colours" "[I" ∈ wsX7_fitsAll := List.mem_of_getElem? (i := 5) rfl
theorem hd_X7_fitsAll : yX7_fitsAll.cls ≠ "java/lang/invoke/MethodHandle" ∧ yX7_fitsAll.cls ≠ "java/lang/invoke/VarHandle" ∧ (parseMethodDescriptor yX7_fitsAll.desc).map (fun d => d.parameters.length) = some 3 := by decide +kernel
set_option maxHeartbeats 4000000 in
set_option maxRecDepth 100000 in
theorem LX7_fitsAll_87 {p : Program} {l : Launch} {e : Env} {s : State} {m : MethodId} {args : Array Value} {below : List Frame} {meth : Method} {c : Code} {D : va_G} {cyI cyZ cyW : ClassId} {zW zO : Nat} {A : Nat → Prop} (C : Cx p s m args meth c cX7_fitsAll RX7 "fitsAll" wsX7_fitsAll (some .boolean) 6 D (tyA cyI cyZ cyW) zW zO A) {s0 : Nat} {s1 : Nat} {s2 : Nat} {s3 : Nat} {w0 : Nat} {w1 : Nat} {w2 : Nat} {w3 : Nat} {p0 : Nat} {p1 : Nat} {p2 : Nat} {p3 : Nat} {p4 : Nat} {sfl : (Nat → Int32)} {sco : (Nat → Int32)} {swt : (Nat → Int32)} {ssz : Int32} {wh : (Nat → Int32)} {lf : (Nat → Int32)} {co : (Nat → Int32)} {wi : Int32} {ho : Int32} {tubs : Int32} {pegs : Int32} {pwi : Int32} {flags : Int32} {pco : (Nat → Int32)} {pcl : (Nat → Int32)} {phr : (Nat → Int32)} {pho : (Nat → Int32)} {x1 : Int32} {x2 : Int32} {x4 : Int32} {rec3 : Int32 → Option (Bool)} {res : Bool} (hrec3 : ∀ (x4 : Int32), rec3 x4 = some res → Mx p l e ({ frames := 1, cells := 0, slots := 0, locals := 23 } : Room) s m args below meth c (MQ below (QI D (tyA cyI cyZ cyW) A (wSWP cyI cyZ cyW s0 s1 s2 s3 w0 w1 w2 w3 p0 p1 p2 p3 p4 sfl sco swt ssz wh lf co wi ho tubs pegs pwi flags pco pcl phr pho) (b2i res)) args s 0 0 A) 6 D A 0 0 (wSWP cyI cyZ cyW s0 s1 s2 s3 w0 w1 w2 w3 p0 p1 p2 p3 p4 sfl sco swt ssz wh lf co wi ho tubs pegs pwi flags pco pcl phr pho) 3 [(0, .ref s0), (1, .int x1), (2, .int x2), (3, .ref w0), (4, .int x4)] []) (h : fX7_fitsAll_87 rec3 x1 x2 x4 sfl sco swt ssz co flags = some res) : Mx p l e ({ frames := 1, cells := 0, slots := 0, locals := 23 } : Room) s m args below meth c (MQ below (QI D (tyA cyI cyZ cyW) A (wSWP cyI cyZ cyW s0 s1 s2 s3 w0 w1 w2 w3 p0 p1 p2 p3 p4 sfl sco swt ssz wh lf co wi ho tubs pegs pwi flags pco pcl phr pho) (b2i res)) args s 0 0 A) 6 D A 0 0 (wSWP cyI cyZ cyW s0 s1 s2 s3 w0 w1 w2 w3 p0 p1 p2 p3 p4 sfl sco swt ssz wh lf co wi ho tubs pegs pwi flags pco pcl phr pho) 87 [(0, .ref s0), (1, .int x1), (2, .int x2), (3, .ref w0), (4, .int x4)] [] := by
  unfold fX7_fitsAll_87 at h
  refine r_iinc (v := 1) (lv' := [(4, .int (x4 + (1 : Int32))), (0, .ref s0), (1, .int x1), (2, .int x2), (3, .ref w0)]) C dX7_fitsAll_87 4 rfl ic_1 (by decide) rfl ?_
  refine r_goto (tgt := 3) C dX7_fitsAll_90 (by decide) ?_
  refine r_lv (lv' := [(0, .ref s0), (1, .int x1), (2, .int x2), (3, .ref w0), (4, .int (x4 + (1 : Int32)))]) [1, 2, 3, 4, 0] rfl ?_
  exact hrec3 (x4 + (1 : Int32)) h
set_option maxHeartbeats 4000000 in
set_option maxRecDepth 100000 in
theorem LX7_fitsAll_55 {p : Program} {l : Launch} {e : Env} {s : State} {m : MethodId} {args : Array Value} {below : List Frame} {meth : Method} {c : Code} {D : va_G} {cyI cyZ cyW : ClassId} {zW zO : Nat} {A : Nat → Prop} (C : Cx p s m args meth c cX7_fitsAll RX7 "fitsAll" wsX7_fitsAll (some .boolean) 6 D (tyA cyI cyZ cyW) zW zO A) {s0 : Nat} {s1 : Nat} {s2 : Nat} {s3 : Nat} {w0 : Nat} {w1 : Nat} {w2 : Nat} {w3 : Nat} {p0 : Nat} {p1 : Nat} {p2 : Nat} {p3 : Nat} {p4 : Nat} {sfl : (Nat → Int32)} {sco : (Nat → Int32)} {swt : (Nat → Int32)} {ssz : Int32} {wh : (Nat → Int32)} {lf : (Nat → Int32)} {co : (Nat → Int32)} {wi : Int32} {ho : Int32} {tubs : Int32} {pegs : Int32} {pwi : Int32} {flags : Int32} {pco : (Nat → Int32)} {pcl : (Nat → Int32)} {phr : (Nat → Int32)} {pho : (Nat → Int32)} {x1 : Int32} {x2 : Int32} {x4 : Int32} {y0 : Bool} {rec3 : Int32 → Option (Bool)} {res : Bool} (hrec3 : ∀ (x4 : Int32), rec3 x4 = some res → Mx p l e ({ frames := 1, cells := 0, slots := 0, locals := 23 } : Room) s m args below meth c (MQ below (QI D (tyA cyI cyZ cyW) A (wSWP cyI cyZ cyW s0 s1 s2 s3 w0 w1 w2 w3 p0 p1 p2 p3 p4 sfl sco swt ssz wh lf co wi ho tubs pegs pwi flags pco pcl phr pho) (b2i res)) args s 0 0 A) 6 D A 0 0 (wSWP cyI cyZ cyW s0 s1 s2 s3 w0 w1 w2 w3 p0 p1 p2 p3 p4 sfl sco swt ssz wh lf co wi ho tubs pegs pwi flags pco pcl phr pho) 3 [(0, .ref s0), (1, .int x1), (2, .int x2), (3, .ref w0), (4, .int x4)] []) (h : fX7_fitsAll_55 rec3 x1 x2 x4 y0 sfl sco swt ssz co flags = some res) : Mx p l e ({ frames := 1, cells := 0, slots := 0, locals := 23 } : Room) s m args below meth c (MQ below (QI D (tyA cyI cyZ cyW) A (wSWP cyI cyZ cyW s0 s1 s2 s3 w0 w1 w2 w3 p0 p1 p2 p3 p4 sfl sco swt ssz wh lf co wi ho tubs pegs pwi flags pco pcl phr pho) (b2i res)) args s 0 0 A) 6 D A 0 0 (wSWP cyI cyZ cyW s0 s1 s2 s3 w0 w1 w2 w3 p0 p1 p2 p3 p4 sfl sco swt ssz wh lf co wi ho tubs pegs pwi flags pco pcl phr pho) 55 [(0, .ref s0), (1, .int x1), (2, .int x2), (3, .ref w0), (4, .int x4)] [.int (b2i y0)] := by
  unfold fX7_fitsAll_55 at h
  refine r_istore (lv' := [(5, .int (b2i y0)), (0, .ref s0), (1, .int x1), (2, .int x2), (3, .ref w0), (4, .int x4)]) C dX7_fitsAll_55 (by decide) rfl ?_
  refine r_iload C dX7_fitsAll_57 0 rfl ?_
  refine r_ifb_eq (tgt := 87) C dX7_fitsAll_59 (by decide) (fun c9 => ?_) (fun c9 => ?_)
  · replace h := ob_bf h c9
    refine r_lv (lv' := [(0, .ref s0), (1, .int x1), (2, .int x2), (3, .ref w0), (4, .int x4)]) [1, 2, 3, 4, 5] rfl ?_
    exact LX7_fitsAll_87 C (x1 := x1) (x2 := x2) (x4 := x4) (sfl := sfl) (sco := sco) (swt := swt) (ssz := ssz) (wh := wh) (lf := lf) (co := co) (wi := wi) (ho := ho) (tubs := tubs) (pegs := pegs) (pwi := pwi) (flags := flags) (pco := pco) (pcl := pcl) (phr := phr) (pho := pho) hrec3 h
  · replace h := ob_t h c9
    refine r_iload_n C dX7_fitsAll_62 3 rfl rfl ?_
    refine r_aload_n C dX7_fitsAll_63 4 rfl rfl ?_
    refine r_aload_n C dX7_fitsAll_64 1 rfl rfl ?_
    refine r_get (ci := 4) (CC := RX7) (T := TX7) (N := 4) (v := .ref s3) C hinX7_fitsAll_X7 0 rfl rfl 2 (by decide) mX7_fitsAll_3 rfl rfl dX7_fitsAll_65 ?_
    refine r_iload C dX7_fitsAll_68 5 rfl ?_
    obtain ⟨hu10, h⟩ := ob_if h
    refine r_iald C 3 0 rfl rfl (inb_vp hu10) dX7_fitsAll_70 ?_
    obtain ⟨u11, hu11, h⟩ := ob_bind h
    refine r_readVI (q0 := 0) (As := [.int (swt x4.toNatClampNeg)]) (rest := [.int x2]) C (kX8_coloursOf (w0 := w0) (w1 := w1) (w2 := w2) (w3 := w3) (p0 := p0) (p1 := p1) (p2 := p2) (p3 := p3) (p4 := p4) (wh := wh) (lf := lf) (co := co) (wi := wi) (ho := ho) (tubs := tubs) (pegs := pegs) (pwi := pwi) (flags := flags) (pco := pco) (pcl := pcl) (phr := phr) (pho := pho) (x1 := (swt x4.toNatClampNeg)) hu11) gX7_fitsAll_X8_coloursOf rfl rfl rfl ⟨rfl, hd_X8_coloursOf⟩ ⟨by decide, by decide⟩ rfl rfl rfl rfl [4, 5, 6, 7, 8, 9, 10, 11, 12] (by decide) in_51 rfl (Nat.le_of_ble_eq_true rfl) dX7_fitsAll_71 ⟨Nat.zero_le _, Nat.zero_le _⟩ ?_
    refine r_ior C dX7_fitsAll_74 ?_
    refine r_aload_n C dX7_fitsAll_75 1 rfl rfl ?_
    refine r_get (ci := 4) (CC := RX7) (T := TX7) (N := 4) (v := .ref s2) C hinX7_fitsAll_X7 0 rfl rfl 1 (by decide) mX7_fitsAll_5 rfl rfl dX7_fitsAll_76 ?_
    refine r_iload C dX7_fitsAll_79 5 rfl ?_
    obtain ⟨hu12, h⟩ := ob_if h
    refine r_iald C 2 0 rfl rfl (inb_vp hu12) dX7_fitsAll_81 ?_
    refine r_icmp_eq (tgt := 87) C dX7_fitsAll_82 (by decide) (fun c13 => ?_) (fun c13 => ?_)
    · replace h := ob_t h c13
      refine r_lv (lv' := [(0, .ref s0), (1, .int x1), (2, .int x2), (3, .ref w0), (4, .int x4)]) [1, 2, 3, 4, 5] rfl ?_
      exact LX7_fitsAll_87 C (x1 := x1) (x2 := x2) (x4 := x4) (sfl := sfl) (sco := sco) (swt := swt) (ssz := ssz) (wh := wh) (lf := lf) (co := co) (wi := wi) (ho := ho) (tubs := tubs) (pegs := pegs) (pwi := pwi) (flags := flags) (pco := pco) (pcl := pcl) (phr := phr) (pho := pho) hrec3 h
    · replace h := ob_f h c13
      refine r_iconst (v := 0) C dX7_fitsAll_85 ic_0 ?_
      have h9 := Option.some.inj h
      subst h9
      exact r_zret (b := false) C rfl dX7_fitsAll_86
set_option maxHeartbeats 4000000 in
set_option maxRecDepth 100000 in
theorem LX7_fitsAll_54 {p : Program} {l : Launch} {e : Env} {s : State} {m : MethodId} {args : Array Value} {below : List Frame} {meth : Method} {c : Code} {D : va_G} {cyI cyZ cyW : ClassId} {zW zO : Nat} {A : Nat → Prop} (C : Cx p s m args meth c cX7_fitsAll RX7 "fitsAll" wsX7_fitsAll (some .boolean) 6 D (tyA cyI cyZ cyW) zW zO A) {s0 : Nat} {s1 : Nat} {s2 : Nat} {s3 : Nat} {w0 : Nat} {w1 : Nat} {w2 : Nat} {w3 : Nat} {p0 : Nat} {p1 : Nat} {p2 : Nat} {p3 : Nat} {p4 : Nat} {sfl : (Nat → Int32)} {sco : (Nat → Int32)} {swt : (Nat → Int32)} {ssz : Int32} {wh : (Nat → Int32)} {lf : (Nat → Int32)} {co : (Nat → Int32)} {wi : Int32} {ho : Int32} {tubs : Int32} {pegs : Int32} {pwi : Int32} {flags : Int32} {pco : (Nat → Int32)} {pcl : (Nat → Int32)} {phr : (Nat → Int32)} {pho : (Nat → Int32)} {x1 : Int32} {x2 : Int32} {x4 : Int32} {rec3 : Int32 → Option (Bool)} {res : Bool} (hrec3 : ∀ (x4 : Int32), rec3 x4 = some res → Mx p l e ({ frames := 1, cells := 0, slots := 0, locals := 23 } : Room) s m args below meth c (MQ below (QI D (tyA cyI cyZ cyW) A (wSWP cyI cyZ cyW s0 s1 s2 s3 w0 w1 w2 w3 p0 p1 p2 p3 p4 sfl sco swt ssz wh lf co wi ho tubs pegs pwi flags pco pcl phr pho) (b2i res)) args s 0 0 A) 6 D A 0 0 (wSWP cyI cyZ cyW s0 s1 s2 s3 w0 w1 w2 w3 p0 p1 p2 p3 p4 sfl sco swt ssz wh lf co wi ho tubs pegs pwi flags pco pcl phr pho) 3 [(0, .ref s0), (1, .int x1), (2, .int x2), (3, .ref w0), (4, .int x4)] []) (h : fX7_fitsAll_54 rec3 x1 x2 x4 sfl sco swt ssz co flags = some res) : Mx p l e ({ frames := 1, cells := 0, slots := 0, locals := 23 } : Room) s m args below meth c (MQ below (QI D (tyA cyI cyZ cyW) A (wSWP cyI cyZ cyW s0 s1 s2 s3 w0 w1 w2 w3 p0 p1 p2 p3 p4 sfl sco swt ssz wh lf co wi ho tubs pegs pwi flags pco pcl phr pho) (b2i res)) args s 0 0 A) 6 D A 0 0 (wSWP cyI cyZ cyW s0 s1 s2 s3 w0 w1 w2 w3 p0 p1 p2 p3 p4 sfl sco swt ssz wh lf co wi ho tubs pegs pwi flags pco pcl phr pho) 54 [(0, .ref s0), (1, .int x1), (2, .int x2), (3, .ref w0), (4, .int x4)] [] := by
  unfold fX7_fitsAll_54 at h
  refine r_iconst (v := 0) C dX7_fitsAll_54 ic_0 ?_
  refine r_lv (lv' := [(0, .ref s0), (1, .int x1), (2, .int x2), (3, .ref w0), (4, .int x4)]) [0, 1, 2, 3, 4] rfl ?_
  exact LX7_fitsAll_55 C (x1 := x1) (x2 := x2) (x4 := x4) (y0 := false) (sfl := sfl) (sco := sco) (swt := swt) (ssz := ssz) (wh := wh) (lf := lf) (co := co) (wi := wi) (ho := ho) (tubs := tubs) (pegs := pegs) (pwi := pwi) (flags := flags) (pco := pco) (pcl := pcl) (phr := phr) (pho := pho) hrec3 h
set_option maxHeartbeats 4000000 in
set_option maxRecDepth 100000 in
theorem LGX7_fitsAll_3 {p : Program} {l : Launch} {e : Env} {s : State} {m : MethodId} {args : Array Value} {below : List Frame} {meth : Method} {c : Code} {D : va_G} {cyI cyZ cyW : ClassId} {zW zO : Nat} {A : Nat → Prop} (C : Cx p s m args meth c cX7_fitsAll RX7 "fitsAll" wsX7_fitsAll (some .boolean) 6 D (tyA cyI cyZ cyW) zW zO A) {s0 : Nat} {s1 : Nat} {s2 : Nat} {s3 : Nat} {w0 : Nat} {w1 : Nat} {w2 : Nat} {w3 : Nat} {p0 : Nat} {p1 : Nat} {p2 : Nat} {p3 : Nat} {p4 : Nat} {sfl : (Nat → Int32)} {sco : (Nat → Int32)} {swt : (Nat → Int32)} {ssz : Int32} {wh : (Nat → Int32)} {lf : (Nat → Int32)} {co : (Nat → Int32)} {wi : Int32} {ho : Int32} {tubs : Int32} {pegs : Int32} {pwi : Int32} {flags : Int32} {pco : (Nat → Int32)} {pcl : (Nat → Int32)} {phr : (Nat → Int32)} {pho : (Nat → Int32)} {x1 : Int32} {x2 : Int32} {x4 : Int32} {rec3 : Int32 → Option (Bool)} {res : Bool} (hrec3 : ∀ (x4 : Int32), rec3 x4 = some res → Mx p l e ({ frames := 1, cells := 0, slots := 0, locals := 23 } : Room) s m args below meth c (MQ below (QI D (tyA cyI cyZ cyW) A (wSWP cyI cyZ cyW s0 s1 s2 s3 w0 w1 w2 w3 p0 p1 p2 p3 p4 sfl sco swt ssz wh lf co wi ho tubs pegs pwi flags pco pcl phr pho) (b2i res)) args s 0 0 A) 6 D A 0 0 (wSWP cyI cyZ cyW s0 s1 s2 s3 w0 w1 w2 w3 p0 p1 p2 p3 p4 sfl sco swt ssz wh lf co wi ho tubs pegs pwi flags pco pcl phr pho) 3 [(0, .ref s0), (1, .int x1), (2, .int x2), (3, .ref w0), (4, .int x4)] []) (h : gX7_fitsAll_3 rec3 x1 x2 x4 sfl sco swt ssz co flags = some res) : Mx p l e ({ frames := 1, cells := 0, slots := 0, locals := 23 } : Room) s m args below meth c (MQ below (QI D (tyA cyI cyZ cyW) A (wSWP cyI cyZ cyW s0 s1 s2 s3 w0 w1 w2 w3 p0 p1 p2 p3 p4 sfl sco swt ssz wh lf co wi ho tubs pegs pwi flags pco pcl phr pho) (b2i res)) args s 0 0 A) 6 D A 0 0 (wSWP cyI cyZ cyW s0 s1 s2 s3 w0 w1 w2 w3 p0 p1 p2 p3 p4 sfl sco swt ssz wh lf co wi ho tubs pegs pwi flags pco pcl phr pho) 3 [(0, .ref s0), (1, .int x1), (2, .int x2), (3, .ref w0), (4, .int x4)] [] := by
  unfold gX7_fitsAll_3 at h
  refine r_iload C dX7_fitsAll_3 4 rfl ?_
  refine r_aload_n C dX7_fitsAll_5 0 rfl rfl ?_
  refine r_get (ci := 4) (CC := RX7) (T := TX7) (N := 4) (v := .int ssz) C hinX7_fitsAll_X7 0 rfl rfl 3 (by decide) mX7_fitsAll_1 rfl rfl dX7_fitsAll_6 ?_
  refine r_icmp_ge (tgt := 93) C dX7_fitsAll_9 (by decide) (fun c1 => ?_) (fun c1 => ?_)
  · replace h := ob_t h c1
    refine r_iconst (v := 1) C dX7_fitsAll_93 ic_1 ?_
    have h9 := Option.some.inj h
    subst h9
    exact r_zret (b := true) C rfl dX7_fitsAll_94
  · replace h := ob_f h c1
    refine r_iload C dX7_fitsAll_12 4 rfl ?_
    refine r_bipush (v := 6) C dX7_fitsAll_14 bp_6 ?_
    refine r_icmp_ge (tgt := 93) C dX7_fitsAll_16 (by decide) (fun c2 => ?_) (fun c2 => ?_)
    · replace h := ob_t h c2
      refine r_iconst (v := 1) C dX7_fitsAll_93 ic_1 ?_
      have h9 := Option.some.inj h
      subst h9
      exact r_zret (b := true) C rfl dX7_fitsAll_94
    · replace h := ob_f h c2
      refine r_aload_n C dX7_fitsAll_19 0 rfl rfl ?_
      refine r_get (ci := 4) (CC := RX7) (T := TX7) (N := 4) (v := .ref s1) C hinX7_fitsAll_X7 0 rfl rfl 0 (by decide) mX7_fitsAll_2 rfl rfl dX7_fitsAll_20 ?_
      refine r_iload C dX7_fitsAll_23 4 rfl ?_
      obtain ⟨hu3, h⟩ := ob_if h
      refine r_iald C 1 0 rfl rfl (inb_vp hu3) dX7_fitsAll_25 ?_
      refine r_iload_n C dX7_fitsAll_26 1 rfl rfl ?_
      refine r_icmp_ne (tgt := 54) C dX7_fitsAll_27 (by decide) (fun c4 => ?_) (fun c4 => ?_)
      · replace h := ob_f h c4
        refine r_lv (lv' := [(0, .ref s0), (1, .int x1), (2, .int x2), (3, .ref w0), (4, .int x4)]) [0, 1, 2, 3, 4] rfl ?_
        exact LX7_fitsAll_54 C (x1 := x1) (x2 := x2) (x4 := x4) (sfl := sfl) (sco := sco) (swt := swt) (ssz := ssz) (wh := wh) (lf := lf) (co := co) (wi := wi) (ho := ho) (tubs := tubs) (pegs := pegs) (pwi := pwi) (flags := flags) (pco := pco) (pcl := pcl) (phr := phr) (pho := pho) hrec3 h
      · replace h := ob_t h c4
        refine r_aload_n C dX7_fitsAll_30 0 rfl rfl ?_
        refine r_get (ci := 4) (CC := RX7) (T := TX7) (N := 4) (v := .ref s3) C hinX7_fitsAll_X7 0 rfl rfl 2 (by decide) mX7_fitsAll_3 rfl rfl dX7_fitsAll_31 ?_
        refine r_iload C dX7_fitsAll_34 4 rfl ?_
        obtain ⟨hu5, h⟩ := ob_if h
        refine r_iald C 3 0 rfl rfl (inb_vp hu5) dX7_fitsAll_36 ?_
        refine r_aload_n C dX7_fitsAll_37 3 rfl rfl ?_
        refine r_get (ci := 5) (CC := RX8) (T := TX8) (N := 6) (v := .ref p0) C hinX7_fitsAll_X8 4 rfl rfl 0 (by decide) mX7_fitsAll_4 rfl rfl dX7_fitsAll_38 ?_
        obtain ⟨u6, hu6, h⟩ := ob_bind h
        refine r_readVI (q0 := 0) (As := []) (rest := [.int (swt x4.toNatClampNeg)]) C (kX4_allBits (p0 := p0) (p1 := p1) (p2 := p2) (p3 := p3) (p4 := p4) (tubs := tubs) (pegs := pegs) (pwi := pwi) (flags := flags) (pco := pco) (pcl := pcl) (phr := phr) (pho := pho)  hu6) gX7_fitsAll_X4_allBits rfl rfl rfl ⟨rfl, hd_X4_allBits⟩ ⟨by decide, by decide⟩ rfl rfl rfl rfl [8, 9, 10, 11, 12] (by decide) in_50 rfl (Nat.le_of_ble_eq_true rfl) dX7_fitsAll_41 ⟨Nat.zero_le _, Nat.zero_le _⟩ ?_
        obtain ⟨u7, hu7, h⟩ := ob_bind h
        refine r_readSNI (host := RX9) (As := [.int (swt x4.toNatClampNeg), .int u6]) (rest := []) C (kX9_isWithin   (x0 := (swt x4.toNatClampNeg)) (x1 := u6) hu7) gX7_fitsAll_X9_isWithin_n41 rfl rfl rfl (by decide +kernel) mX7_fitsAll_13 mX7_fitsAll_12 hd_X9_isWithin ⟨by decide, by decide⟩ rfl [] (by decide) rfl rfl (Nat.le_of_ble_eq_true rfl) dX7_fitsAll_44 ⟨Nat.zero_le _, Nat.zero_le _⟩ ?_
        refine r_ifb_eq (tgt := 54) C dX7_fitsAll_47 (by decide) (fun c8 => ?_) (fun c8 => ?_)
        · replace h := ob_bf h c8
          refine r_lv (lv' := [(0, .ref s0), (1, .int x1), (2, .int x2), (3, .ref w0), (4, .int x4)]) [0, 1, 2, 3, 4] rfl ?_
          exact LX7_fitsAll_54 C (x1 := x1) (x2 := x2) (x4 := x4) (sfl := sfl) (sco := sco) (swt := swt) (ssz := ssz) (wh := wh) (lf := lf) (co := co) (wi := wi) (ho := ho) (tubs := tubs) (pegs := pegs) (pwi := pwi) (flags := flags) (pco := pco) (pcl := pcl) (phr := phr) (pho := pho) hrec3 h
        · replace h := ob_t h c8
          refine r_iconst (v := 1) C dX7_fitsAll_50 ic_1 ?_
          refine r_goto (tgt := 55) C dX7_fitsAll_51 (by decide) ?_
          refine r_lv (lv' := [(0, .ref s0), (1, .int x1), (2, .int x2), (3, .ref w0), (4, .int x4)]) [0, 1, 2, 3, 4] rfl ?_
          exact LX7_fitsAll_55 C (x1 := x1) (x2 := x2) (x4 := x4) (y0 := true) (sfl := sfl) (sco := sco) (swt := swt) (ssz := ssz) (wh := wh) (lf := lf) (co := co) (wi := wi) (ho := ho) (tubs := tubs) (pegs := pegs) (pwi := pwi) (flags := flags) (pco := pco) (pcl := pcl) (phr := phr) (pho := pho) hrec3 h
set_option maxHeartbeats 4000000 in
set_option maxRecDepth 100000 in
theorem LX7_fitsAll_3 {p : Program} {l : Launch} {e : Env} {s : State} {m : MethodId} {args : Array Value} {below : List Frame} {meth : Method} {c : Code} {D : va_G} {cyI cyZ cyW : ClassId} {zW zO : Nat} {A : Nat → Prop} (C : Cx p s m args meth c cX7_fitsAll RX7 "fitsAll" wsX7_fitsAll (some .boolean) 6 D (tyA cyI cyZ cyW) zW zO A) {s0 : Nat} {s1 : Nat} {s2 : Nat} {s3 : Nat} {w0 : Nat} {w1 : Nat} {w2 : Nat} {w3 : Nat} {p0 : Nat} {p1 : Nat} {p2 : Nat} {p3 : Nat} {p4 : Nat} {x1 : Int32} {x2 : Int32} {sfl : (Nat → Int32)} {sco : (Nat → Int32)} {swt : (Nat → Int32)} {ssz : Int32} {wh : (Nat → Int32)} {lf : (Nat → Int32)} {co : (Nat → Int32)} {wi : Int32} {ho : Int32} {tubs : Int32} {pegs : Int32} {pwi : Int32} {flags : Int32} {pco : (Nat → Int32)} {pcl : (Nat → Int32)} {phr : (Nat → Int32)} {pho : (Nat → Int32)}  {res : Bool}  : ∀ (n : Nat) (x4 : Int32), fX7_fitsAll_3  x1 x2 sfl sco swt ssz co flags n x4 = some res → Mx p l e ({ frames := 1, cells := 0, slots := 0, locals := 23 } : Room) s m args below meth c (MQ below (QI D (tyA cyI cyZ cyW) A (wSWP cyI cyZ cyW s0 s1 s2 s3 w0 w1 w2 w3 p0 p1 p2 p3 p4 sfl sco swt ssz wh lf co wi ho tubs pegs pwi flags pco pcl phr pho) (b2i res)) args s 0 0 A) 6 D A 0 0 (wSWP cyI cyZ cyW s0 s1 s2 s3 w0 w1 w2 w3 p0 p1 p2 p3 p4 sfl sco swt ssz wh lf co wi ho tubs pegs pwi flags pco pcl phr pho) 3 [(0, .ref s0), (1, .int x1), (2, .int x2), (3, .ref w0), (4, .int x4)] [] := by
  intro n
  induction n with
  | zero => intro x4 h; cases h
  | succ n ih => intro x4 h; exact LGX7_fitsAll_3 C ih h
set_option maxHeartbeats 4000000 in
set_option maxRecDepth 100000 in
theorem kX7_fitsAll {l : Launch} {D : va_G} {cyI cyZ cyW : ClassId} {zW zO : Nat} {s0 : Nat} {s1 : Nat} {s2 : Nat} {s3 : Nat} {w0 : Nat} {w1 : Nat} {w2 : Nat} {w3 : Nat} {p0 : Nat} {p1 : Nat} {p2 : Nat} {p3 : Nat} {p4 : Nat} {sfl : (Nat → Int32)} {sco : (Nat → Int32)} {swt : (Nat → Int32)} {ssz : Int32} {wh : (Nat → Int32)} {lf : (Nat → Int32)} {co : (Nat → Int32)} {wi : Int32} {ho : Int32} {tubs : Int32} {pegs : Int32} {pwi : Int32} {flags : Int32} {pco : (Nat → Int32)} {pcl : (Nat → Int32)} {phr : (Nat → Int32)} {pho : (Nat → Int32)} {x1 : Int32} {x2 : Int32} {res : Bool} (h : fX7_fitsAll x1 x2 sfl sco swt ssz co flags = some res) : KI l yX7_fitsAll wsX7_fitsAll ({ frames := 1, cells := 0, slots := 0, locals := 23 } : Room) D (tyA cyI cyZ cyW) zW zO [.ref s0, .int x1, .int x2, .ref w0] (wSWP cyI cyZ cyW s0 s1 s2 s3 w0 w1 w2 w3 p0 p1 p2 p3 p4 sfl sco swt ssz wh lf co wi ho tubs pegs pwi flags pco pcl phr pho) (wSWP cyI cyZ cyW s0 s1 s2 s3 w0 w1 w2 w3 p0 p1 p2 p3 p4 sfl sco swt ssz wh lf co wi ho tubs pegs pwi flags pco pcl phr pho) (b2i res) := by
  refine enterI (cc := cX7_fitsAll) (nL := 6) (ret := (some .boolean)) (by decide) rfl (Nat.le_of_ble_eq_true rfl) (fun p e s m below meth c A C => ?_)
  refine r_lv (lv' := [(0, .ref s0), (1, .int x1), (2, .int x2), (3, .ref w0)]) [0, 1, 2, 3] rfl ?_
  unfold fX7_fitsAll at h
  refine r_iconst (v := 0) C dX7_fitsAll_0 ic_0 ?_
  refine r_istore (lv' := [(4, .int (0 : Int32)), (0, .ref s0), (1, .int x1), (2, .int x2), (3, .ref w0)]) C dX7_fitsAll_1 (by decide) rfl ?_
  refine r_lv (lv' := [(0, .ref s0), (1, .int x1), (2, .int x2), (3, .ref w0), (4, .int (0 : Int32))]) [1, 2, 3, 4, 0] rfl ?_
  exact LX7_fitsAll_3 C (x1 := x1) (x2 := x2) (sfl := sfl) (sco := sco) (swt := swt) (ssz := ssz) (wh := wh) (lf := lf) (co := co) (wi := wi) (ho := ho) (tubs := tubs) (pegs := pegs) (pwi := pwi) (flags := flags) (pco := pco) (pcl := pcl) (phr := phr) (pho := pho)  FU (0 : Int32) h

/-! ===== FlagWash$Sightings.howManySets ===== -/
def fX7_howManySets_26 (rec5 : Int32 → Int32 → Option (Int32)) (x1 : Int32) (x3 : Int32) (x4 : Int32) (sfl : (Nat → Int32)) (sco : (Nat → Int32)) (swt : (Nat → Int32)) (ssz : Int32) (co : (Nat → Int32)) (flags : Int32) : Option (Int32) :=
 (rec5 x3 (x4 + (1 : Int32)))
def gX7_howManySets_5 (rec5 : Int32 → Int32 → Option (Int32)) (x1 : Int32) (x3 : Int32) (x4 : Int32) (sfl : (Nat → Int32)) (sco : (Nat → Int32)) (swt : (Nat → Int32)) (ssz : Int32) (co : (Nat → Int32)) (flags : Int32) : Option (Int32) :=
 (if (15 : Int32) < x4 then (some x3)
 else ((fX7_fitsAll x1 x4 sfl sco swt ssz co flags).bind fun u2 => (if u2 = true then (fX7_howManySets_26 rec5 x1 (x3 + (1 : Int32)) x4 sfl sco swt ssz co flags)
 else (fX7_howManySets_26 rec5 x1 x3 x4 sfl sco swt ssz co flags))))
def fX7_howManySets_5  (x1 : Int32) (sfl : (Nat → Int32)) (sco : (Nat → Int32)) (swt : (Nat → Int32)) (ssz : Int32) (co : (Nat → Int32)) (flags : Int32) : Nat → Int32 → Int32 → Option (Int32)
  | 0 => fun _ _ => none
  | n + 1 => fun x3 x4 => gX7_howManySets_5 (fX7_howManySets_5  x1 sfl sco swt ssz co flags n) x1 x3 x4 sfl sco swt ssz co flags
def fX7_howManySets  (x1 : Int32) (sfl : (Nat → Int32)) (sco : (Nat → Int32)) (swt : (Nat → Int32)) (ssz : Int32) (co : (Nat → Int32)) (flags : Int32) : Option (Int32) :=
 (fX7_howManySets_5  x1 sfl sco swt ssz co flags FU (0 : Int32) (0 : Int32))
theorem hd_X7_howManySets : yX7_howManySets.cls ≠ "java/lang/invoke/MethodHandle" ∧ yX7_howManySets.cls ≠ "java/lang/invoke/VarHandle" ∧ (parseMethodDescriptor yX7_howManySets.desc).map (fun d => d.parameters.length) = some 2 := by decide +kernel
set_option maxHeartbeats 4000000 in
set_option maxRecDepth 100000 in
theorem LX7_howManySets_26 {p : Program} {l : Launch} {e : Env} {s : State} {m : MethodId} {args : Array Value} {below : List Frame} {meth : Method} {c : Code} {D : va_G} {cyI cyZ cyW : ClassId} {zW zO : Nat} {A : Nat → Prop} (C : Cx p s m args meth c cX7_howManySets RX7 "howManySets" wsX7_howManySets (some .int) 5 D (tyA cyI cyZ cyW) zW zO A) {s0 : Nat} {s1 : Nat} {s2 : Nat} {s3 : Nat} {w0 : Nat} {w1 : Nat} {w2 : Nat} {w3 : Nat} {p0 : Nat} {p1 : Nat} {p2 : Nat} {p3 : Nat} {p4 : Nat} {sfl : (Nat → Int32)} {sco : (Nat → Int32)} {swt : (Nat → Int32)} {ssz : Int32} {wh : (Nat → Int32)} {lf : (Nat → Int32)} {co : (Nat → Int32)} {wi : Int32} {ho : Int32} {tubs : Int32} {pegs : Int32} {pwi : Int32} {flags : Int32} {pco : (Nat → Int32)} {pcl : (Nat → Int32)} {phr : (Nat → Int32)} {pho : (Nat → Int32)} {x1 : Int32} {x3 : Int32} {x4 : Int32} {rec5 : Int32 → Int32 → Option (Int32)} {res : Int32} (hrec5 : ∀ (x3 : Int32) (x4 : Int32), rec5 x3 x4 = some res → Mx p l e ({ frames := 2, cells := 0, slots := 0, locals := 48 } : Room) s m args below meth c (MQ below (QI D (tyA cyI cyZ cyW) A (wSWP cyI cyZ cyW s0 s1 s2 s3 w0 w1 w2 w3 p0 p1 p2 p3 p4 sfl sco swt ssz wh lf co wi ho tubs pegs pwi flags pco pcl phr pho) res) args s 0 0 A) 5 D A 0 0 (wSWP cyI cyZ cyW s0 s1 s2 s3 w0 w1 w2 w3 p0 p1 p2 p3 p4 sfl sco swt ssz wh lf co wi ho tubs pegs pwi flags pco pcl phr pho) 5 [(0, .ref s0), (1, .int x1), (2, .ref w0), (3, .int x3), (4, .int x4)] []) (h : fX7_howManySets_26 rec5 x1 x3 x4 sfl sco swt ssz co flags = some res) : Mx p l e ({ frames := 2, cells := 0, slots := 0, locals := 48 } : Room) s m args below meth c (MQ below (QI D (tyA cyI cyZ cyW) A (wSWP cyI cyZ cyW s0 s1 s2 s3 w0 w1 w2 w3 p0 p1 p2 p3 p4 sfl sco swt ssz wh lf co wi ho tubs pegs pwi flags pco pcl phr pho) res) args s 0 0 A) 5 D A 0 0 (wSWP cyI cyZ cyW s0 s1 s2 s3 w0 w1 w2 w3 p0 p1 p2 p3 p4 sfl sco swt ssz wh lf co wi ho tubs pegs pwi flags pco pcl phr pho) 26 [(0, .ref s0), (1, .int x1), (2, .ref w0), (3, .int x3), (4, .int x4)] [] := by
  unfold fX7_howManySets_26 at h
  refine r_iinc (v := 1) (lv' := [(4, .int (x4 + (1 : Int32))), (0, .ref s0), (1, .int x1), (2, .ref w0), (3, .int x3)]) C dX7_howManySets_26 4 rfl ic_1 (by decide) rfl ?_
  refine r_goto (tgt := 5) C dX7_howManySets_29 (by decide) ?_
  refine r_lv (lv' := [(0, .ref s0), (1, .int x1), (2, .ref w0), (3, .int x3), (4, .int (x4 + (1 : Int32)))]) [1, 2, 3, 4, 0] rfl ?_
  exact hrec5 x3 (x4 + (1 : Int32)) h
set_option maxHeartbeats 4000000 in
set_option maxRecDepth 100000 in
theorem LGX7_howManySets_5 {p : Program} {l : Launch} {e : Env} {s : State} {m : MethodId} {args : Array Value} {below : List Frame} {meth : Method} {c : Code} {D : va_G} {cyI cyZ cyW : ClassId} {zW zO : Nat} {A : Nat → Prop} (C : Cx p s m args meth c cX7_howManySets RX7 "howManySets" wsX7_howManySets (some .int) 5 D (tyA cyI cyZ cyW) zW zO A) {s0 : Nat} {s1 : Nat} {s2 : Nat} {s3 : Nat} {w0 : Nat} {w1 : Nat} {w2 : Nat} {w3 : Nat} {p0 : Nat} {p1 : Nat} {p2 : Nat} {p3 : Nat} {p4 : Nat} {sfl : (Nat → Int32)} {sco : (Nat → Int32)} {swt : (Nat → Int32)} {ssz : Int32} {wh : (Nat → Int32)} {lf : (Nat → Int32)} {co : (Nat → Int32)} {wi : Int32} {ho : Int32} {tubs : Int32} {pegs : Int32} {pwi : Int32} {flags : Int32} {pco : (Nat → Int32)} {pcl : (Nat → Int32)} {phr : (Nat → Int32)} {pho : (Nat → Int32)} {x1 : Int32} {x3 : Int32} {x4 : Int32} {rec5 : Int32 → Int32 → Option (Int32)} {res : Int32} (hrec5 : ∀ (x3 : Int32) (x4 : Int32), rec5 x3 x4 = some res → Mx p l e ({ frames := 2, cells := 0, slots := 0, locals := 48 } : Room) s m args below meth c (MQ below (QI D (tyA cyI cyZ cyW) A (wSWP cyI cyZ cyW s0 s1 s2 s3 w0 w1 w2 w3 p0 p1 p2 p3 p4 sfl sco swt ssz wh lf co wi ho tubs pegs pwi flags pco pcl phr pho) res) args s 0 0 A) 5 D A 0 0 (wSWP cyI cyZ cyW s0 s1 s2 s3 w0 w1 w2 w3 p0 p1 p2 p3 p4 sfl sco swt ssz wh lf co wi ho tubs pegs pwi flags pco pcl phr pho) 5 [(0, .ref s0), (1, .int x1), (2, .ref w0), (3, .int x3), (4, .int x4)] []) (h : gX7_howManySets_5 rec5 x1 x3 x4 sfl sco swt ssz co flags = some res) : Mx p l e ({ frames := 2, cells := 0, slots := 0, locals := 48 } : Room) s m args below meth c (MQ below (QI D (tyA cyI cyZ cyW) A (wSWP cyI cyZ cyW s0 s1 s2 s3 w0 w1 w2 w3 p0 p1 p2 p3 p4 sfl sco swt ssz wh lf co wi ho tubs pegs pwi flags pco pcl phr pho) res) args s 0 0 A) 5 D A 0 0 (wSWP cyI cyZ cyW s0 s1 s2 s3 w0 w1 w2 w3 p0 p1 p2 p3 p4 sfl sco swt ssz wh lf co wi ho tubs pegs pwi flags pco pcl phr pho) 5 [(0, .ref s0), (1, .int x1), (2, .ref w0), (3, .int x3), (4, .int x4)] [] := by
  unfold gX7_howManySets_5 at h
  refine r_iload C dX7_howManySets_5 4 rfl ?_
  refine r_bipush (v := 15) C dX7_howManySets_7 bp_15 ?_
  refine r_icmp_gt (tgt := 32) C dX7_howManySets_9 (by decide) (fun c1 => ?_) (fun c1 => ?_)
  · replace h := ob_t h c1
    refine r_iload_n C dX7_howManySets_32 3 rfl rfl ?_
    have h9 := Option.some.inj h
    subst h9
    exact r_iret C rfl dX7_howManySets_33
  · replace h := ob_f h c1
    refine r_aload_n C dX7_howManySets_12 0 rfl rfl ?_
    refine r_iload_n C dX7_howManySets_13 1 rfl rfl ?_
    refine r_iload C dX7_howManySets_14 4 rfl ?_
    refine r_aload_n C dX7_howManySets_16 2 rfl rfl ?_
    obtain ⟨u2, hu2, h⟩ := ob_bind h
    refine r_readVI (q0 := 0) (As := [.int x1, .int x4, .ref w0]) (rest := []) C (kX7_fitsAll (s0 := s0) (s1 := s1) (s2 := s2) (s3 := s3) (w0 := w0) (w1 := w1) (w2 := w2) (w3 := w3) (p0 := p0) (p1 := p1) (p2 := p2) (p3 := p3) (p4 := p4) (sfl := sfl) (sco := sco) (swt := swt) (ssz := ssz) (wh := wh) (lf := lf) (co := co) (wi := wi) (ho := ho) (tubs := tubs) (pegs := pegs) (pwi := pwi) (flags := flags) (pco := pco) (pcl := pcl) (phr := phr) (pho := pho) (x1 := x1) (x2 := x4) hu2) gX7_howManySets_X7_fitsAll rfl rfl rfl ⟨rfl, hd_X7_fitsAll⟩ ⟨by decide, by decide⟩ rfl rfl rfl rfl [0, 1, 2, 3, 4, 5, 6, 7, 8, 9, 10, 11, 12] (by decide) in_52 rfl (Nat.le_of_ble_eq_true rfl) dX7_howManySets_17 ⟨Nat.zero_le _, Nat.zero_le _⟩ ?_
    refine r_ifb_eq (tgt := 26) C dX7_howManySets_20 (by decide) (fun c3 => ?_) (fun c3 => ?_)
    · replace h := ob_bf h c3
      refine r_lv (lv' := [(0, .ref s0), (1, .int x1), (2, .ref w0), (3, .int x3), (4, .int x4)]) [0, 1, 2, 3, 4] rfl ?_
      exact LX7_howManySets_26 C (x1 := x1) (x3 := x3) (x4 := x4) (sfl := sfl) (sco := sco) (swt := swt) (ssz := ssz) (wh := wh) (lf := lf) (co := co) (wi := wi) (ho := ho) (tubs := tubs) (pegs := pegs) (pwi := pwi) (flags := flags) (pco := pco) (pcl := pcl) (phr := phr) (pho := pho) hrec5 h
    · replace h := ob_t h c3
      refine r_iinc (v := 1) (lv' := [(3, .int (x3 + (1 : Int32))), (0, .ref s0), (1, .int x1), (2, .ref w0), (4, .int x4)]) C dX7_howManySets_23 3 rfl ic_1 (by decide) rfl ?_
      refine r_lv (lv' := [(0, .ref s0), (1, .int x1), (2, .ref w0), (3, .int (x3 + (1 : Int32))), (4, .int x4)]) [1, 2, 3, 0, 4] rfl ?_
      exact LX7_howManySets_26 C (x1 := x1) (x3 := (x3 + (1 : Int32))) (x4 := x4) (sfl := sfl) (sco := sco) (swt := swt) (ssz := ssz) (wh := wh) (lf := lf) (co := co) (wi := wi) (ho := ho) (tubs := tubs) (pegs := pegs) (pwi := pwi) (flags := flags) (pco := pco) (pcl := pcl) (phr := phr) (pho := pho) hrec5 h
set_option maxHeartbeats 4000000 in
set_option maxRecDepth 100000 in
theorem LX7_howManySets_5 {p : Program} {l : Launch} {e : Env} {s : State} {m : MethodId} {args : Array Value} {below : List Frame} {meth : Method} {c : Code} {D : va_G} {cyI cyZ cyW : ClassId} {zW zO : Nat} {A : Nat → Prop} (C : Cx p s m args meth c cX7_howManySets RX7 "howManySets" wsX7_howManySets (some .int) 5 D (tyA cyI cyZ cyW) zW zO A) {s0 : Nat} {s1 : Nat} {s2 : Nat} {s3 : Nat} {w0 : Nat} {w1 : Nat} {w2 : Nat} {w3 : Nat} {p0 : Nat} {p1 : Nat} {p2 : Nat} {p3 : Nat} {p4 : Nat} {x1 : Int32} {sfl : (Nat → Int32)} {sco : (Nat → Int32)} {swt : (Nat → Int32)} {ssz : Int32} {wh : (Nat → Int32)} {lf : (Nat → Int32)} {co : (Nat → Int32)} {wi : Int32} {ho : Int32} {tubs : Int32} {pegs : Int32} {pwi : Int32} {flags : Int32} {pco : (Nat → Int32)} {pcl : (Nat → Int32)} {phr : (Nat → Int32)} {pho : (Nat → Int32)}  {res : Int32}  : ∀ (n : Nat) (x3 : Int32) (x4 : Int32), fX7_howManySets_5  x1 sfl sco swt ssz co flags n x3 x4 = some res → Mx p l e ({ frames := 2, cells := 0, slots := 0, locals := 48 } : Room) s m args below meth c (MQ below (QI D (tyA cyI cyZ cyW) A (wSWP cyI cyZ cyW s0 s1 s2 s3 w0 w1 w2 w3 p0 p1 p2 p3 p4 sfl sco swt ssz wh lf co wi ho tubs pegs pwi flags pco pcl phr pho) res) args s 0 0 A) 5 D A 0 0 (wSWP cyI cyZ cyW s0 s1 s2 s3 w0 w1 w2 w3 p0 p1 p2 p3 p4 sfl sco swt ssz wh lf co wi ho tubs pegs pwi flags pco pcl phr pho) 5 [(0, .ref s0), (1, .int x1), (2, .ref w0), (3, .int x3), (4, .int x4)] [] := by
  intro n
  induction n with
  | zero => intro x3 x4 h; cases h
  | succ n ih => intro x3 x4 h; exact LGX7_howManySets_5 C ih h
set_option maxHeartbeats 4000000 in
set_option maxRecDepth 100000 in
theorem kX7_howManySets {l : Launch} {D : va_G} {cyI cyZ cyW : ClassId} {zW zO : Nat} {s0 : Nat} {s1 : Nat} {s2 : Nat} {s3 : Nat} {w0 : Nat} {w1 : Nat} {w2 : Nat} {w3 : Nat} {p0 : Nat} {p1 : Nat} {p2 : Nat} {p3 : Nat} {p4 : Nat} {sfl : (Nat → Int32)} {sco : (Nat → Int32)} {swt : (Nat → Int32)} {ssz : Int32} {wh : (Nat → Int32)} {lf : (Nat → Int32)} {co : (Nat → Int32)} {wi : Int32} {ho : Int32} {tubs : Int32} {pegs : Int32} {pwi : Int32} {flags : Int32} {pco : (Nat → Int32)} {pcl : (Nat → Int32)} {phr : (Nat → Int32)} {pho : (Nat → Int32)} {x1 : Int32} {res : Int32} (h : fX7_howManySets x1 sfl sco swt ssz co flags = some res) : KI l yX7_howManySets wsX7_howManySets ({ frames := 2, cells := 0, slots := 0, locals := 48 } : Room) D (tyA cyI cyZ cyW) zW zO [.ref s0, .int x1, .ref w0] (wSWP cyI cyZ cyW s0 s1 s2 s3 w0 w1 w2 w3 p0 p1 p2 p3 p4 sfl sco swt ssz wh lf co wi ho tubs pegs pwi flags pco pcl phr pho) (wSWP cyI cyZ cyW s0 s1 s2 s3 w0 w1 w2 w3 p0 p1 p2 p3 p4 sfl sco swt ssz wh lf co wi ho tubs pegs pwi flags pco pcl phr pho) res := by
  refine enterI (cc := cX7_howManySets) (nL := 5) (ret := (some .int)) (by decide) rfl (Nat.le_of_ble_eq_true rfl) (fun p e s m below meth c A C => ?_)
  refine r_lv (lv' := [(0, .ref s0), (1, .int x1), (2, .ref w0)]) [0, 1, 2] rfl ?_
  unfold fX7_howManySets at h
  refine r_iconst (v := 0) C dX7_howManySets_0 ic_0 ?_
  refine r_istore_n (lv' := [(3, .int (0 : Int32)), (0, .ref s0), (1, .int x1), (2, .ref w0)]) C dX7_howManySets_1 rfl (by decide) rfl ?_
  refine r_iconst (v := 0) C dX7_howManySets_2 ic_0 ?_
  refine r_istore (lv' := [(4, .int (0 : Int32)), (3, .int (0 : Int32)), (0, .ref s0), (1, .int x1), (2, .ref w0)]) C dX7_howManySets_3 (by decide) rfl ?_
  refine r_lv (lv' := [(0, .ref s0), (1, .int x1), (2, .ref w0), (3, .int (0 : Int32)), (4, .int (0 : Int32))]) [2, 3, 4, 1, 0] rfl ?_
  exact LX7_howManySets_5 C (x1 := x1) (sfl := sfl) (sco := sco) (swt := swt) (ssz := ssz) (wh := wh) (lf := lf) (co := co) (wi := wi) (ho := ho) (tubs := tubs) (pegs := pegs) (pwi := pwi) (flags := flags) (pco := pco) (pcl := pcl) (phr := phr) (pho := pho)  FU (0 : Int32) (0 : Int32) h

/-! ===== FlagWash$Sightings.coloursInAll ===== -/
def fX7_coloursInAll_40 (rec6 : Int32 → Int32 → Option (Int32)) (x1 : Int32) (x3 : Int32) (x4 : Int32) (sfl : (Nat → Int32)) (sco : (Nat → Int32)) (swt : (Nat → Int32)) (ssz : Int32) (co : (Nat → Int32)) (flags : Int32) : Option (Int32) :=
 (rec6 x3 (x4 + (1 : Int32)))
def fX7_coloursInAll_39 (rec6 : Int32 → Int32 → Option (Int32)) (x1 : Int32) (x4 : Int32) (y0 : Int32) (sfl : (Nat → Int32)) (sco : (Nat → Int32)) (swt : (Nat → Int32)) (ssz : Int32) (co : (Nat → Int32)) (flags : Int32) : Option (Int32) :=
 (fX7_coloursInAll_40 rec6 x1 y0 x4 sfl sco swt ssz co flags)
def gX7_coloursInAll_6 (rec6 : Int32 → Int32 → Option (Int32)) (x1 : Int32) (x3 : Int32) (x4 : Int32) (sfl : (Nat → Int32)) (sco : (Nat → Int32)) (swt : (Nat → Int32)) (ssz : Int32) (co : (Nat → Int32)) (flags : Int32) : Option (Int32) :=
 (if (15 : Int32) < x4 then (some x3)
 else ((fX7_fitsAll x1 x4 sfl sco swt ssz co flags).bind fun u2 => (if u2 = true then (if x3 = (-9 : Int32) then (fX7_coloursInAll_39 rec6 x1 x4 x4 sfl sco swt ssz co flags)
 else (fX7_coloursInAll_39 rec6 x1 x4 (x3 &&& x4) sfl sco swt ssz co flags))
 else (fX7_coloursInAll_40 rec6 x1 x3 x4 sfl sco swt ssz co flags))))
def fX7_coloursInAll_6  (x1 : Int32) (sfl : (Nat → Int32)) (sco : (Nat → Int32)) (swt : (Nat → Int32)) (ssz : Int32) (co : (Nat → Int32)) (flags : Int32) : Nat → Int32 → Int32 → Option (Int32)
  | 0 => fun _ _ => none
  | n + 1 => fun x3 x4 => gX7_coloursInAll_6 (fX7_coloursInAll_6  x1 sfl sco swt ssz co flags n) x1 x3 x4 sfl sco swt ssz co flags
def fX7_coloursInAll  (x1 : Int32) (sfl : (Nat → Int32)) (sco : (Nat → Int32)) (swt : (Nat → Int32)) (ssz : Int32) (co : (Nat → Int32)) (flags : Int32) : Option (Int32) :=
 (fX7_coloursInAll_6  x1 sfl sco swt ssz co flags FU (-9 : Int32) (0 : Int32))
theorem hd_X7_coloursInAll : yX7_coloursInAll.cls ≠ "java/lang/invoke/MethodHandle" ∧ yX7_coloursInAll.cls ≠ "java/lang/invoke/VarHandle" ∧ (parseMethodDescriptor yX7_coloursInAll.desc).map (fun d => d.parameters.length) = some 2 := by decide +kernel
set_option maxHeartbeats 4000000 in
set_option maxRecDepth 100000 in
theorem LX7_coloursInAll_40 {p : Program} {l : Launch} {e : Env} {s : State} {m : MethodId} {args : Array Value} {below : List Frame} {meth : Method} {c : Code} {D : va_G} {cyI cyZ cyW : ClassId} {zW zO : Nat} {A : Nat → Prop} (C : Cx p s m args meth c cX7_coloursInAll RX7 "coloursInAll" wsX7_coloursInAll (some .int) 5 D (tyA cyI cyZ cyW) zW zO A) {s0 : Nat} {s1 : Nat} {s2 : Nat} {s3 : Nat} {w0 : Nat} {w1 : Nat} {w2 : Nat} {w3 : Nat} {p0 : Nat} {p1 : Nat} {p2 : Nat} {p3 : Nat} {p4 : Nat} {sfl : (Nat → Int32)} {sco : (Nat → Int32)} {swt : (Nat → Int32)} {ssz : Int32} {wh : (Nat → Int32)} {lf : (Nat → Int32)} {co : (Nat → Int32)} {wi : Int32} {ho : Int32} {tubs : Int32} {pegs : Int32} {pwi : Int32} {flags : Int32} {pco : (Nat → Int32)} {pcl : (Nat → Int32)} {phr : (Nat → Int32)} {pho : (Nat → Int32)} {x1 : Int32} {x3 : Int32} {x4 : Int32} {rec6 : Int32 → Int32 → Option (Int32)} {res : Int32} (hrec6 : ∀ (x3 : Int32) (x4 : Int32), rec6 x3 x4 = some res → Mx p l e ({ frames := 2, cells := 0, slots := 0, locals := 48 } : Room) s m args below meth c (MQ below (QI D (tyA cyI cyZ cyW) A (wSWP cyI cyZ cyW s0 s1 s2 s3 w0 w1 w2 w3 p0 p1 p2 p3 p4 sfl sco swt ssz wh lf co wi ho tubs pegs pwi flags pco pcl phr pho) res) args s 0 0 A) 5 D A 0 0 (wSWP cyI cyZ cyW s0 s1 s2 s3 w0 w1 w2 w3 p0 p1 p2 p3 p4 sfl sco swt ssz wh lf co wi ho tubs pegs pwi flags pco pcl phr pho) 6 [(0, .ref s0), (1, .int x1), (2, .ref w0), (3, .int x3), (4, .int x4)] []) (h : fX7_coloursInAll_40 rec6 x1 x3 x4 sfl sco swt ssz co flags = some res) : Mx p l e ({ frames := 2, cells := 0, slots := 0, locals := 48 } : Room) s m args below meth c (MQ below (QI D (tyA cyI cyZ cyW) A (wSWP cyI cyZ cyW s0 s1 s2 s3 w0 w1 w2 w3 p0 p1 p2 p3 p4 sfl sco swt ssz wh lf co wi ho tubs pegs pwi flags pco pcl phr pho) res) args s 0 0 A) 5 D A 0 0 (wSWP cyI cyZ cyW s0 s1 s2 s3 w0 w1 w2 w3 p0 p1 p2 p3 p4 sfl sco swt ssz wh lf co wi ho tubs pegs pwi flags pco pcl phr pho) 40 [(0, .ref s0), (1, .int x1), (2, .ref w0), (3, .int x3), (4, .int x4)] [] := by
  unfold fX7_coloursInAll_40 at h
  refine r_iinc (v := 1) (lv' := [(4, .int (x4 + (1 : Int32))), (0, .ref s0), (1, .int x1), (2, .ref w0), (3, .int x3)]) C dX7_coloursInAll_40 4 rfl ic_1 (by decide) rfl ?_
  refine r_goto (tgt := 6) C dX7_coloursInAll_43 (by decide) ?_
  refine r_lv (lv' := [(0, .ref s0), (1, .int x1), (2, .ref w0), (3, .int x3), (4, .int (x4 + (1 : Int32)))]) [1, 2, 3, 4, 0] rfl ?_
  exact hrec6 x3 (x4 + (1 : Int32)) h
set_option maxHeartbeats 4000000 in
set_option maxRecDepth 100000 in
theorem LX7_coloursInAll_39 {p : Program} {l : Launch} {e : Env} {s : State} {m : MethodId} {args : Array Value} {below : List Frame} {meth : Method} {c : Code} {D : va_G} {cyI cyZ cyW : ClassId} {zW zO : Nat} {A : Nat → Prop} (C : Cx p s m args meth c cX7_coloursInAll RX7 "coloursInAll" wsX7_coloursInAll (some .int) 5 D (tyA cyI cyZ cyW) zW zO A) {s0 : Nat} {s1 : Nat} {s2 : Nat} {s3 : Nat} {w0 : Nat} {w1 : Nat} {w2 : Nat} {w3 : Nat} {p0 : Nat} {p1 : Nat} {p2 : Nat} {p3 : Nat} {p4 : Nat} {sfl : (Nat → Int32)} {sco : (Nat → Int32)} {swt : (Nat → Int32)} {ssz : Int32} {wh : (Nat → Int32)} {lf : (Nat → Int32)} {co : (Nat → Int32)} {wi : Int32} {ho : Int32} {tubs : Int32} {pegs : Int32} {pwi : Int32} {flags : Int32} {pco : (Nat → Int32)} {pcl : (Nat → Int32)} {phr : (Nat → Int32)} {pho : (Nat → Int32)} {x1 : Int32} {x4 : Int32} {y0 : Int32} {rec6 : Int32 → Int32 → Option (Int32)} {res : Int32} (hrec6 : ∀ (x3 : Int32) (x4 : Int32), rec6 x3 x4 = some res → Mx p l e ({ frames := 2, cells := 0, slots := 0, locals := 48 } : Room) s m args below meth c (MQ below (QI D (tyA cyI cyZ cyW) A (wSWP cyI cyZ cyW s0 s1 s2 s3 w0 w1 w2 w3 p0 p1 p2 p3 p4 sfl sco swt ssz wh lf co wi ho tubs pegs pwi flags pco pcl phr pho) res) args s 0 0 A) 5 D A 0 0 (wSWP cyI cyZ cyW s0 s1 s2 s3 w0 w1 w2 w3 p0 p1 p2 p3 p4 sfl sco swt ssz wh lf co wi ho tubs pegs pwi flags pco pcl phr pho) 6 [(0, .ref s0), (1, .int x1), (2, .ref w0), (3, .int x3), (4, .int x4)] []) (h : fX7_coloursInAll_39 rec6 x1 x4 y0 sfl sco swt ssz co flags = some res) : Mx p l e ({ frames := 2, cells := 0, slots := 0, locals := 48 } : Room) s m args below meth c (MQ below (QI D (tyA cyI cyZ cyW) A (wSWP cyI cyZ cyW s0 s1 s2 s3 w0 w1 w2 w3 p0 p1 p2 p3 p4 sfl sco swt ssz wh lf co wi ho tubs pegs pwi flags pco pcl phr pho) res) args s 0 0 A) 5 D A 0 0 (wSWP cyI cyZ cyW s0 s1 s2 s3 w0 w1 w2 w3 p0 p1 p2 p3 p4 sfl sco swt ssz wh lf co wi ho tubs pegs pwi flags pco pcl phr pho) 39 [(0, .ref s0), (1, .int x1), (2, .ref w0), (4, .int x4)] [.int y0] := by
  unfold fX7_coloursInAll_39 at h
  refine r_istore_n (lv' := [(3, .int y0), (0, .ref s0), (1, .int x1), (2, .ref w0), (4, .int x4)]) C dX7_coloursInAll_39 rfl (by decide) rfl ?_
  refine r_lv (lv' := [(0, .ref s0), (1, .int x1), (2, .ref w0), (3, .int y0), (4, .int x4)]) [1, 2, 3, 0, 4] rfl ?_
  exact LX7_coloursInAll_40 C (x1 := x1) (x3 := y0) (x4 := x4) (sfl := sfl) (sco := sco) (swt := swt) (ssz := ssz) (wh := wh) (lf := lf) (co := co) (wi := wi) (ho := ho) (tubs := tubs) (pegs := pegs) (pwi := pwi) (flags := flags) (pco := pco) (pcl := pcl) (phr := phr) (pho := pho) hrec6 h
set_option maxHeartbeats 4000000 in
set_option maxRecDepth 100000 in
theorem LGX7_coloursInAll_6 {p : Program} {l : Launch} {e : Env} {s : State} {m : MethodId} {args : Array Value} {below : List Frame} {meth : Method} {c : Code} {D : va_G} {cyI cyZ cyW : ClassId} {zW zO : Nat} {A : Nat → Prop} (C : Cx p s m args meth c cX7_coloursInAll RX7 "coloursInAll" wsX7_coloursInAll (some .int) 5 D (tyA cyI cyZ cyW) zW zO A) {s0 : Nat} {s1 : Nat} {s2 : Nat} {s3 : Nat} {w0 : Nat} {w1 : Nat} {w2 : Nat} {w3 : Nat} {p0 : Nat} {p1 : Nat} {p2 : Nat} {p3 : Nat} {p4 : Nat} {sfl : (Nat → Int32)} {sco : (Nat → Int32)} {swt : (Nat → Int32)} {ssz : Int32} {wh : (Nat → Int32)} {lf : (Nat → Int32)} {co : (Nat → Int32)} {wi : Int32} {ho : Int32} {tubs : Int32} {pegs : Int32} {pwi : Int32} {flags : Int32} {pco : (Nat → Int32)} {pcl : (Nat → Int32)} {phr : (Nat → Int32)} {pho : (Nat → Int32)} {x1 : Int32} {x3 : Int32} {x4 : Int32} {rec6 : Int32 → Int32 → Option (Int32)} {res : Int32} (hrec6 : ∀ (x3 : Int32) (x4 : Int32), rec6 x3 x4 = some res → Mx p l e ({ frames := 2, cells := 0, slots := 0, locals := 48 } : Room) s m args below meth c (MQ below (QI D (tyA cyI cyZ cyW) A (wSWP cyI cyZ cyW s0 s1 s2 s3 w0 w1 w2 w3 p0 p1 p2 p3 p4 sfl sco swt ssz wh lf co wi ho tubs pegs pwi flags pco pcl phr pho) res) args s 0 0 A) 5 D A 0 0 (wSWP cyI cyZ cyW s0 s1 s2 s3 w0 w1 w2 w3 p0 p1 p2 p3 p4 sfl sco swt ssz wh lf co wi ho tubs pegs pwi flags pco pcl phr pho) 6 [(0, .ref s0), (1, .int x1), (2, .ref w0), (3, .int x3), (4, .int x4)] []) (h : gX7_coloursInAll_6 rec6 x1 x3 x4 sfl sco swt ssz co flags = some res) : Mx p l e ({ frames := 2, cells := 0, slots := 0, locals := 48 } : Room) s m args below meth c (MQ below (QI D (tyA cyI cyZ cyW) A (wSWP cyI cyZ cyW s0 s1 s2 s3 w0 w1 w2 w3 p0 p1 p2 p3 p4 sfl sco swt ssz wh lf co wi ho tubs pegs pwi flags pco pcl phr pho) res) args s 0 0 A) 5 D A 0 0 (wSWP cyI cyZ cyW s0 s1 s2 s3 w0 w1 w2 w3 p0 p1 p2 p3 p4 sfl sco swt ssz wh lf co wi ho tubs pegs pwi flags pco pcl phr pho) 6 [(0, .ref s0), (1, .int x1), (2, .ref w0), (3, .int x3), (4, .int x4)] [] := by
  unfold gX7_coloursInAll_6 at h
  refine r_iload C dX7_coloursInAll_6 4 rfl ?_
  refine r_bipush (v := 15) C dX7_coloursInAll_8 bp_15 ?_
  refine r_icmp_gt (tgt := 46) C dX7_coloursInAll_10 (by decide) (fun c1 => ?_) (fun c1 => ?_)
  · replace h := ob_t h c1
    refine r_iload_n C dX7_coloursInAll_46 3 rfl rfl ?_
    have h9 := Option.some.inj h
    subst h9
    exact r_iret C rfl dX7_coloursInAll_47
  · replace h := ob_f h c1
    refine r_aload_n C dX7_coloursInAll_13 0 rfl rfl ?_
    refine r_iload_n C dX7_coloursInAll_14 1 rfl rfl ?_
    refine r_iload C dX7_coloursInAll_15 4 rfl ?_
    refine r_aload_n C dX7_coloursInAll_17 2 rfl rfl ?_
    obtain ⟨u2, hu2, h⟩ := ob_bind h
    refine r_readVI (q0 := 0) (As := [.int x1, .int x4, .ref w0]) (rest := []) C (kX7_fitsAll (s0 := s0) (s1 := s1) (s2 := s2) (s3 := s3) (w0 := w0) (w1 := w1) (w2 := w2) (w3 := w3) (p0 := p0) (p1 := p1) (p2 := p2) (p3 := p3) (p4 := p4) (sfl := sfl) (sco := sco) (swt := swt) (ssz := ssz) (wh := wh) (lf := lf) (co := co) (wi := wi) (ho := ho) (tubs := tubs) (pegs := pegs) (pwi := pwi) (flags := flags) (pco := pco) (pcl := pcl) (phr := phr) (pho := pho) (x1 := x1) (x2 := x4) hu2) gX7_coloursInAll_X7_fitsAll rfl rfl rfl ⟨rfl, hd_X7_fitsAll⟩ ⟨by decide, by decide⟩ rfl rfl rfl rfl [0, 1, 2, 3, 4, 5, 6, 7, 8, 9, 10, 11, 12] (by decide) in_52 rfl (Nat.le_of_ble_eq_true rfl) dX7_coloursInAll_18 ⟨Nat.zero_le _, Nat.zero_le _⟩ ?_
    refine r_ifb_eq (tgt := 40) C dX7_coloursInAll_21 (by decide) (fun c3 => ?_) (fun c3 => ?_)
    · replace h := ob_bf h c3
      refine r_lv (lv' := [(0, .ref s0), (1, .int x1), (2, .ref w0), (3, .int x3), (4, .int x4)]) [0, 1, 2, 3, 4] rfl ?_
      exact LX7_coloursInAll_40 C (x1 := x1) (x3 := x3) (x4 := x4) (sfl := sfl) (sco := sco) (swt := swt) (ssz := ssz) (wh := wh) (lf := lf) (co := co) (wi := wi) (ho := ho) (tubs := tubs) (pegs := pegs) (pwi := pwi) (flags := flags) (pco := pco) (pcl := pcl) (phr := phr) (pho := pho) hrec6 h
    · replace h := ob_t h c3
      refine r_iload_n C dX7_coloursInAll_24 3 rfl rfl ?_
      refine r_bipush (v := -9) C dX7_coloursInAll_25 bp_m9 ?_
      refine r_icmp_ne (tgt := 35) C dX7_coloursInAll_27 (by decide) (fun c4 => ?_) (fun c4 => ?_)
      · replace h := ob_f h c4
        refine r_iload_n C dX7_coloursInAll_35 3 rfl rfl ?_
        refine r_iload C dX7_coloursInAll_36 4 rfl ?_
        refine r_iand C dX7_coloursInAll_38 ?_
        refine r_lv (lv' := [(0, .ref s0), (1, .int x1), (2, .ref w0), (4, .int x4)]) [0, 1, 2, 4] rfl ?_
        exact LX7_coloursInAll_39 C (x1 := x1) (x4 := x4) (y0 := (x3 &&& x4)) (sfl := sfl) (sco := sco) (swt := swt) (ssz := ssz) (wh := wh) (lf := lf) (co := co) (wi := wi) (ho := ho) (tubs := tubs) (pegs := pegs) (pwi := pwi) (flags := flags) (pco := pco) (pcl := pcl) (phr := phr) (pho := pho) hrec6 h
      · replace h := ob_t h c4
        refine r_iload C dX7_coloursInAll_30 4 rfl ?_
        refine r_goto (tgt := 39) C dX7_coloursInAll_32 (by decide) ?_
        refine r_lv (lv' := [(0, .ref s0), (1, .int x1), (2, .ref w0), (4, .int x4)]) [0, 1, 2, 4] rfl ?_
        exact LX7_coloursInAll_39 C (x1 := x1) (x4 := x4) (y0 := x4) (sfl := sfl) (sco := sco) (swt := swt) (ssz := ssz) (wh := wh) (lf := lf) (co := co) (wi := wi) (ho := ho) (tubs := tubs) (pegs := pegs) (pwi := pwi) (flags := flags) (pco := pco) (pcl := pcl) (phr := phr) (pho := pho) hrec6 h
set_option maxHeartbeats 4000000 in
set_option maxRecDepth 100000 in
theorem LX7_coloursInAll_6 {p : Program} {l : Launch} {e : Env} {s : State} {m : MethodId} {args : Array Value} {below : List Frame} {meth : Method} {c : Code} {D : va_G} {cyI cyZ cyW : ClassId} {zW zO : Nat} {A : Nat → Prop} (C : Cx p s m args meth c cX7_coloursInAll RX7 "coloursInAll" wsX7_coloursInAll (some .int) 5 D (tyA cyI cyZ cyW) zW zO A) {s0 : Nat} {s1 : Nat} {s2 : Nat} {s3 : Nat} {w0 : Nat} {w1 : Nat} {w2 : Nat} {w3 : Nat} {p0 : Nat} {p1 : Nat} {p2 : Nat} {p3 : Nat} {p4 : Nat} {x1 : Int32} {sfl : (Nat → Int32)} {sco : (Nat → Int32)} {swt : (Nat → Int32)} {ssz : Int32} {wh : (Nat → Int32)} {lf : (Nat → Int32)} {co : (Nat → Int32)} {wi : Int32} {ho : Int32} {tubs : Int32} {pegs : Int32} {pwi : Int32} {flags : Int32} {pco : (Nat → Int32)} {pcl : (Nat → Int32)} {phr : (Nat → Int32)} {pho : (Nat → Int32)}  {res : Int32}  : ∀ (n : Nat) (x3 : Int32) (x4 : Int32), fX7_coloursInAll_6  x1 sfl sco swt ssz co flags n x3 x4 = some res → Mx p l e ({ frames := 2, cells := 0, slots := 0, locals := 48 } : Room) s m args below meth c (MQ below (QI D (tyA cyI cyZ cyW) A (wSWP cyI cyZ cyW s0 s1 s2 s3 w0 w1 w2 w3 p0 p1 p2 p3 p4 sfl sco swt ssz wh lf co wi ho tubs pegs pwi flags pco pcl phr pho) res) args s 0 0 A) 5 D A 0 0 (wSWP cyI cyZ cyW s0 s1 s2 s3 w0 w1 w2 w3 p0 p1 p2 p3 p4 sfl sco swt ssz wh lf co wi ho tubs pegs pwi flags pco pcl phr pho) 6 [(0, .ref s0), (1, .int x1), (2, .ref w0), (3, .int x3), (4, .int x4)] [] := by
  intro n
  induction n with
  | zero => intro x3 x4 h; cases h
  | succ n ih => intro x3 x4 h; exact LGX7_coloursInAll_6 C ih h
set_option maxHeartbeats 4000000 in
set_option maxRecDepth 100000 in
theorem kX7_coloursInAll {l : Launch} {D : va_G} {cyI cyZ cyW : ClassId} {zW zO : Nat} {s0 : Nat} {s1 : Nat} {s2 : Nat} {s3 : Nat} {w0 : Nat} {w1 : Nat} {w2 : Nat} {w3 : Nat} {p0 : Nat} {p1 : Nat} {p2 : Nat} {p3 : Nat} {p4 : Nat} {sfl : (Nat → Int32)} {sco : (Nat → Int32)} {swt : (Nat → Int32)} {ssz : Int32} {wh : (Nat → Int32)} {lf : (Nat → Int32)} {co : (Nat → Int32)} {wi : Int32} {ho : Int32} {tubs : Int32} {pegs : Int32} {pwi : Int32} {flags : Int32} {pco : (Nat → Int32)} {pcl : (Nat → Int32)} {phr : (Nat → Int32)} {pho : (Nat → Int32)} {x1 : Int32} {res : Int32} (h : fX7_coloursInAll x1 sfl sco swt ssz co flags = some res) : KI l yX7_coloursInAll wsX7_coloursInAll ({ frames := 2, cells := 0, slots := 0, locals := 48 } : Room) D (tyA cyI cyZ cyW) zW zO [.ref s0, .int x1, .ref w0] (wSWP cyI cyZ cyW s0 s1 s2 s3 w0 w1 w2 w3 p0 p1 p2 p3 p4 sfl sco swt ssz wh lf co wi ho tubs pegs pwi flags pco pcl phr pho) (wSWP cyI cyZ cyW s0 s1 s2 s3 w0 w1 w2 w3 p0 p1 p2 p3 p4 sfl sco swt ssz wh lf co wi ho tubs pegs pwi flags pco pcl phr pho) res := by
  refine enterI (cc := cX7_coloursInAll) (nL := 5) (ret := (some .int)) (by decide) rfl (Nat.le_of_ble_eq_true rfl) (fun p e s m below meth c A C => ?_)
  refine r_lv (lv' := [(0, .ref s0), (1, .int x1), (2, .ref w0)]) [0, 1, 2] rfl ?_
  unfold fX7_coloursInAll at h
  refine r_bipush (v := -9) C dX7_coloursInAll_0 bp_m9 ?_
  refine r_istore_n (lv' := [(3, .int (-9 : Int32)), (0, .ref s0), (1, .int x1), (2, .ref w0)]) C dX7_coloursInAll_2 rfl (by decide) rfl ?_
  refine r_iconst (v := 0) C dX7_coloursInAll_3 ic_0 ?_
  refine r_istore (lv' := [(4, .int (0 : Int32)), (3, .int (-9 : Int32)), (0, .ref s0), (1, .int x1), (2, .ref w0)]) C dX7_coloursInAll_4 (by decide) rfl ?_
  refine r_lv (lv' := [(0, .ref s0), (1, .int x1), (2, .ref w0), (3, .int (-9 : Int32)), (4, .int (0 : Int32))]) [2, 3, 4, 1, 0] rfl ?_
  exact LX7_coloursInAll_6 C (x1 := x1) (sfl := sfl) (sco := sco) (swt := swt) (ssz := ssz) (wh := wh) (lf := lf) (co := co) (wi := wi) (ho := ho) (tubs := tubs) (pegs := pegs) (pwi := pwi) (flags := flags) (pco := pco) (pcl := pcl) (phr := phr) (pho := pho)  FU (-9 : Int32) (0 : Int32) h
