/-! ===== FlagWash$Sightings.coloursInNone ===== -/
def fX7_coloursInNone_42 (rec6 : Int32 → Int32 → Option (Int32)) (x1 : Int32) (x3 : Int32) (x4 : Int32) (sfl : (Nat → Int32)) (sco : (Nat → Int32)) (swt : (Nat → Int32)) (ssz : Int32) (co : (Nat → Int32)) (flags : Int32) : Option (Int32) :=
 (rec6 x3 (x4 + (1 : Int32)))
def fX7_coloursInNone_36 (rec6 : Int32 → Int32 → Option (Int32)) (x1 : Int32) (x4 : Int32) (y0 : Int32) (sfl : (Nat → Int32)) (sco : (Nat → Int32)) (swt : (Nat → Int32)) (ssz : Int32) (co : (Nat → Int32)) (flags : Int32) : Option (Int32) :=
 (fX7_coloursInNone_42 rec6 x1 (y0 &&& (x4 ^^^ (-1 : Int32))) x4 sfl sco swt ssz co flags)
def gX7_coloursInNone_6 (rec6 : Int32 → Int32 → Option (Int32)) (x1 : Int32) (x3 : Int32) (x4 : Int32) (sfl : (Nat → Int32)) (sco : (Nat → Int32)) (swt : (Nat → Int32)) (ssz : Int32) (co : (Nat → Int32)) (flags : Int32) : Option (Int32) :=
 (if (15 : Int32) < x4 then (some x3)
 else ((fX7_fitsAll x1 x4 sfl sco swt ssz co flags).bind fun u2 => (if u2 = true then (if x3 = (-9 : Int32) then (fX7_coloursInNone_36 rec6 x1 x4 (15 : Int32) sfl sco swt ssz co flags)
 else (fX7_coloursInNone_36 rec6 x1 x4 x3 sfl sco swt ssz co flags))
 else (fX7_coloursInNone_42 rec6 x1 x3 x4 sfl sco swt ssz co flags))))
def fX7_coloursInNone_6  (x1 : Int32) (sfl : (Nat → Int32)) (sco : (Nat → Int32)) (swt : (Nat → Int32)) (ssz : Int32) (co : (Nat → Int32)) (flags : Int32) : Nat → Int32 → Int32 → Option (Int32)
  | 0 => fun _ _ => none
  | n + 1 => fun x3 x4 => gX7_coloursInNone_6 (fX7_coloursInNone_6  x1 sfl sco swt ssz co flags n) x1 x3 x4 sfl sco swt ssz co flags
def fX7_coloursInNone  (x1 : Int32) (sfl : (Nat → Int32)) (sco : (Nat → Int32)) (swt : (Nat → Int32)) (ssz : Int32) (co : (Nat → Int32)) (flags : Int32) : Option (Int32) :=
 (fX7_coloursInNone_6  x1 sfl sco swt ssz co flags FU (-9 : Int32) (0 : Int32))
theorem hd_X7_coloursInNone : yX7_coloursInNone.cls ≠ "java/lang/invoke/MethodHandle" ∧ yX7_coloursInNone.cls ≠ "java/lang/invoke/VarHandle" ∧ (parseMethodDescriptor yX7_coloursInNone.desc).map (fun d => d.parameters.length) = some 2 := by decide +kernel
set_option maxHeartbeats 4000000 in
set_option maxRecDepth 100000 in
theorem LX7_coloursInNone_42 {p : Program} {l : Launch} {e : Env} {s : State} {m : MethodId} {args : Array Value} {below : List Frame} {meth : Method} {c : Code} {D : va_G} {cyI cyZ cyW : ClassId} {zW zO : Nat} {A : Nat → Prop} (C : Cx p s m args meth c cX7_coloursInNone RX7 "coloursInNone" wsX7_coloursInNone (some .int) 5 D (tyA cyI cyZ cyW) zW zO A) {s0 : Nat} {s1 : Nat} {s2 : Nat} {s3 : Nat} {w0 : Nat} {w1 : Nat} {w2 : Nat} {w3 : Nat} {p0 : Nat} {p1 : Nat} {p2 : Nat} {p3 : Nat} {p4 : Nat} {sfl : (Nat → Int32)} {sco : (Nat → Int32)} {swt : (Nat → Int32)} {ssz : Int32} {wh : (Nat → Int32)} {lf : (Nat → Int32)} {co : (Nat → Int32)} {wi : Int32} {ho : Int32} {tubs : Int32} {pegs : Int32} {pwi : Int32} {flags : Int32} {pco : (Nat → Int32)} {pcl : (Nat → Int32)} {phr : (Nat → Int32)} {pho : (Nat → Int32)} {x1 : Int32} {x3 : Int32} {x4 : Int32} {rec6 : Int32 → Int32 → Option (Int32)} {res : Int32} (hrec6 : ∀ (x3 : Int32) (x4 : Int32), rec6 x3 x4 = some res → Mx p l e ({ frames := 2, cells := 0, slots := 0, locals := 48 } : Room) s m args below meth c (MQ below (QI D (tyA cyI cyZ cyW) A (wSWP cyI cyZ cyW s0 s1 s2 s3 w0 w1 w2 w3 p0 p1 p2 p3 p4 sfl sco swt ssz wh lf co wi ho tubs pegs pwi flags pco pcl phr pho) res) args s 0 0 A) 5 D A 0 0 (wSWP cyI cyZ cyW s0 s1 s2 s3 w0 w1 w2 w3 p0 p1 p2 p3 p4 sfl sco swt ssz wh lf co wi ho tubs pegs pwi flags pco pcl phr pho) 6 [(0, .ref s0), (1, .int x1), (2, .ref w0), (3, .int x3), (4, .int x4)] []) (h : fX7_coloursInNone_42 rec6 x1 x3 x4 sfl sco swt ssz co flags = some res) : Mx p l e ({ frames := 2, cells := 0, slots := 0, locals := 48 } : Room) s m args below meth c (MQ below (QI D (tyA cyI cyZ cyW) A (wSWP cyI cyZ cyW s0 s1 s2 s3 w0 w1 w2 w3 p0 p1 p2 p3 p4 sfl sco swt ssz wh lf co wi ho tubs pegs pwi flags pco pcl phr pho) res) args s 0 0 A) 5 D A 0 0 (wSWP cyI cyZ cyW s0 s1 s2 s3 w0 w1 w2 w3 p0 p1 p2 p3 p4 sfl sco swt ssz wh lf co wi ho tubs pegs pwi flags pco pcl phr pho) 42 [(0, .ref s0), (1, .int x1), (2, .ref w0), (3, .int x3), (4, .int x4)] [] := by
  unfold fX7_coloursInNone_42 at h
  refine r_iinc (v := 1) (lv' := [(4, .int (x4 + (1 : Int32))), (0, .ref s0), (1, .int x1), (2, .ref w0), (3, .int x3)]) C dX7_coloursInNone_42 4 rfl ic_1 (by decide) rfl ?_
  refine r_goto (tgt := 6) C dX7_coloursInNone_45 (by decide) ?_
  refine r_lv (lv' := [(0, .ref s0), (1, .int x1), (2, .ref w0), (3, .int x3), (4, .int (x4 + (1 : Int32)))]) [1, 2, 3, 4, 0] rfl ?_
  exact hrec6 x3 (x4 + (1 : Int32)) h
set_option maxHeartbeats 4000000 in
set_option maxRecDepth 100000 in
theorem LX7_coloursInNone_36 {p : Program} {l : Launch} {e : Env} {s : State} {m : MethodId} {args : Array Value} {below : List Frame} {meth : Method} {c : Code} {D : va_G} {cyI cyZ cyW : ClassId} {zW zO : Nat} {A : Nat → Prop} (C : Cx p s m args meth c cX7_coloursInNone RX7 "coloursInNone" wsX7_coloursInNone (some .int) 5 D (tyA cyI cyZ cyW) zW zO A) {s0 : Nat} {s1 : Nat} {s2 : Nat} {s3 : Nat} {w0 : Nat} {w1 : Nat} {w2 : Nat} {w3 : Nat} {p0 : Nat} {p1 : Nat} {p2 : Nat} {p3 : Nat} {p4 : Nat} {sfl : (Nat → Int32)} {sco : (Nat → Int32)} {swt : (Nat → Int32)} {ssz : Int32} {wh : (Nat → Int32)} {lf : (Nat → Int32)} {co : (Nat → Int32)} {wi : Int32} {ho : Int32} {tubs : Int32} {pegs : Int32} {pwi : Int32} {flags : Int32} {pco : (Nat → Int32)} {pcl : (Nat → Int32)} {phr : (Nat → Int32)} {pho : (Nat → Int32)} {x1 : Int32} {x4 : Int32} {y0 : Int32} {rec6 : Int32 → Int32 → Option (Int32)} {res : Int32} (hrec6 : ∀ (x3 : Int32) (x4 : Int32), rec6 x3 x4 = some res → Mx p l e ({ frames := 2, cells := 0, slots := 0, locals := 48 } : Room) s m args below meth c (MQ below (QI D (tyA cyI cyZ cyW) A (wSWP cyI cyZ cyW s0 s1 s2 s3 w0 w1 w2 w3 p0 p1 p2 p3 p4 sfl sco swt ssz wh lf co wi ho tubs pegs pwi flags pco pcl phr pho) res) args s 0 0 A) 5 D A 0 0 (wSWP cyI cyZ cyW s0 s1 s2 s3 w0 w1 w2 w3 p0 p1 p2 p3 p4 sfl sco swt ssz wh lf co wi ho tubs pegs pwi flags pco pcl phr pho) 6 [(0, .ref s0), (1, .int x1), (2, .ref w0), (3, .int x3), (4, .int x4)] []) (h : fX7_coloursInNone_36 rec6 x1 x4 y0 sfl sco swt ssz co flags = some res) : Mx p l e ({ frames := 2, cells := 0, slots := 0, locals := 48 } : Room) s m args below meth c (MQ below (QI D (tyA cyI cyZ cyW) A (wSWP cyI cyZ cyW s0 s1 s2 s3 w0 w1 w2 w3 p0 p1 p2 p3 p4 sfl sco swt ssz wh lf co wi ho tubs pegs pwi flags pco pcl phr pho) res) args s 0 0 A) 5 D A 0 0 (wSWP cyI cyZ cyW s0 s1 s2 s3 w0 w1 w2 w3 p0 p1 p2 p3 p4 sfl sco swt ssz wh lf co wi ho tubs pegs pwi flags pco pcl phr pho) 36 [(0, .ref s0), (1, .int x1), (2, .ref w0), (4, .int x4)] [.int y0] := by
  unfold fX7_coloursInNone_36 at h
  refine r_iload C dX7_coloursInNone_36 3 rfl ?_
  refine r_iconst (v := -1) C dX7_coloursInNone_38 ic_m1 ?_
  refine r_ixor C dX7_coloursInNone_39 ?_
  refine r_iand C dX7_coloursInNone_40 ?_
  refine r_istore_n (lv' := [(3, .int (y0 &&& (x4 ^^^ (-1 : Int32)))), (0, .ref s0), (1, .int x1), (2, .ref w0), (4, .int x4)]) C dX7_coloursInNone_41 rfl (by decide) rfl ?_
  refine r_lv (lv' := [(0, .ref s0), (1, .int x1), (2, .ref w0), (3, .int (y0 &&& (x4 ^^^ (-1 : Int32)))), (4, .int x4)]) [1, 2, 3, 0, 4] rfl ?_
  exact LX7_coloursInNone_42 C (x1 := x1) (x3 := (y0 &&& (x4 ^^^ (-1 : Int32)))) (x4 := x4) (sfl := sfl) (sco := sco) (swt := swt) (ssz := ssz) (wh := wh) (lf := lf) (co := co) (wi := wi) (ho := ho) (tubs := tubs) (pegs := pegs) (pwi := pwi) (flags := flags) (pco := pco) (pcl := pcl) (phr := phr) (pho := pho) hrec6 h
set_option maxHeartbeats 4000000 in
set_option maxRecDepth 100000 in
theorem LGX7_coloursInNone_6 {p : Program} {l : Launch} {e : Env} {s : State} {m : MethodId} {args : Array Value} {below : List Frame} {meth : Method} {c : Code} {D : va_G} {cyI cyZ cyW : ClassId} {zW zO : Nat} {A : Nat → Prop} (C : Cx p s m args meth c cX7_coloursInNone RX7 "coloursInNone" wsX7_coloursInNone (some .int) 5 D (tyA cyI cyZ cyW) zW zO A) {s0 : Nat} {s1 : Nat} {s2 : Nat} {s3 : Nat} {w0 : Nat} {w1 : Nat} {w2 : Nat} {w3 : Nat} {p0 : Nat} {p1 : Nat} {p2 : Nat} {p3 : Nat} {p4 : Nat} {sfl : (Nat → Int32)} {sco : (Nat → Int32)} {swt : (Nat → Int32)} {ssz : Int32} {wh : (Nat → Int32)} {lf : (Nat → Int32)} {co : (Nat → Int32)} {wi : Int32} {ho : Int32} {tubs : Int32} {pegs : Int32} {pwi : Int32} {flags : Int32} {pco : (Nat → Int32)} {pcl : (Nat → Int32)} {phr : (Nat → Int32)} {pho : (Nat → Int32)} {x1 : Int32} {x3 : Int32} {x4 : Int32} {rec6 : Int32 → Int32 → Option (Int32)} {res : Int32} (hrec6 : ∀ (x3 : Int32) (x4 : Int32), rec6 x3 x4 = some res → Mx p l e ({ frames := 2, cells := 0, slots := 0, locals := 48 } : Room) s m args below meth c (MQ below (QI D (tyA cyI cyZ cyW) A (wSWP cyI cyZ cyW s0 s1 s2 s3 w0 w1 w2 w3 p0 p1 p2 p3 p4 sfl sco swt ssz wh lf co wi ho tubs pegs pwi flags pco pcl phr pho) res) args s 0 0 A) 5 D A 0 0 (wSWP cyI cyZ cyW s0 s1 s2 s3 w0 w1 w2 w3 p0 p1 p2 p3 p4 sfl sco swt ssz wh lf co wi ho tubs pegs pwi flags pco pcl phr pho) 6 [(0, .ref s0), (1, .int x1), (2, .ref w0), (3, .int x3), (4, .int x4)] []) (h : gX7_coloursInNone_6 rec6 x1 x3 x4 sfl sco swt ssz co flags = some res) : Mx p l e ({ frames := 2, cells := 0, slots := 0, locals := 48 } : Room) s m args below meth c (MQ below (QI D (tyA cyI cyZ cyW) A (wSWP cyI cyZ cyW s0 s1 s2 s3 w0 w1 w2 w3 p0 p1 p2 p3 p4 sfl sco swt ssz wh lf co wi ho tubs pegs pwi flags pco pcl phr pho) res) args s 0 0 A) 5 D A 0 0 (wSWP cyI cyZ cyW s0 s1 s2 s3 w0 w1 w2 w3 p0 p1 p2 p3 p4 sfl sco swt ssz wh lf co wi ho tubs pegs pwi flags pco pcl phr pho) 6 [(0, .ref s0), (1, .int x1), (2, .ref w0), (3, .int x3), (4, .int x4)] [] := by
  unfold gX7_coloursInNone_6 at h
  refine r_iload C dX7_coloursInNone_6 4 rfl ?_
  refine r_bipush (v := 15) C dX7_coloursInNone_8 bp_15 ?_
  refine r_icmp_gt (tgt := 48) C dX7_coloursInNone_10 (by decide) (fun c1 => ?_) (fun c1 => ?_)
  · replace h := ob_t h c1
    refine r_iload_n C dX7_coloursInNone_48 3 rfl rfl ?_
    have h9 := Option.some.inj h
    subst h9
    exact r_iret C rfl dX7_coloursInNone_49
  · replace h := ob_f h c1
    refine r_aload_n C dX7_coloursInNone_13 0 rfl rfl ?_
    refine r_iload_n C dX7_coloursInNone_14 1 rfl rfl ?_
    refine r_iload C dX7_coloursInNone_15 4 rfl ?_
    refine r_aload_n C dX7_coloursInNone_17 2 rfl rfl ?_
    obtain ⟨u2, hu2, h⟩ := ob_bind h
    refine r_readVI (q0 := 0) (As := [.int x1, .int x4, .ref w0]) (rest := []) C (kX7_fitsAll (s0 := s0) (s1 := s1) (s2 := s2) (s3 := s3) (w0 := w0) (w1 := w1) (w2 := w2) (w3 := w3) (p0 := p0) (p1 := p1) (p2 := p2) (p3 := p3) (p4 := p4) (sfl := sfl) (sco := sco) (swt := swt) (ssz := ssz) (wh := wh) (lf := lf) (co := co) (wi := wi) (ho := ho) (tubs := tubs) (pegs := pegs) (pwi := pwi) (flags := flags) (pco := pco) (pcl := pcl) (phr := phr) (pho := pho) (x1 := x1) (x2 := x4) hu2) gX7_coloursInNone_X7_fitsAll rfl rfl rfl ⟨rfl, hd_X7_fitsAll⟩ ⟨by decide, by decide⟩ rfl rfl rfl rfl [0, 1, 2, 3, 4, 5, 6, 7, 8, 9, 10, 11, 12] (by decide) in_52 rfl (Nat.le_of_ble_eq_true rfl) dX7_coloursInNone_18 ⟨Nat.zero_le _, Nat.zero_le _⟩ ?_
    refine r_ifb_eq (tgt := 42) C dX7_coloursInNone_21 (by decide) (fun c3 => ?_) (fun c3 => ?_)
    · replace h := ob_bf h c3
      refine r_lv (lv' := [(0, .ref s0), (1, .int x1), (2, .ref w0), (3, .int x3), (4, .int x4)]) [0, 1, 2, 3, 4] rfl ?_
      exact LX7_coloursInNone_42 C (x1 := x1) (x3 := x3) (x4 := x4) (sfl := sfl) (sco := sco) (swt := swt) (ssz := ssz) (wh := wh) (lf := lf) (co := co) (wi := wi) (ho := ho) (tubs := tubs) (pegs := pegs) (pwi := pwi) (flags := flags) (pco := pco) (pcl := pcl) (phr := phr) (pho := pho) hrec6 h
    · replace h := ob_t h c3
      refine r_iload_n C dX7_coloursInNone_24 3 rfl rfl ?_
      refine r_bipush (v := -9) C dX7_coloursInNone_25 bp_m9 ?_
      refine r_icmp_ne (tgt := 35) C dX7_coloursInNone_27 (by decide) (fun c4 => ?_) (fun c4 => ?_)
      · replace h := ob_f h c4
        refine r_iload_n C dX7_coloursInNone_35 3 rfl rfl ?_
        refine r_lv (lv' := [(0, .ref s0), (1, .int x1), (2, .ref w0), (4, .int x4)]) [0, 1, 2, 4] rfl ?_
        exact LX7_coloursInNone_36 C (x1 := x1) (x4 := x4) (y0 := x3) (sfl := sfl) (sco := sco) (swt := swt) (ssz := ssz) (wh := wh) (lf := lf) (co := co) (wi := wi) (ho := ho) (tubs := tubs) (pegs := pegs) (pwi := pwi) (flags := flags) (pco := pco) (pcl := pcl) (phr := phr) (pho := pho) hrec6 h
      · replace h := ob_t h c4
        refine r_bipush (v := 15) C dX7_coloursInNone_30 bp_15 ?_
        refine r_goto (tgt := 36) C dX7_coloursInNone_32 (by decide) ?_
        refine r_lv (lv' := [(0, .ref s0), (1, .int x1), (2, .ref w0), (4, .int x4)]) [0, 1, 2, 4] rfl ?_
        exact LX7_coloursInNone_36 C (x1 := x1) (x4 := x4) (y0 := (15 : Int32)) (sfl := sfl) (sco := sco) (swt := swt) (ssz := ssz) (wh := wh) (lf := lf) (co := co) (wi := wi) (ho := ho) (tubs := tubs) (pegs := pegs) (pwi := pwi) (flags := flags) (pco := pco) (pcl := pcl) (phr := phr) (pho := pho) hrec6 h
set_option maxHeartbeats 4000000 in
set_option maxRecDepth 100000 in
theorem LX7_coloursInNone_6 {p : Program} {l : Launch} {e : Env} {s : State} {m : MethodId} {args : Array Value} {below : List Frame} {meth : Method} {c : Code} {D : va_G} {cyI cyZ cyW : ClassId} {zW zO : Nat} {A : Nat → Prop} (C : Cx p s m args meth c cX7_coloursInNone RX7 "coloursInNone" wsX7_coloursInNone (some .int) 5 D (tyA cyI cyZ cyW) zW zO A) {s0 : Nat} {s1 : Nat} {s2 : Nat} {s3 : Nat} {w0 : Nat} {w1 : Nat} {w2 : Nat} {w3 : Nat} {p0 : Nat} {p1 : Nat} {p2 : Nat} {p3 : Nat} {p4 : Nat} {x1 : Int32} {sfl : (Nat → Int32)} {sco : (Nat → Int32)} {swt : (Nat → Int32)} {ssz : Int32} {wh : (Nat → Int32)} {lf : (Nat → Int32)} {co : (Nat → Int32)} {wi : Int32} {ho : Int32} {tubs : Int32} {pegs : Int32} {pwi : Int32} {flags : Int32} {pco : (Nat → Int32)} {pcl : (Nat → Int32)} {phr : (Nat → Int32)} {pho : (Nat → Int32)}  {res : Int32}  : ∀ (n : Nat) (x3 : Int32) (x4 : Int32), fX7_coloursInNone_6  x1 sfl sco swt ssz co flags n x3 x4 = some res → Mx p l e ({ frames := 2, cells := 0, slots := 0, locals := 48 } : Room) s m args below meth c (MQ below (QI D (tyA cyI cyZ cyW) A (wSWP cyI cyZ cyW s0 s1 s2 s3 w0 w1 w2 w3 p0 p1 p2 p3 p4 sfl sco swt ssz wh lf co wi ho tubs pegs pwi flags pco pcl phr pho) res) args s 0 0 A) 5 D A 0 0 (wSWP cyI cyZ cyW s0 s1 s2 s3 w0 w1 w2 w3 p0 p1 p2 p3 p4 sfl sco swt ssz wh lf co wi ho tubs pegs pwi flags pco pcl phr pho) 6 [(0, .ref s0), (1, .int x1), (2, .ref w0), (3, .int x3), (4, .int x4)] [] := by
  intro n
  induction n with
  | zero => intro x3 x4 h; cases h
  | succ n ih => intro x3 x4 h; exact LGX7_coloursInNone_6 C ih h
set_option maxHeartbeats 4000000 in
set_option maxRecDepth 100000 in
theorem kX7_coloursInNone {l : Launch} {D : va_G} {cyI cyZ cyW : ClassId} {zW zO : Nat} {s0 : Nat} {s1 : Nat} {s2 : Nat} {s3 : Nat} {w0 : Nat} {w1 : Nat} {w2 : Nat} {w3 : Nat} {p0 : Nat} {p1 : Nat} {p2 : Nat} {p3 : Nat} {p4 : Nat} {sfl : (Nat → Int32)} {sco : (Nat → Int32)} {swt : (Nat → Int32)} {ssz : Int32} {wh : (Nat → Int32)} {lf : (Nat → Int32)} {co : (Nat → Int32)} {wi : Int32} {ho : Int32} {tubs : Int32} {pegs : Int32} {pwi : Int32} {flags : Int32} {pco : (Nat → Int32)} {pcl : (Nat → Int32)} {phr : (Nat → Int32)} {pho : (Nat → Int32)} {x1 : Int32} {res : Int32} (h : fX7_coloursInNone x1 sfl sco swt ssz co flags = some res) : KI l yX7_coloursInNone wsX7_coloursInNone ({ frames := 2, cells := 0, slots := 0, locals := 48 } : Room) D (tyA cyI cyZ cyW) zW zO [.ref s0, .int x1, .ref w0] (wSWP cyI cyZ cyW s0 s1 s2 s3 w0 w1 w2 w3 p0 p1 p2 p3 p4 sfl sco swt ssz wh lf co wi ho tubs pegs pwi flags pco pcl phr pho) (wSWP cyI cyZ cyW s0 s1 s2 s3 w0 w1 w2 w3 p0 p1 p2 p3 p4 sfl sco swt ssz wh lf co wi ho tubs pegs pwi flags pco pcl phr pho) res := by
  refine enterI (cc := cX7_coloursInNone) (nL := 5) (ret := (some .int)) (by decide) rfl (Nat.le_of_ble_eq_true rfl) (fun p e s m below meth c A C => ?_)
  refine r_lv (lv' := [(0, .ref s0), (1, .int x1), (2, .ref w0)]) [0, 1, 2] rfl ?_
  unfold fX7_coloursInNone at h
  refine r_bipush (v := -9) C dX7_coloursInNone_0 bp_m9 ?_
  refine r_istore_n (lv' := [(3, .int (-9 : Int32)), (0, .ref s0), (1, .int x1), (2, .ref w0)]) C dX7_coloursInNone_2 rfl (by decide) rfl ?_
  refine r_iconst (v := 0) C dX7_coloursInNone_3 ic_0 ?_
  refine r_istore (lv' := [(4, .int (0 : Int32)), (3, .int (-9 : Int32)), (0, .ref s0), (1, .int x1), (2, .ref w0)]) C dX7_coloursInNone_4 (by decide) rfl ?_
  refine r_lv (lv' := [(0, .ref s0), (1, .int x1), (2, .ref w0), (3, .int (-9 : Int32)), (4, .int (0 : Int32))]) [2, 3, 4, 1, 0] rfl ?_
  exact LX7_coloursInNone_6 C (x1 := x1) (sfl := sfl) (sco := sco) (swt := swt) (ssz := ssz) (wh := wh) (lf := lf) (co := co) (wi := wi) (ho := ho) (tubs := tubs) (pegs := pegs) (pwi := pwi) (flags := flags) (pco := pco) (pcl := pcl) (phr := phr) (pho := pho)  FU (-9 : Int32) (0 : Int32) h
