/-! ===== FlagWash$Forecast.bestToSend ===== -/
def fX2_bestToSend_114 (rec20 : Int32 → Int32 → Int32 → (Nat → Int32) → (Nat → Int32) → (Nat → Int32) → Int32 → Int32 → Option (Int32 × (Nat → Int32) × (Nat → Int32) × (Nat → Int32) × Int32 × Int32)) (x2 : Int32) (x3 : Int32) (x4 : Int32) (x5 : Int32) (x6 : Int32) (wh : (Nat → Int32)) (lf : (Nat → Int32)) (co : (Nat → Int32)) (wi : Int32) (ho : Int32) (owh : (Nat → Int32)) (olf : (Nat → Int32)) (oco : (Nat → Int32)) (owi : Int32) (oho : Int32) (pegs : Int32) (flags : Int32) (pcl : (Nat → Int32)) (phr : (Nat → Int32)) (pho : (Nat → Int32)) : Option (Int32 × (Nat → Int32) × (Nat → Int32) × (Nat → Int32) × Int32 × Int32) :=
 (rec20 x4 x5 (x6 + (1 : Int32)) wh lf co wi ho)
def fX2_bestToSend_106 (rec20 : Int32 → Int32 → Int32 → (Nat → Int32) → (Nat → Int32) → (Nat → Int32) → Int32 → Int32 → Option (Int32 × (Nat → Int32) × (Nat → Int32) × (Nat → Int32) × Int32 × Int32)) (x2 : Int32) (x3 : Int32) (x6 : Int32) (x8 : Int32) (wh : (Nat → Int32)) (lf : (Nat → Int32)) (co : (Nat → Int32)) (wi : Int32) (ho : Int32) (owh : (Nat → Int32)) (olf : (Nat → Int32)) (oco : (Nat → Int32)) (owi : Int32) (oho : Int32) (pegs : Int32) (flags : Int32) (pcl : (Nat → Int32)) (phr : (Nat → Int32)) (pho : (Nat → Int32)) : Option (Int32 × (Nat → Int32) × (Nat → Int32) × (Nat → Int32) × Int32 × Int32) :=
 (fX2_bestToSend_114 rec20 x2 x3 x6 x8 x6 wh lf co wi ho owh olf oco owi oho pegs flags pcl phr pho)
def fX2_bestToSend_73 (rec20 : Int32 → Int32 → Int32 → (Nat → Int32) → (Nat → Int32) → (Nat → Int32) → Int32 → Int32 → Option (Int32 × (Nat → Int32) × (Nat → Int32) × (Nat → Int32) × Int32 × Int32)) (x2 : Int32) (x3 : Int32) (x4 : Int32) (x5 : Int32) (x6 : Int32) (y0 : Int32) (wh : (Nat → Int32)) (lf : (Nat → Int32)) (co : (Nat → Int32)) (wi : Int32) (ho : Int32) (owh : (Nat → Int32)) (olf : (Nat → Int32)) (oco : (Nat → Int32)) (owi : Int32) (oho : Int32) (pegs : Int32) (flags : Int32) (pcl : (Nat → Int32)) (phr : (Nat → Int32)) (pho : (Nat → Int32)) : Option (Int32 × (Nat → Int32) × (Nat → Int32) × (Nat → Int32) × Int32 × Int32) :=
 (if x4 = (-9 : Int32) then (fX2_bestToSend_106 rec20 x2 x3 x6 y0 wh lf co wi ho owh olf oco owi oho pegs flags pcl phr pho)
 else (if x5 < y0 then (fX2_bestToSend_106 rec20 x2 x3 x6 y0 wh lf co wi ho owh olf oco owi oho pegs flags pcl phr pho)
 else (if y0 = x5 then ((fX9_isFewer x6 x4).bind fun u13 => (if u13 = true then (fX2_bestToSend_106 rec20 x2 x3 x6 y0 wh lf co wi ho owh olf oco owi oho pegs flags pcl phr pho)
 else (fX2_bestToSend_114 rec20 x2 x3 x4 x5 x6 wh lf co wi ho owh olf oco owi oho pegs flags pcl phr pho)))
 else (fX2_bestToSend_114 rec20 x2 x3 x4 x5 x6 wh lf co wi ho owh olf oco owi oho pegs flags pcl phr pho))))
def gX2_bestToSend_20 (rec20 : Int32 → Int32 → Int32 → (Nat → Int32) → (Nat → Int32) → (Nat → Int32) → Int32 → Int32 → Option (Int32 × (Nat → Int32) × (Nat → Int32) × (Nat → Int32) × Int32 × Int32)) (x2 : Int32) (x3 : Int32) (x4 : Int32) (x5 : Int32) (x6 : Int32) (wh : (Nat → Int32)) (lf : (Nat → Int32)) (co : (Nat → Int32)) (wi : Int32) (ho : Int32) (owh : (Nat → Int32)) (olf : (Nat → Int32)) (oco : (Nat → Int32)) (owi : Int32) (oho : Int32) (pegs : Int32) (flags : Int32) (pcl : (Nat → Int32)) (phr : (Nat → Int32)) (pho : (Nat → Int32)) : Option (Int32 × (Nat → Int32) × (Nat → Int32) × (Nat → Int32) × Int32 × Int32) :=
 (if (31 : Int32) < x6 then (some (x4, wh, lf, co, wi, ho))
 else ((fX9_isWithin x6 x2).bind fun u4 => (if u4 = true then ((fJ6_bitCount_0f7a4 x6).bind fun u6 => (if u6 ≤ x3 then ((fX2_hoursToFight x6 (31 : Int32) wh lf co wi ho owh olf oco owi oho pegs flags pcl phr pho).bind fun u8 => (if u8.1 = (-9 : Int32) then (fX2_bestToSend_73 rec20 x2 x3 x4 x5 x6 (41 : Int32) u8.2.1 u8.2.2.1 u8.2.2.2.1 u8.2.2.2.2.1 u8.2.2.2.2.2 owh olf oco owi oho pegs flags pcl phr pho)
 else (fX2_bestToSend_73 rec20 x2 x3 x4 x5 x6 u8.1 u8.2.1 u8.2.2.1 u8.2.2.2.1 u8.2.2.2.2.1 u8.2.2.2.2.2 owh olf oco owi oho pegs flags pcl phr pho)))
 else (fX2_bestToSend_114 rec20 x2 x3 x4 x5 x6 wh lf co wi ho owh olf oco owi oho pegs flags pcl phr pho)))
 else (fX2_bestToSend_114 rec20 x2 x3 x4 x5 x6 wh lf co wi ho owh olf oco owi oho pegs flags pcl phr pho))))
def fX2_bestToSend_20  (x2 : Int32) (x3 : Int32) (owh : (Nat → Int32)) (olf : (Nat → Int32)) (oco : (Nat → Int32)) (owi : Int32) (oho : Int32) (pegs : Int32) (flags : Int32) (pcl : (Nat → Int32)) (phr : (Nat → Int32)) (pho : (Nat → Int32)) : Nat → Int32 → Int32 → Int32 → (Nat → Int32) → (Nat → Int32) → (Nat → Int32) → Int32 → Int32 → Option (Int32 × (Nat → Int32) × (Nat → Int32) × (Nat → Int32) × Int32 × Int32)
  | 0 => fun _ _ _ _ _ _ _ _ => none
  | n + 1 => fun x4 x5 x6 wh lf co wi ho => gX2_bestToSend_20 (fX2_bestToSend_20  x2 x3 owh olf oco owi oho pegs flags pcl phr pho n) x2 x3 x4 x5 x6 wh lf co wi ho owh olf oco owi oho pegs flags pcl phr pho
def fX2_bestToSend  (wh : (Nat → Int32)) (lf : (Nat → Int32)) (co : (Nat → Int32)) (wi : Int32) (ho : Int32) (owh : (Nat → Int32)) (olf : (Nat → Int32)) (oco : (Nat → Int32)) (owi : Int32) (oho : Int32) (tubs : Int32) (pegs : Int32) (flags : Int32) (pcl : (Nat → Int32)) (phr : (Nat → Int32)) (pho : (Nat → Int32)) : Option (Int32 × (Nat → Int32) × (Nat → Int32) × (Nat → Int32) × Int32 × Int32) :=
 ((fX8_homeBits owh flags).bind fun u1 => ((fX8_freeTubs owh tubs flags).bind fun u2 => (fX2_bestToSend_20  u1 u2 owh olf oco owi oho pegs flags pcl phr pho FU (-9 : Int32) (0 : Int32) (0 : Int32) wh lf co wi ho)))
theorem mX2_bestToSend_26 : Cond.initialized RX9 ∈ wsX2_bestToSend := List.mem_of_getElem? (i := 26) rfl
theorem mX2_bestToSend_25 : Cond.static yX9_isWithin ∈ wsX2_bestToSend := List.mem_of_getElem? (i := 25) rfl
theorem mX2_bestToSend_99 : Cond.static yX9_isFewer ∈ wsX2_bestToSend := List.mem_of_getElem? (i := 99) rfl
theorem hd_X2_bestToSend : yX2_bestToSend.cls ≠ "java/lang/invoke/MethodHandle" ∧ yX2_bestToSend.cls ≠ "java/lang/invoke/VarHandle" ∧ (parseMethodDescriptor yX2_bestToSend.desc).map (fun d => d.parameters.length) = some 1 := by decide +kernel
set_option maxHeartbeats 4000000 in
set_option maxRecDepth 100000 in
theorem LX2_bestToSend_114 {p : Program} {l : Launch} {e : Env} {s : State} {m : MethodId} {args : Array Value} {below : List Frame} {meth : Method} {c : Code} {D : va_G} {cyI cyZ cyW : ClassId} {zW zO : Nat} {A : Nat → Prop} (C : Cx p s m args meth c cX2_bestToSend RX2 "bestToSend" wsX2_bestToSend (some .int) 9 D (tyA cyI cyZ cyW) zW zO A) {f0 : Nat} {w0 : Nat} {w1 : Nat} {w2 : Nat} {w3 : Nat} {v0 : Nat} {v1 : Nat} {v2 : Nat} {v3 : Nat} {p0 : Nat} {p1 : Nat} {p2 : Nat} {p3 : Nat} {p4 : Nat} {wh : (Nat → Int32)} {lf : (Nat → Int32)} {co : (Nat → Int32)} {wi : Int32} {ho : Int32} {owh : (Nat → Int32)} {olf : (Nat → Int32)} {oco : (Nat → Int32)} {owi : Int32} {oho : Int32} {tubs : Int32} {pegs : Int32} {pwi : Int32} {flags : Int32} {pco : (Nat → Int32)} {pcl : (Nat → Int32)} {phr : (Nat → Int32)} {pho : (Nat → Int32)} {x2 : Int32} {x3 : Int32} {x4 : Int32} {x5 : Int32} {x6 : Int32} {rec20 : Int32 → Int32 → Int32 → (Nat → Int32) → (Nat → Int32) → (Nat → Int32) → Int32 → Int32 → Option (Int32 × (Nat → Int32) × (Nat → Int32) × (Nat → Int32) × Int32 × Int32)} {res : Int32 × (Nat → Int32) × (Nat → Int32) × (Nat → Int32) × Int32 × Int32} (hrec20 : ∀ (x4 : Int32) (x5 : Int32) (x6 : Int32) (wh : (Nat → Int32)) (lf : (Nat → Int32)) (co : (Nat → Int32)) (wi : Int32) (ho : Int32), rec20 x4 x5 x6 wh lf co wi ho = some res → Mx p l e ({ frames := 5, cells := 0, slots := 0, locals := 109 } : Room) s m args below meth c (MQ below (QI D (tyA cyI cyZ cyW) A (wFO cyI cyZ cyW f0 w0 w1 w2 w3 v0 v1 v2 v3 p0 p1 p2 p3 p4 res.2.1 res.2.2.1 res.2.2.2.1 res.2.2.2.2.1 res.2.2.2.2.2 owh olf oco owi oho tubs pegs pwi flags pco pcl phr pho) res.1) args s 0 0 A) 9 D A 0 0 (wFO cyI cyZ cyW f0 w0 w1 w2 w3 v0 v1 v2 v3 p0 p1 p2 p3 p4 wh lf co wi ho owh olf oco owi oho tubs pegs pwi flags pco pcl phr pho) 20 [(0, .ref f0), (1, .ref v0), (2, .int x2), (3, .int x3), (4, .int x4), (5, .int x5), (6, .int x6)] []) (h : fX2_bestToSend_114 rec20 x2 x3 x4 x5 x6 wh lf co wi ho owh olf oco owi oho pegs flags pcl phr pho = some res) : Mx p l e ({ frames := 5, cells := 0, slots := 0, locals := 109 } : Room) s m args below meth c (MQ below (QI D (tyA cyI cyZ cyW) A (wFO cyI cyZ cyW f0 w0 w1 w2 w3 v0 v1 v2 v3 p0 p1 p2 p3 p4 res.2.1 res.2.2.1 res.2.2.2.1 res.2.2.2.2.1 res.2.2.2.2.2 owh olf oco owi oho tubs pegs pwi flags pco pcl phr pho) res.1) args s 0 0 A) 9 D A 0 0 (wFO cyI cyZ cyW f0 w0 w1 w2 w3 v0 v1 v2 v3 p0 p1 p2 p3 p4 wh lf co wi ho owh olf oco owi oho tubs pegs pwi flags pco pcl phr pho) 114 [(0, .ref f0), (1, .ref v0), (2, .int x2), (3, .int x3), (4, .int x4), (5, .int x5), (6, .int x6)] [] := by
  unfold fX2_bestToSend_114 at h
  refine r_iinc (v := 1) (lv' := [(6, .int (x6 + (1 : Int32))), (0, .ref f0), (1, .ref v0), (2, .int x2), (3, .int x3), (4, .int x4), (5, .int x5)]) C dX2_bestToSend_114 6 rfl ic_1 (by decide) rfl ?_
  refine r_goto (tgt := 20) C dX2_bestToSend_117 (by decide) ?_
  refine r_lv (lv' := [(0, .ref f0), (1, .ref v0), (2, .int x2), (3, .int x3), (4, .int x4), (5, .int x5), (6, .int (x6 + (1 : Int32)))]) [1, 2, 3, 4, 5, 6, 0] rfl ?_
  exact hrec20 x4 x5 (x6 + (1 : Int32)) wh lf co wi ho h
set_option maxHeartbeats 4000000 in
set_option maxRecDepth 100000 in
theorem LX2_bestToSend_106 {p : Program} {l : Launch} {e : Env} {s : State} {m : MethodId} {args : Array Value} {below : List Frame} {meth : Method} {c : Code} {D : va_G} {cyI cyZ cyW : ClassId} {zW zO : Nat} {A : Nat → Prop} (C : Cx p s m args meth c cX2_bestToSend RX2 "bestToSend" wsX2_bestToSend (some .int) 9 D (tyA cyI cyZ cyW) zW zO A) {f0 : Nat} {w0 : Nat} {w1 : Nat} {w2 : Nat} {w3 : Nat} {v0 : Nat} {v1 : Nat} {v2 : Nat} {v3 : Nat} {p0 : Nat} {p1 : Nat} {p2 : Nat} {p3 : Nat} {p4 : Nat} {wh : (Nat → Int32)} {lf : (Nat → Int32)} {co : (Nat → Int32)} {wi : Int32} {ho : Int32} {owh : (Nat → Int32)} {olf : (Nat → Int32)} {oco : (Nat → Int32)} {owi : Int32} {oho : Int32} {tubs : Int32} {pegs : Int32} {pwi : Int32} {flags : Int32} {pco : (Nat → Int32)} {pcl : (Nat → Int32)} {phr : (Nat → Int32)} {pho : (Nat → Int32)} {x2 : Int32} {x3 : Int32} {x6 : Int32} {x8 : Int32} {rec20 : Int32 → Int32 → Int32 → (Nat → Int32) → (Nat → Int32) → (Nat → Int32) → Int32 → Int32 → Option (Int32 × (Nat → Int32) × (Nat → Int32) × (Nat → Int32) × Int32 × Int32)} {res : Int32 × (Nat → Int32) × (Nat → Int32) × (Nat → Int32) × Int32 × Int32} (hrec20 : ∀ (x4 : Int32) (x5 : Int32) (x6 : Int32) (wh : (Nat → Int32)) (lf : (Nat → Int32)) (co : (Nat → Int32)) (wi : Int32) (ho : Int32), rec20 x4 x5 x6 wh lf co wi ho = some res → Mx p l e ({ frames := 5, cells := 0, slots := 0, locals := 109 } : Room) s m args below meth c (MQ below (QI D (tyA cyI cyZ cyW) A (wFO cyI cyZ cyW f0 w0 w1 w2 w3 v0 v1 v2 v3 p0 p1 p2 p3 p4 res.2.1 res.2.2.1 res.2.2.2.1 res.2.2.2.2.1 res.2.2.2.2.2 owh olf oco owi oho tubs pegs pwi flags pco pcl phr pho) res.1) args s 0 0 A) 9 D A 0 0 (wFO cyI cyZ cyW f0 w0 w1 w2 w3 v0 v1 v2 v3 p0 p1 p2 p3 p4 wh lf co wi ho owh olf oco owi oho tubs pegs pwi flags pco pcl phr pho) 20 [(0, .ref f0), (1, .ref v0), (2, .int x2), (3, .int x3), (4, .int x4), (5, .int x5), (6, .int x6)] []) (h : fX2_bestToSend_106 rec20 x2 x3 x6 x8 wh lf co wi ho owh olf oco owi oho pegs flags pcl phr pho = some res) : Mx p l e ({ frames := 5, cells := 0, slots := 0, locals := 109 } : Room) s m args below meth c (MQ below (QI D (tyA cyI cyZ cyW) A (wFO cyI cyZ cyW f0 w0 w1 w2 w3 v0 v1 v2 v3 p0 p1 p2 p3 p4 res.2.1 res.2.2.1 res.2.2.2.1 res.2.2.2.2.1 res.2.2.2.2.2 owh olf oco owi oho tubs pegs pwi flags pco pcl phr pho) res.1) args s 0 0 A) 9 D A 0 0 (wFO cyI cyZ cyW f0 w0 w1 w2 w3 v0 v1 v2 v3 p0 p1 p2 p3 p4 wh lf co wi ho owh olf oco owi oho tubs pegs pwi flags pco pcl phr pho) 106 [(0, .ref f0), (1, .ref v0), (2, .int x2), (3, .int x3), (6, .int x6), (8, .int x8)] [] := by
  unfold fX2_bestToSend_106 at h
  refine r_iload C dX2_bestToSend_106 4 rfl ?_
  refine r_istore (lv' := [(4, .int x6), (0, .ref f0), (1, .ref v0), (2, .int x2), (3, .int x3), (6, .int x6), (8, .int x8)]) C dX2_bestToSend_108 (by decide) rfl ?_
  refine r_iload C dX2_bestToSend_110 6 rfl ?_
  refine r_istore (lv' := [(5, .int x8), (4, .int x6), (0, .ref f0), (1, .ref v0), (2, .int x2), (3, .int x3), (6, .int x6), (8, .int x8)]) C dX2_bestToSend_112 (by decide) rfl ?_
  refine r_lv (lv' := [(0, .ref f0), (1, .ref v0), (2, .int x2), (3, .int x3), (4, .int x6), (5, .int x8), (6, .int x6)]) [2, 3, 4, 5, 1, 0, 6] rfl ?_
  exact LX2_bestToSend_114 C (x2 := x2) (x3 := x3) (x4 := x6) (x5 := x8) (x6 := x6) (wh := wh) (lf := lf) (co := co) (wi := wi) (ho := ho) (owh := owh) (olf := olf) (oco := oco) (owi := owi) (oho := oho) (tubs := tubs) (pegs := pegs) (pwi := pwi) (flags := flags) (pco := pco) (pcl := pcl) (phr := phr) (pho := pho) hrec20 h
set_option maxHeartbeats 4000000 in
set_option maxRecDepth 100000 in
theorem LX2_bestToSend_73 {p : Program} {l : Launch} {e : Env} {s : State} {m : MethodId} {args : Array Value} {below : List Frame} {meth : Method} {c : Code} {D : va_G} {cyI cyZ cyW : ClassId} {zW zO : Nat} {A : Nat → Prop} (C : Cx p s m args meth c cX2_bestToSend RX2 "bestToSend" wsX2_bestToSend (some .int) 9 D (tyA cyI cyZ cyW) zW zO A) {f0 : Nat} {w0 : Nat} {w1 : Nat} {w2 : Nat} {w3 : Nat} {v0 : Nat} {v1 : Nat} {v2 : Nat} {v3 : Nat} {p0 : Nat} {p1 : Nat} {p2 : Nat} {p3 : Nat} {p4 : Nat} {wh : (Nat → Int32)} {lf : (Nat → Int32)} {co : (Nat → Int32)} {wi : Int32} {ho : Int32} {owh : (Nat → Int32)} {olf : (Nat → Int32)} {oco : (Nat → Int32)} {owi : Int32} {oho : Int32} {tubs : Int32} {pegs : Int32} {pwi : Int32} {flags : Int32} {pco : (Nat → Int32)} {pcl : (Nat → Int32)} {phr : (Nat → Int32)} {pho : (Nat → Int32)} {x2 : Int32} {x3 : Int32} {x4 : Int32} {x5 : Int32} {x6 : Int32} {y0 : Int32} {rec20 : Int32 → Int32 → Int32 → (Nat → Int32) → (Nat → Int32) → (Nat → Int32) → Int32 → Int32 → Option (Int32 × (Nat → Int32) × (Nat → Int32) × (Nat → Int32) × Int32 × Int32)} {res : Int32 × (Nat → Int32) × (Nat → Int32) × (Nat → Int32) × Int32 × Int32} (hrec20 : ∀ (x4 : Int32) (x5 : Int32) (x6 : Int32) (wh : (Nat → Int32)) (lf : (Nat → Int32)) (co : (Nat → Int32)) (wi : Int32) (ho : Int32), rec20 x4 x5 x6 wh lf co wi ho = some res → Mx p l e ({ frames := 5, cells := 0, slots := 0, locals := 109 } : Room) s m args below meth c (MQ below (QI D (tyA cyI cyZ cyW) A (wFO cyI cyZ cyW f0 w0 w1 w2 w3 v0 v1 v2 v3 p0 p1 p2 p3 p4 res.2.1 res.2.2.1 res.2.2.2.1 res.2.2.2.2.1 res.2.2.2.2.2 owh olf oco owi oho tubs pegs pwi flags pco pcl phr pho) res.1) args s 0 0 A) 9 D A 0 0 (wFO cyI cyZ cyW f0 w0 w1 w2 w3 v0 v1 v2 v3 p0 p1 p2 p3 p4 wh lf co wi ho owh olf oco owi oho tubs pegs pwi flags pco pcl phr pho) 20 [(0, .ref f0), (1, .ref v0), (2, .int x2), (3, .int x3), (4, .int x4), (5, .int x5), (6, .int x6)] []) (h : fX2_bestToSend_73 rec20 x2 x3 x4 x5 x6 y0 wh lf co wi ho owh olf oco owi oho pegs flags pcl phr pho = some res) : Mx p l e ({ frames := 5, cells := 0, slots := 0, locals := 109 } : Room) s m args below meth c (MQ below (QI D (tyA cyI cyZ cyW) A (wFO cyI cyZ cyW f0 w0 w1 w2 w3 v0 v1 v2 v3 p0 p1 p2 p3 p4 res.2.1 res.2.2.1 res.2.2.2.1 res.2.2.2.2.1 res.2.2.2.2.2 owh olf oco owi oho tubs pegs pwi flags pco pcl phr pho) res.1) args s 0 0 A) 9 D A 0 0 (wFO cyI cyZ cyW f0 w0 w1 w2 w3 v0 v1 v2 v3 p0 p1 p2 p3 p4 wh lf co wi ho owh olf oco owi oho tubs pegs pwi flags pco pcl phr pho) 73 [(0, .ref f0), (1, .ref v0), (2, .int x2), (3, .int x3), (4, .int x4), (5, .int x5), (6, .int x6)] [.int y0] := by
  unfold fX2_bestToSend_73 at h
  refine r_istore (lv' := [(8, .int y0), (0, .ref f0), (1, .ref v0), (2, .int x2), (3, .int x3), (4, .int x4), (5, .int x5), (6, .int x6)]) C dX2_bestToSend_73 (by decide) rfl ?_
  refine r_iload C dX2_bestToSend_75 5 rfl ?_
  refine r_bipush (v := -9) C dX2_bestToSend_77 bp_m9 ?_
  refine r_icmp_eq (tgt := 106) C dX2_bestToSend_79 (by decide) (fun c10 => ?_) (fun c10 => ?_)
  · replace h := ob_t h c10
    refine r_lv (lv' := [(0, .ref f0), (1, .ref v0), (2, .int x2), (3, .int x3), (6, .int x6), (8, .int y0)]) [1, 2, 3, 4, 7, 0] rfl ?_
    exact LX2_bestToSend_106 C (x2 := x2) (x3 := x3) (x6 := x6) (x8 := y0) (wh := wh) (lf := lf) (co := co) (wi := wi) (ho := ho) (owh := owh) (olf := olf) (oco := oco) (owi := owi) (oho := oho) (tubs := tubs) (pegs := pegs) (pwi := pwi) (flags := flags) (pco := pco) (pcl := pcl) (phr := phr) (pho := pho) hrec20 h
  · replace h := ob_f h c10
    refine r_iload C dX2_bestToSend_82 0 rfl ?_
    refine r_iload C dX2_bestToSend_84 6 rfl ?_
    refine r_icmp_gt (tgt := 106) C dX2_bestToSend_86 (by decide) (fun c11 => ?_) (fun c11 => ?_)
    · replace h := ob_t h c11
      refine r_lv (lv' := [(0, .ref f0), (1, .ref v0), (2, .int x2), (3, .int x3), (6, .int x6), (8, .int y0)]) [1, 2, 3, 4, 7, 0] rfl ?_
      exact LX2_bestToSend_106 C (x2 := x2) (x3 := x3) (x6 := x6) (x8 := y0) (wh := wh) (lf := lf) (co := co) (wi := wi) (ho := ho) (owh := owh) (olf := olf) (oco := oco) (owi := owi) (oho := oho) (tubs := tubs) (pegs := pegs) (pwi := pwi) (flags := flags) (pco := pco) (pcl := pcl) (phr := phr) (pho := pho) hrec20 h
    · replace h := ob_f h c11
      refine r_iload C dX2_bestToSend_89 0 rfl ?_
      refine r_iload C dX2_bestToSend_91 6 rfl ?_
      refine r_icmp_ne (tgt := 114) C dX2_bestToSend_93 (by decide) (fun c12 => ?_) (fun c12 => ?_)
      · replace h := ob_f h c12
        refine r_lv (lv' := [(0, .ref f0), (1, .ref v0), (2, .int x2), (3, .int x3), (4, .int x4), (5, .int x5), (6, .int x6)]) [1, 2, 3, 4, 5, 6, 7] rfl ?_
        exact LX2_bestToSend_114 C (x2 := x2) (x3 := x3) (x4 := x4) (x5 := x5) (x6 := x6) (wh := wh) (lf := lf) (co := co) (wi := wi) (ho := ho) (owh := owh) (olf := olf) (oco := oco) (owi := owi) (oho := oho) (tubs := tubs) (pegs := pegs) (pwi := pwi) (flags := flags) (pco := pco) (pcl := pcl) (phr := phr) (pho := pho) hrec20 h
      · replace h := ob_t h c12
        refine r_iload C dX2_bestToSend_96 7 rfl ?_
        refine r_iload C dX2_bestToSend_98 5 rfl ?_
        obtain ⟨u13, hu13, h⟩ := ob_bind h
        refine r_readSNI (host := RX9) (As := [.int x6, .int x4]) (rest := []) C (kX9_isFewer   (x0 := x6) (x1 := x4) hu13) gX2_bestToSend_X9_isFewer_n58 rfl rfl rfl (by decide +kernel) mX2_bestToSend_26 mX2_bestToSend_99 hd_X9_isFewer ⟨by decide, by decide⟩ rfl [] (by decide) rfl rfl (Nat.le_of_ble_eq_true rfl) dX2_bestToSend_100 ⟨Nat.zero_le _, Nat.zero_le _⟩ ?_
        refine r_ifb_eq (tgt := 114) C dX2_bestToSend_103 (by decide) (fun c14 => ?_) (fun c14 => ?_)
        · replace h := ob_bf h c14
          refine r_lv (lv' := [(0, .ref f0), (1, .ref v0), (2, .int x2), (3, .int x3), (4, .int x4), (5, .int x5), (6, .int x6)]) [1, 2, 3, 4, 5, 6, 7] rfl ?_
          exact LX2_bestToSend_114 C (x2 := x2) (x3 := x3) (x4 := x4) (x5 := x5) (x6 := x6) (wh := wh) (lf := lf) (co := co) (wi := wi) (ho := ho) (owh := owh) (olf := olf) (oco := oco) (owi := owi) (oho := oho) (tubs := tubs) (pegs := pegs) (pwi := pwi) (flags := flags) (pco := pco) (pcl := pcl) (phr := phr) (pho := pho) hrec20 h
        · replace h := ob_t h c14
          refine r_lv (lv' := [(0, .ref f0), (1, .ref v0), (2, .int x2), (3, .int x3), (6, .int x6), (8, .int y0)]) [1, 2, 3, 4, 7, 0] rfl ?_
          exact LX2_bestToSend_106 C (x2 := x2) (x3 := x3) (x6 := x6) (x8 := y0) (wh := wh) (lf := lf) (co := co) (wi := wi) (ho := ho) (owh := owh) (olf := olf) (oco := oco) (owi := owi) (oho := oho) (tubs := tubs) (pegs := pegs) (pwi := pwi) (flags := flags) (pco := pco) (pcl := pcl) (phr := phr) (pho := pho) hrec20 h
set_option maxHeartbeats 4000000 in
set_option maxRecDepth 100000 in
theorem LGX2_bestToSend_20 {p : Program} {l : Launch} {e : Env} {s : State} {m : MethodId} {args : Array Value} {below : List Frame} {meth : Method} {c : Code} {D : va_G} {cyI cyZ cyW : ClassId} {zW zO : Nat} {A : Nat → Prop} (C : Cx p s m args meth c cX2_bestToSend RX2 "bestToSend" wsX2_bestToSend (some .int) 9 D (tyA cyI cyZ cyW) zW zO A) {f0 : Nat} {w0 : Nat} {w1 : Nat} {w2 : Nat} {w3 : Nat} {v0 : Nat} {v1 : Nat} {v2 : Nat} {v3 : Nat} {p0 : Nat} {p1 : Nat} {p2 : Nat} {p3 : Nat} {p4 : Nat} {wh : (Nat → Int32)} {lf : (Nat → Int32)} {co : (Nat → Int32)} {wi : Int32} {ho : Int32} {owh : (Nat → Int32)} {olf : (Nat → Int32)} {oco : (Nat → Int32)} {owi : Int32} {oho : Int32} {tubs : Int32} {pegs : Int32} {pwi : Int32} {flags : Int32} {pco : (Nat → Int32)} {pcl : (Nat → Int32)} {phr : (Nat → Int32)} {pho : (Nat → Int32)} {x2 : Int32} {x3 : Int32} {x4 : Int32} {x5 : Int32} {x6 : Int32} {rec20 : Int32 → Int32 → Int32 → (Nat → Int32) → (Nat → Int32) → (Nat → Int32) → Int32 → Int32 → Option (Int32 × (Nat → Int32) × (Nat → Int32) × (Nat → Int32) × Int32 × Int32)} {res : Int32 × (Nat → Int32) × (Nat → Int32) × (Nat → Int32) × Int32 × Int32} (hrec20 : ∀ (x4 : Int32) (x5 : Int32) (x6 : Int32) (wh : (Nat → Int32)) (lf : (Nat → Int32)) (co : (Nat → Int32)) (wi : Int32) (ho : Int32), rec20 x4 x5 x6 wh lf co wi ho = some res → Mx p l e ({ frames := 5, cells := 0, slots := 0, locals := 109 } : Room) s m args below meth c (MQ below (QI D (tyA cyI cyZ cyW) A (wFO cyI cyZ cyW f0 w0 w1 w2 w3 v0 v1 v2 v3 p0 p1 p2 p3 p4 res.2.1 res.2.2.1 res.2.2.2.1 res.2.2.2.2.1 res.2.2.2.2.2 owh olf oco owi oho tubs pegs pwi flags pco pcl phr pho) res.1) args s 0 0 A) 9 D A 0 0 (wFO cyI cyZ cyW f0 w0 w1 w2 w3 v0 v1 v2 v3 p0 p1 p2 p3 p4 wh lf co wi ho owh olf oco owi oho tubs pegs pwi flags pco pcl phr pho) 20 [(0, .ref f0), (1, .ref v0), (2, .int x2), (3, .int x3), (4, .int x4), (5, .int x5), (6, .int x6)] []) (h : gX2_bestToSend_20 rec20 x2 x3 x4 x5 x6 wh lf co wi ho owh olf oco owi oho pegs flags pcl phr pho = some res) : Mx p l e ({ frames := 5, cells := 0, slots := 0, locals := 109 } : Room) s m args below meth c (MQ below (QI D (tyA cyI cyZ cyW) A (wFO cyI cyZ cyW f0 w0 w1 w2 w3 v0 v1 v2 v3 p0 p1 p2 p3 p4 res.2.1 res.2.2.1 res.2.2.2.1 res.2.2.2.2.1 res.2.2.2.2.2 owh olf oco owi oho tubs pegs pwi flags pco pcl phr pho) res.1) args s 0 0 A) 9 D A 0 0 (wFO cyI cyZ cyW f0 w0 w1 w2 w3 v0 v1 v2 v3 p0 p1 p2 p3 p4 wh lf co wi ho owh olf oco owi oho tubs pegs pwi flags pco pcl phr pho) 20 [(0, .ref f0), (1, .ref v0), (2, .int x2), (3, .int x3), (4, .int x4), (5, .int x5), (6, .int x6)] [] := by
  unfold gX2_bestToSend_20 at h
  refine r_iload C dX2_bestToSend_20 6 rfl ?_
  refine r_bipush (v := 31) C dX2_bestToSend_22 bp_31 ?_
  refine r_icmp_gt (tgt := 120) C dX2_bestToSend_24 (by decide) (fun c3 => ?_) (fun c3 => ?_)
  · replace h := ob_t h c3
    refine r_iload C dX2_bestToSend_120 4 rfl ?_
    have h9 := Option.some.inj h
    subst h9
    exact r_iret C rfl dX2_bestToSend_122
  · replace h := ob_f h c3
    refine r_iload C dX2_bestToSend_27 6 rfl ?_
    refine r_iload_n C dX2_bestToSend_29 2 rfl rfl ?_
    obtain ⟨u4, hu4, h⟩ := ob_bind h
    refine r_readSNI (host := RX9) (As := [.int x6, .int x2]) (rest := []) C (kX9_isWithin   (x0 := x6) (x1 := x2) hu4) gX2_bestToSend_X9_isWithin_n45 rfl rfl rfl (by decide +kernel) mX2_bestToSend_26 mX2_bestToSend_25 hd_X9_isWithin ⟨by decide, by decide⟩ rfl [] (by decide) rfl rfl (Nat.le_of_ble_eq_true rfl) dX2_bestToSend_30 ⟨Nat.zero_le _, Nat.zero_le _⟩ ?_
    refine r_ifb_eq (tgt := 114) C dX2_bestToSend_33 (by decide) (fun c5 => ?_) (fun c5 => ?_)
    · replace h := ob_bf h c5
      refine r_lv (lv' := [(0, .ref f0), (1, .ref v0), (2, .int x2), (3, .int x3), (4, .int x4), (5, .int x5), (6, .int x6)]) [0, 1, 2, 3, 4, 5, 6] rfl ?_
      exact LX2_bestToSend_114 C (x2 := x2) (x3 := x3) (x4 := x4) (x5 := x5) (x6 := x6) (wh := wh) (lf := lf) (co := co) (wi := wi) (ho := ho) (owh := owh) (olf := olf) (oco := oco) (owi := owi) (oho := oho) (tubs := tubs) (pegs := pegs) (pwi := pwi) (flags := flags) (pco := pco) (pcl := pcl) (phr := phr) (pho := pho) hrec20 h
    · replace h := ob_t h c5
      refine r_iload C dX2_bestToSend_36 6 rfl ?_
      obtain ⟨u6, hu6, h⟩ := ob_bind h
      refine r_readSI (As := [.int x6]) (rest := []) C (kJ6_bitCount_0f7a4   (x0 := x6) hu6) gX2_bestToSend_J6_bitCount_0f7a4 rfl rfl rfl hd_J6_bitCount_0f7a4 ⟨by decide, by decide⟩ rfl [] (by decide) rfl rfl (Nat.le_of_ble_eq_true rfl) dX2_bestToSend_38 ⟨Nat.zero_le _, Nat.zero_le _⟩ ?_
      refine r_iload_n C dX2_bestToSend_41 3 rfl rfl ?_
      refine r_icmp_le (tgt := 48) C dX2_bestToSend_42 (by decide) (fun c7 => ?_) (fun c7 => ?_)
      · replace h := ob_t h c7
        refine r_aload_n C dX2_bestToSend_48 0 rfl rfl ?_
        refine r_aload_n C dX2_bestToSend_49 1 rfl rfl ?_
        refine r_iload C dX2_bestToSend_50 6 rfl ?_
        refine r_bipush (v := 31) C dX2_bestToSend_52 bp_31 ?_
        obtain ⟨u8, hu8, h⟩ := ob_bind h
        refine r_callVI (q0 := 0) (As := [.ref v0, .int x6, .int (31 : Int32)]) (rest := []) (ws1 := (wFO cyI cyZ cyW f0 w0 w1 w2 w3 v0 v1 v2 v3 p0 p1 p2 p3 p4 u8.2.1 u8.2.2.1 u8.2.2.2.1 u8.2.2.2.2.1 u8.2.2.2.2.2 owh olf oco owi oho tubs pegs pwi flags pco pcl phr pho)) C (kX2_hoursToFight (f0 := f0) (w0 := w0) (w1 := w1) (w2 := w2) (w3 := w3) (v0 := v0) (v1 := v1) (v2 := v2) (v3 := v3) (p0 := p0) (p1 := p1) (p2 := p2) (p3 := p3) (p4 := p4) (wh := wh) (lf := lf) (co := co) (wi := wi) (ho := ho) (owh := owh) (olf := olf) (oco := oco) (owi := owi) (oho := oho) (tubs := tubs) (pegs := pegs) (pwi := pwi) (flags := flags) (pco := pco) (pcl := pcl) (phr := phr) (pho := pho) (x2 := x6) (x3 := (31 : Int32)) hu8) gX2_bestToSend_X2_hoursToFight rfl rfl rfl ⟨rfl, hd_X2_hoursToFight⟩ ⟨by decide, by decide⟩ rfl rfl rfl rfl [0, 1, 2, 3, 4, 5, 6, 7, 8, 9, 10, 11, 12, 13] (by decide) in_39 se_39 (adrFO.trans adrFO.symm) rfl (Nat.le_of_ble_eq_true rfl) dX2_bestToSend_54 ⟨Nat.zero_le _, Nat.zero_le _⟩ ?_
        refine r_istore (lv' := [(7, .int u8.1), (0, .ref f0), (1, .ref v0), (2, .int x2), (3, .int x3), (4, .int x4), (5, .int x5), (6, .int x6)]) C dX2_bestToSend_57 (by decide) rfl ?_
        refine r_iload C dX2_bestToSend_59 0 rfl ?_
        refine r_bipush (v := -9) C dX2_bestToSend_61 bp_m9 ?_
        refine r_icmp_ne (tgt := 71) C dX2_bestToSend_63 (by decide) (fun c9 => ?_) (fun c9 => ?_)
        · replace h := ob_f h c9
          refine r_iload C dX2_bestToSend_71 0 rfl ?_
          refine r_lv (lv' := [(0, .ref f0), (1, .ref v0), (2, .int x2), (3, .int x3), (4, .int x4), (5, .int x5), (6, .int x6)]) [1, 2, 3, 4, 5, 6, 7] rfl ?_
          exact LX2_bestToSend_73 C (x2 := x2) (x3 := x3) (x4 := x4) (x5 := x5) (x6 := x6) (y0 := u8.1) (wh := u8.2.1) (lf := u8.2.2.1) (co := u8.2.2.2.1) (wi := u8.2.2.2.2.1) (ho := u8.2.2.2.2.2) (owh := owh) (olf := olf) (oco := oco) (owi := owi) (oho := oho) (tubs := tubs) (pegs := pegs) (pwi := pwi) (flags := flags) (pco := pco) (pcl := pcl) (phr := phr) (pho := pho) hrec20 h
        · replace h := ob_t h c9
          refine r_bipush (v := 41) C dX2_bestToSend_66 bp_41 ?_
          refine r_goto (tgt := 73) C dX2_bestToSend_68 (by decide) ?_
          refine r_lv (lv' := [(0, .ref f0), (1, .ref v0), (2, .int x2), (3, .int x3), (4, .int x4), (5, .int x5), (6, .int x6)]) [1, 2, 3, 4, 5, 6, 7] rfl ?_
          exact LX2_bestToSend_73 C (x2 := x2) (x3 := x3) (x4 := x4) (x5 := x5) (x6 := x6) (y0 := (41 : Int32)) (wh := u8.2.1) (lf := u8.2.2.1) (co := u8.2.2.2.1) (wi := u8.2.2.2.2.1) (ho := u8.2.2.2.2.2) (owh := owh) (olf := olf) (oco := oco) (owi := owi) (oho := oho) (tubs := tubs) (pegs := pegs) (pwi := pwi) (flags := flags) (pco := pco) (pcl := pcl) (phr := phr) (pho := pho) hrec20 h
      · replace h := ob_f h c7
        refine r_goto (tgt := 114) C dX2_bestToSend_45 (by decide) ?_
        refine r_lv (lv' := [(0, .ref f0), (1, .ref v0), (2, .int x2), (3, .int x3), (4, .int x4), (5, .int x5), (6, .int x6)]) [0, 1, 2, 3, 4, 5, 6] rfl ?_
        exact LX2_bestToSend_114 C (x2 := x2) (x3 := x3) (x4 := x4) (x5 := x5) (x6 := x6) (wh := wh) (lf := lf) (co := co) (wi := wi) (ho := ho) (owh := owh) (olf := olf) (oco := oco) (owi := owi) (oho := oho) (tubs := tubs) (pegs := pegs) (pwi := pwi) (flags := flags) (pco := pco) (pcl := pcl) (phr := phr) (pho := pho) hrec20 h
set_option maxHeartbeats 4000000 in
set_option maxRecDepth 100000 in
theorem LX2_bestToSend_20 {p : Program} {l : Launch} {e : Env} {s : State} {m : MethodId} {args : Array Value} {below : List Frame} {meth : Method} {c : Code} {D : va_G} {cyI cyZ cyW : ClassId} {zW zO : Nat} {A : Nat → Prop} (C : Cx p s m args meth c cX2_bestToSend RX2 "bestToSend" wsX2_bestToSend (some .int) 9 D (tyA cyI cyZ cyW) zW zO A) {f0 : Nat} {w0 : Nat} {w1 : Nat} {w2 : Nat} {w3 : Nat} {v0 : Nat} {v1 : Nat} {v2 : Nat} {v3 : Nat} {p0 : Nat} {p1 : Nat} {p2 : Nat} {p3 : Nat} {p4 : Nat} {x2 : Int32} {x3 : Int32} {owh : (Nat → Int32)} {olf : (Nat → Int32)} {oco : (Nat → Int32)} {owi : Int32} {oho : Int32} {tubs : Int32} {pegs : Int32} {pwi : Int32} {flags : Int32} {pco : (Nat → Int32)} {pcl : (Nat → Int32)} {phr : (Nat → Int32)} {pho : (Nat → Int32)}  {res : Int32 × (Nat → Int32) × (Nat → Int32) × (Nat → Int32) × Int32 × Int32}  : ∀ (n : Nat) (x4 : Int32) (x5 : Int32) (x6 : Int32) (wh : (Nat → Int32)) (lf : (Nat → Int32)) (co : (Nat → Int32)) (wi : Int32) (ho : Int32), fX2_bestToSend_20  x2 x3 owh olf oco owi oho pegs flags pcl phr pho n x4 x5 x6 wh lf co wi ho = some res → Mx p l e ({ frames := 5, cells := 0, slots := 0, locals := 109 } : Room) s m args below meth c (MQ below (QI D (tyA cyI cyZ cyW) A (wFO cyI cyZ cyW f0 w0 w1 w2 w3 v0 v1 v2 v3 p0 p1 p2 p3 p4 res.2.1 res.2.2.1 res.2.2.2.1 res.2.2.2.2.1 res.2.2.2.2.2 owh olf oco owi oho tubs pegs pwi flags pco pcl phr pho) res.1) args s 0 0 A) 9 D A 0 0 (wFO cyI cyZ cyW f0 w0 w1 w2 w3 v0 v1 v2 v3 p0 p1 p2 p3 p4 wh lf co wi ho owh olf oco owi oho tubs pegs pwi flags pco pcl phr pho) 20 [(0, .ref f0), (1, .ref v0), (2, .int x2), (3, .int x3), (4, .int x4), (5, .int x5), (6, .int x6)] [] := by
  intro n
  induction n with
  | zero => intro x4 x5 x6 wh lf co wi ho h; cases h
  | succ n ih => intro x4 x5 x6 wh lf co wi ho h; exact LGX2_bestToSend_20 C ih h
set_option maxHeartbeats 4000000 in
set_option maxRecDepth 100000 in
theorem kX2_bestToSend {l : Launch} {D : va_G} {cyI cyZ cyW : ClassId} {zW zO : Nat} {f0 : Nat} {w0 : Nat} {w1 : Nat} {w2 : Nat} {w3 : Nat} {v0 : Nat} {v1 : Nat} {v2 : Nat} {v3 : Nat} {p0 : Nat} {p1 : Nat} {p2 : Nat} {p3 : Nat} {p4 : Nat} {wh : (Nat → Int32)} {lf : (Nat → Int32)} {co : (Nat → Int32)} {wi : Int32} {ho : Int32} {owh : (Nat → Int32)} {olf : (Nat → Int32)} {oco : (Nat → Int32)} {owi : Int32} {oho : Int32} {tubs : Int32} {pegs : Int32} {pwi : Int32} {flags : Int32} {pco : (Nat → Int32)} {pcl : (Nat → Int32)} {phr : (Nat → Int32)} {pho : (Nat → Int32)}  {res : Int32 × (Nat → Int32) × (Nat → Int32) × (Nat → Int32) × Int32 × Int32} (h : fX2_bestToSend wh lf co wi ho owh olf oco owi oho tubs pegs flags pcl phr pho = some res) : KI l yX2_bestToSend wsX2_bestToSend ({ frames := 5, cells := 0, slots := 0, locals := 109 } : Room) D (tyA cyI cyZ cyW) zW zO [.ref f0, .ref v0] (wFO cyI cyZ cyW f0 w0 w1 w2 w3 v0 v1 v2 v3 p0 p1 p2 p3 p4 wh lf co wi ho owh olf oco owi oho tubs pegs pwi flags pco pcl phr pho) (wFO cyI cyZ cyW f0 w0 w1 w2 w3 v0 v1 v2 v3 p0 p1 p2 p3 p4 res.2.1 res.2.2.1 res.2.2.2.1 res.2.2.2.2.1 res.2.2.2.2.2 owh olf oco owi oho tubs pegs pwi flags pco pcl phr pho) res.1 := by
  refine enterI (cc := cX2_bestToSend) (nL := 9) (ret := (some .int)) (by decide) rfl (Nat.le_of_ble_eq_true rfl) (fun p e s m below meth c A C => ?_)
  refine r_lv (lv' := [(0, .ref f0), (1, .ref v0)]) [0, 1] rfl ?_
  unfold fX2_bestToSend at h
  refine r_aload_n C dX2_bestToSend_0 1 rfl rfl ?_
  obtain ⟨u1, hu1, h⟩ := ob_bind h
  refine r_readVI (q0 := 0) (As := []) (rest := []) C (kX8_homeBits (w0 := v0) (w1 := v1) (w2 := v2) (w3 := v3) (p0 := p0) (p1 := p1) (p2 := p2) (p3 := p3) (p4 := p4) (wh := owh) (lf := olf) (co := oco) (wi := owi) (ho := oho) (tubs := tubs) (pegs := pegs) (pwi := pwi) (flags := flags) (pco := pco) (pcl := pcl) (phr := phr) (pho := pho)  hu1) gX2_bestToSend_X8_homeBits rfl rfl rfl ⟨rfl, hd_X8_homeBits⟩ ⟨by decide, by decide⟩ rfl rfl rfl rfl [5, 6, 7, 8, 9, 10, 11, 12, 13] (by decide) in_38 rfl (Nat.le_of_ble_eq_true rfl) dX2_bestToSend_1 ⟨Nat.zero_le _, Nat.zero_le _⟩ ?_
  refine r_istore_n (lv' := [(2, .int u1), (0, .ref f0), (1, .ref v0)]) C dX2_bestToSend_4 rfl (by decide) rfl ?_
  refine r_aload_n C dX2_bestToSend_5 2 rfl rfl ?_
  obtain ⟨u2, hu2, h⟩ := ob_bind h
  refine r_readVI (q0 := 0) (As := []) (rest := []) C (kX8_freeTubs (w0 := v0) (w1 := v1) (w2 := v2) (w3 := v3) (p0 := p0) (p1 := p1) (p2 := p2) (p3 := p3) (p4 := p4) (wh := owh) (lf := olf) (co := oco) (wi := owi) (ho := oho) (tubs := tubs) (pegs := pegs) (pwi := pwi) (flags := flags) (pco := pco) (pcl := pcl) (phr := phr) (pho := pho)  hu2) gX2_bestToSend_X8_freeTubs rfl rfl rfl ⟨rfl, hd_X8_freeTubs⟩ ⟨by decide, by decide⟩ rfl rfl rfl rfl [5, 6, 7, 8, 9, 10, 11, 12, 13] (by decide) in_38 rfl (Nat.le_of_ble_eq_true rfl) dX2_bestToSend_6 ⟨Nat.zero_le _, Nat.zero_le _⟩ ?_
  refine r_istore_n (lv' := [(3, .int u2), (2, .int u1), (0, .ref f0), (1, .ref v0)]) C dX2_bestToSend_9 rfl (by decide) rfl ?_
  refine r_bipush (v := -9) C dX2_bestToSend_10 bp_m9 ?_
  refine r_istore (lv' := [(4, .int (-9 : Int32)), (3, .int u2), (2, .int u1), (0, .ref f0), (1, .ref v0)]) C dX2_bestToSend_12 (by decide) rfl ?_
  refine r_iconst (v := 0) C dX2_bestToSend_14 ic_0 ?_
  refine r_istore (lv' := [(5, .int (0 : Int32)), (4, .int (-9 : Int32)), (3, .int u2), (2, .int u1), (0, .ref f0), (1, .ref v0)]) C dX2_bestToSend_15 (by decide) rfl ?_
  refine r_iconst (v := 0) C dX2_bestToSend_17 ic_0 ?_
  refine r_istore (lv' := [(6, .int (0 : Int32)), (5, .int (0 : Int32)), (4, .int (-9 : Int32)), (3, .int u2), (2, .int u1), (0, .ref f0), (1, .ref v0)]) C dX2_bestToSend_18 (by decide) rfl ?_
  refine r_lv (lv' := [(0, .ref f0), (1, .ref v0), (2, .int u1), (3, .int u2), (4, .int (-9 : Int32)), (5, .int (0 : Int32)), (6, .int (0 : Int32))]) [5, 6, 4, 3, 2, 1, 0] rfl ?_
  exact LX2_bestToSend_20 C (x2 := u1) (x3 := u2) (owh := owh) (olf := olf) (oco := oco) (owi := owi) (oho := oho) (tubs := tubs) (pegs := pegs) (pwi := pwi) (flags := flags) (pco := pco) (pcl := pcl) (phr := phr) (pho := pho)  FU (-9 : Int32) (0 : Int32) (0 : Int32) wh lf co wi ho h

/-! ===== FlagWash$Sightings.forgetAll ===== -/
def fX7_forgetAll   : Option (Int32) :=
 (some (0 : Int32))
theorem hinX7_forgetAll_X7 : ∀ w ∈ u_ws RX7 TX7 4, w ∈ wsX7_forgetAll := fun w h => List.mem_cons_of_mem _ (List.mem_append_right _ h)
theorem mX7_forgetAll_1 : Cond.fieldLink RX7 21 "FlagWash$Sightings" "size" "I" ∈ wsX7_forgetAll := List.mem_of_getElem? (i := 1) rfl
theorem hd_X7_forgetAll : yX7_forgetAll.cls ≠ "java/lang/invoke/MethodHandle" ∧ yX7_forgetAll.cls ≠ "java/lang/invoke/VarHandle" ∧ (parseMethodDescriptor yX7_forgetAll.desc).map (fun d => d.parameters.length) = some 0 := by decide +kernel
set_option maxHeartbeats 4000000 in
set_option maxRecDepth 100000 in
theorem kX7_forgetAll {l : Launch} {D : va_G} {cyI cyZ cyW : ClassId} {zW zO : Nat} {s0 : Nat} {s1 : Nat} {s2 : Nat} {s3 : Nat} {sfl : (Nat → Int32)} {sco : (Nat → Int32)} {swt : (Nat → Int32)} {ssz : Int32}  {res : Int32} (h : fX7_forgetAll  = some res) : KV l yX7_forgetAll wsX7_forgetAll ({ frames := 0, cells := 0, slots := 0, locals := 0 } : Room) D (tyA cyI cyZ cyW) zW zO [.ref s0] (wS cyI cyZ cyW s0 s1 s2 s3 sfl sco swt ssz) (wS cyI cyZ cyW s0 s1 s2 s3 sfl sco swt res) := by
  refine enterV (cc := cX7_forgetAll) (nL := 1) (ret := none) (by decide) rfl (Nat.le_of_ble_eq_true rfl) (fun p e s m below meth c A C => ?_)
  refine r_lv (lv' := [(0, .ref s0)]) [0] rfl ?_
  unfold fX7_forgetAll at h
  refine r_aload_n C dX7_forgetAll_0 0 rfl rfl ?_
  refine r_iconst (v := 0) C dX7_forgetAll_1 ic_0 ?_
  refine r_put (ci := 4) (CC := RX7) (T := TX7) (N := 4) (v := .int (0 : Int32)) (ws1 := (wS cyI cyZ cyW s0 s1 s2 s3 sfl sco swt (0 : Int32))) (ty := .int) C hinX7_forgetAll_X7 tyX7 tyX7_ok nmX7 0 rfl rfl 3 (by decide) mX7_forgetAll_1 rfl rfl rfl rfl rfl (Nat.le_of_ble_eq_true rfl) rfl dX7_forgetAll_2 ?_
  have h9 := Option.some.inj h
  subst h9
  exact r_vret C rfl dX7_forgetAll_5

/-! ===== FlagWash$Sightings.add ===== -/
def fX7_add  (x1 : Int32) (x2 : Int32) (x3 : Int32) (sfl : (Nat → Int32)) (sco : (Nat → Int32)) (swt : (Nat → Int32)) (ssz : Int32) : Option (Bool × (Nat → Int32) × (Nat → Int32) × (Nat → Int32) × Int32) :=
 (if ssz < (6 : Int32) then (if inb ssz 6 = true then (if inb ssz 6 = true then (if inb ssz 6 = true then (some (true, (upd sfl ssz.toNatClampNeg x1), (upd sco ssz.toNatClampNeg x2), (upd swt ssz.toNatClampNeg x3), (ssz + (1 : Int32)))) else none) else none) else none)
 else (some (false, sfl, sco, swt, ssz)))
theorem hinX7_add_X7 : ∀ w ∈ u_ws RX7 TX7 4, w ∈ wsX7_add := fun w h => List.mem_cons_of_mem _ (List.mem_append_right _ h)
theorem mX7_add_1 : Cond.fieldLink RX7 21 "FlagWash$Sightings" "size" "I" ∈ wsX7_add := List.mem_of_getElem? (i := 1) rfl
theorem mX7_add_2 : Cond.fieldLink RX7 9 "FlagWash$Sightings" "flag" "[I" ∈ wsX7_add := List.mem_of_getElem? (i := 2) rfl
theorem mX7_add_3 : Cond.fieldLink RX7 15 "FlagWash$Sightings" "colours" "[I" ∈ wsX7_add := List.mem_of_getElem? (i := 3) rfl
theorem mX7_add_4 : Cond.fieldLink RX7 18 "FlagWash$Sightings" "with" "[I" ∈ wsX7_add := List.mem_of_getElem? (i := 4) rfl
theorem hd_X7_add : yX7_add.cls ≠ "java/lang/invoke/MethodHandle" ∧ yX7_add.cls ≠ "java/lang/invoke/VarHandle" ∧ (parseMethodDescriptor yX7_add.desc).map (fun d => d.parameters.length) = some 3 := by decide +kernel
set_option maxHeartbeats 4000000 in
set_option maxRecDepth 100000 in
theorem kX7_add {l : Launch} {D : va_G} {cyI cyZ cyW : ClassId} {zW zO : Nat} {s0 : Nat} {s1 : Nat} {s2 : Nat} {s3 : Nat} {sfl : (Nat → Int32)} {sco : (Nat → Int32)} {swt : (Nat → Int32)} {ssz : Int32} {x1 : Int32} {x2 : Int32} {x3 : Int32} {res : Bool × (Nat → Int32) × (Nat → Int32) × (Nat → Int32) × Int32} (h : fX7_add x1 x2 x3 sfl sco swt ssz = some res) : KI l yX7_add wsX7_add ({ frames := 0, cells := 0, slots := 0, locals := 0 } : Room) D (tyA cyI cyZ cyW) zW zO [.ref s0, .int x1, .int x2, .int x3] (wS cyI cyZ cyW s0 s1 s2 s3 sfl sco swt ssz) (wS cyI cyZ cyW s0 s1 s2 s3 res.2.1 res.2.2.1 res.2.2.2.1 res.2.2.2.2) (b2i res.1) := by
  refine enterI (cc := cX7_add) (nL := 4) (ret := (some .boolean)) (by decide) rfl (Nat.le_of_ble_eq_true rfl) (fun p e s m below meth c A C => ?_)
  refine r_lv (lv' := [(0, .ref s0), (1, .int x1), (2, .int x2), (3, .int x3)]) [0, 1, 2, 3] rfl ?_
  unfold fX7_add at h
  refine r_aload_n C dX7_add_0 0 rfl rfl ?_
  refine r_get (ci := 4) (CC := RX7) (T := TX7) (N := 4) (v := .int ssz) C hinX7_add_X7 0 rfl rfl 3 (by decide) mX7_add_1 rfl rfl dX7_add_1 ?_
  refine r_bipush (v := 6) C dX7_add_4 bp_6 ?_
  refine r_icmp_lt (tgt := 11) C dX7_add_6 (by decide) (fun c1 => ?_) (fun c1 => ?_)
  · replace h := ob_t h c1
    refine r_aload_n C dX7_add_11 0 rfl rfl ?_
    refine r_get (ci := 4) (CC := RX7) (T := TX7) (N := 4) (v := .ref s1) C hinX7_add_X7 0 rfl rfl 0 (by decide) mX7_add_2 rfl rfl dX7_add_12 ?_
    refine r_aload_n C dX7_add_15 0 rfl rfl ?_
    refine r_get (ci := 4) (CC := RX7) (T := TX7) (N := 4) (v := .int ssz) C hinX7_add_X7 0 rfl rfl 3 (by decide) mX7_add_1 rfl rfl dX7_add_16 ?_
    refine r_iload_n C dX7_add_19 1 rfl rfl ?_
    obtain ⟨hu2, h⟩ := ob_if h
    refine r_iast (ws1 := (wS cyI cyZ cyW s0 s1 s2 s3 (upd sfl ssz.toNatClampNeg x1) sco swt ssz)) C 1 0 rfl rfl (inb_vp hu2) rfl dX7_add_20 ?_
    refine r_aload_n C dX7_add_21 0 rfl rfl ?_
    refine r_get (ci := 4) (CC := RX7) (T := TX7) (N := 4) (v := .ref s2) C hinX7_add_X7 0 rfl rfl 1 (by decide) mX7_add_3 rfl rfl dX7_add_22 ?_
    refine r_aload_n C dX7_add_25 0 rfl rfl ?_
    refine r_get (ci := 4) (CC := RX7) (T := TX7) (N := 4) (v := .int ssz) C hinX7_add_X7 0 rfl rfl 3 (by decide) mX7_add_1 rfl rfl dX7_add_26 ?_
    refine r_iload_n C dX7_add_29 2 rfl rfl ?_
    obtain ⟨hu3, h⟩ := ob_if h
    refine r_iast (ws1 := (wS cyI cyZ cyW s0 s1 s2 s3 (upd sfl ssz.toNatClampNeg x1) (upd sco ssz.toNatClampNeg x2) swt ssz)) C 2 0 rfl rfl (inb_vp hu3) rfl dX7_add_30 ?_
    refine r_aload_n C dX7_add_31 0 rfl rfl ?_
    refine r_get (ci := 4) (CC := RX7) (T := TX7) (N := 4) (v := .ref s3) C hinX7_add_X7 0 rfl rfl 2 (by decide) mX7_add_4 rfl rfl dX7_add_32 ?_
    refine r_aload_n C dX7_add_35 0 rfl rfl ?_
    refine r_get (ci := 4) (CC := RX7) (T := TX7) (N := 4) (v := .int ssz) C hinX7_add_X7 0 rfl rfl 3 (by decide) mX7_add_1 rfl rfl dX7_add_36 ?_
    refine r_iload_n C dX7_add_39 3 rfl rfl ?_
    obtain ⟨hu4, h⟩ := ob_if h
    refine r_iast (ws1 := (wS cyI cyZ cyW s0 s1 s2 s3 (upd sfl ssz.toNatClampNeg x1) (upd sco ssz.toNatClampNeg x2) (upd swt ssz.toNatClampNeg x3) ssz)) C 3 0 rfl rfl (inb_vp hu4) rfl dX7_add_40 ?_
    refine r_aload_n C dX7_add_41 0 rfl rfl ?_
    refine r_dup C dX7_add_42 rfl ?_
    refine r_get (ci := 4) (CC := RX7) (T := TX7) (N := 4) (v := .int ssz) C hinX7_add_X7 0 rfl rfl 3 (by decide) mX7_add_1 rfl rfl dX7_add_43 ?_
    refine r_iconst (v := 1) C dX7_add_46 ic_1 ?_
    refine r_iadd C dX7_add_47 ?_
    refine r_put (ci := 4) (CC := RX7) (T := TX7) (N := 4) (v := .int (ssz + (1 : Int32))) (ws1 := (wS cyI cyZ cyW s0 s1 s2 s3 (upd sfl ssz.toNatClampNeg x1) (upd sco ssz.toNatClampNeg x2) (upd swt ssz.toNatClampNeg x3) (ssz + (1 : Int32)))) (ty := .int) C hinX7_add_X7 tyX7 tyX7_ok nmX7 0 rfl rfl 3 (by decide) mX7_add_1 rfl rfl rfl rfl rfl (Nat.le_of_ble_eq_true rfl) rfl dX7_add_48 ?_
    refine r_iconst (v := 1) C dX7_add_51 ic_1 ?_
    have h9 := Option.some.inj h
    subst h9
    exact r_zret (b := true) C rfl dX7_add_52
  · replace h := ob_f h c1
    refine r_iconst (v := 0) C dX7_add_9 ic_0 ?_
    have h9 := Option.some.inj h
    subst h9
    exact r_zret (b := false) C rfl dX7_add_10
