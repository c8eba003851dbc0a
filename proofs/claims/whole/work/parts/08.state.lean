/-! WORLDS: the shapes of the cells, by what they hold -/
def tyA (cyI cyZ cyW : ClassId) : List (ClassId × FieldType) := [(cyI, .int), (cyZ, .boolean), (cyW, .object "FlagWash$Wash")]
def upL : Nat → List Nat → (Nat → Option Nat) → (Nat → Option Nat)
  | _, [], f => f
  | i, a :: l, f => upL (i + 1) l (va_up f i (some a))
/-- more rounds than any loop here goes -/
def FU : Nat := 100
def jrem (x y : Int32) : Int32 := x - x / y * y
def jremL (x y : Int64) : Int64 := x - x / y * y
def jush (x y : Int32) : Int32 := (x.toUInt32 >>> (y.toUInt32 &&& Int32.toUInt32 31)).toInt32
theorem lk_out2 {x : Int32} {o0 o1 df : Int} (h0 : ¬ x = 0) (h1 : ¬ x = 1) : Op.lookupswitch.offset [(0, o0), (1, o1)] df x.toInt = df := by
  have e0 : x.toInt ≠ 0 := fun h => h0 (Int32.toInt_inj.mp (by rw [h]; rfl))
  have e1 : x.toInt ≠ 1 := fun h => h1 (Int32.toInt_inj.mp (by rw [h]; rfl))
  simp [Op.lookupswitch.offset, e0, e1, Ne.symm e0, Ne.symm e1]
def wP (cyI cyZ cyW : ClassId) (p0 : Nat) (p1 : Nat) (p2 : Nat) (p3 : Nat) (p4 : Nat) (tubs : Int32) (pegs : Int32) (pwi : Int32) (flags : Int32) (pco : (Nat → Int32)) (pcl : (Nat → Int32)) (phr : (Nat → Int32)) (pho : (Nat → Int32)) : va_W := [(p0, .inr (2, [.int tubs, .int pegs, .int pwi, .int flags, .ref p1, .ref p2, .ref p3, .ref p4])),
  (p1, .inl (cyI, 5, .inl pco)),
  (p2, .inl (cyI, 5, .inl pcl)),
  (p3, .inl (cyI, 5, .inl phr)),
  (p4, .inl (cyI, 5, .inl pho))]
theorem adrP {cyI cyZ cyW : ClassId} {p0 : Nat} {p1 : Nat} {p2 : Nat} {p3 : Nat} {p4 : Nat} {tubs : Int32} {pegs : Int32} {pwi : Int32} {flags : Int32} {pco : (Nat → Int32)} {pcl : (Nat → Int32)} {phr : (Nat → Int32)} {pho : (Nat → Int32)} : (wP cyI cyZ cyW p0 p1 p2 p3 p4 tubs pegs pwi flags pco pcl phr pho).map Prod.fst = [p0, p1, p2, p3, p4] := rfl
def wPP (cyI cyZ cyW : ClassId) (p0 : Nat) (p1 : Nat) (p2 : Nat) (p3 : Nat) (p4 : Nat) (q0 : Nat) (q1 : Nat) (q2 : Nat) (q3 : Nat) (q4 : Nat) (tubs : Int32) (pegs : Int32) (pwi : Int32) (flags : Int32) (pco : (Nat → Int32)) (pcl : (Nat → Int32)) (phr : (Nat → Int32)) (pho : (Nat → Int32)) (otubs : Int32) (opegs : Int32) (opwi : Int32) (oflags : Int32) (opco : (Nat → Int32)) (opcl : (Nat → Int32)) (ophr : (Nat → Int32)) (opho : (Nat → Int32)) : va_W := [(p0, .inr (2, [.int tubs, .int pegs, .int pwi, .int flags, .ref p1, .ref p2, .ref p3, .ref p4])),
  (p1, .inl (cyI, 5, .inl pco)),
  (p2, .inl (cyI, 5, .inl pcl)),
  (p3, .inl (cyI, 5, .inl phr)),
  (p4, .inl (cyI, 5, .inl pho)),
  (q0, .inr (2, [.int otubs, .int opegs, .int opwi, .int oflags, .ref q1, .ref q2, .ref q3, .ref q4])),
  (q1, .inl (cyI, 5, .inl opco)),
  (q2, .inl (cyI, 5, .inl opcl)),
  (q3, .inl (cyI, 5, .inl ophr)),
  (q4, .inl (cyI, 5, .inl opho))]
theorem adrPP {cyI cyZ cyW : ClassId} {p0 : Nat} {p1 : Nat} {p2 : Nat} {p3 : Nat} {p4 : Nat} {q0 : Nat} {q1 : Nat} {q2 : Nat} {q3 : Nat} {q4 : Nat} {tubs : Int32} {pegs : Int32} {pwi : Int32} {flags : Int32} {pco : (Nat → Int32)} {pcl : (Nat → Int32)} {phr : (Nat → Int32)} {pho : (Nat → Int32)} {otubs : Int32} {opegs : Int32} {opwi : Int32} {oflags : Int32} {opco : (Nat → Int32)} {opcl : (Nat → Int32)} {ophr : (Nat → Int32)} {opho : (Nat → Int32)} : (wPP cyI cyZ cyW p0 p1 p2 p3 p4 q0 q1 q2 q3 q4 tubs pegs pwi flags pco pcl phr pho otubs opegs opwi oflags opco opcl ophr opho).map Prod.fst = [p0, p1, p2, p3, p4, q0, q1, q2, q3, q4] := rfl
def wW2 (cyI cyZ cyW : ClassId) (w0 : Nat) (w1 : Nat) (w2 : Nat) (w3 : Nat) (v0 : Nat) (v1 : Nat) (v2 : Nat) (v3 : Nat) (p0 : Nat) (wh : (Nat → Int32)) (lf : (Nat → Int32)) (co : (Nat → Int32)) (wi : Int32) (ho : Int32) (owh : (Nat → Int32)) (olf : (Nat → Int32)) (oco : (Nat → Int32)) (owi : Int32) (oho : Int32) : va_W := [(w0, .inr (5, [.ref p0, .ref w1, .ref w2, .ref w3, .int wi, .int ho])),
  (w1, .inl (cyI, 5, .inl wh)),
  (w2, .inl (cyI, 5, .inl lf)),
  (w3, .inl (cyI, 5, .inl co)),
  (v0, .inr (5, [.ref p0, .ref v1, .ref v2, .ref v3, .int owi, .int oho])),
  (v1, .inl (cyI, 5, .inl owh)),
  (v2, .inl (cyI, 5, .inl olf)),
  (v3, .inl (cyI, 5, .inl oco))]
theorem adrW2 {cyI cyZ cyW : ClassId} {w0 : Nat} {w1 : Nat} {w2 : Nat} {w3 : Nat} {v0 : Nat} {v1 : Nat} {v2 : Nat} {v3 : Nat} {p0 : Nat} {wh : (Nat → Int32)} {lf : (Nat → Int32)} {co : (Nat → Int32)} {wi : Int32} {ho : Int32} {owh : (Nat → Int32)} {olf : (Nat → Int32)} {oco : (Nat → Int32)} {owi : Int32} {oho : Int32} : (wW2 cyI cyZ cyW w0 w1 w2 w3 v0 v1 v2 v3 p0 wh lf co wi ho owh olf oco owi oho).map Prod.fst = [w0, w1, w2, w3, v0, v1, v2, v3] := rfl
def wWP (cyI cyZ cyW : ClassId) (w0 : Nat) (w1 : Nat) (w2 : Nat) (w3 : Nat) (p0 : Nat) (p1 : Nat) (p2 : Nat) (p3 : Nat) (p4 : Nat) (wh : (Nat → Int32)) (lf : (Nat → Int32)) (co : (Nat → Int32)) (wi : Int32) (ho : Int32) (tubs : Int32) (pegs : Int32) (pwi : Int32) (flags : Int32) (pco : (Nat → Int32)) (pcl : (Nat → Int32)) (phr : (Nat → Int32)) (pho : (Nat → Int32)) : va_W := [(w0, .inr (5, [.ref p0, .ref w1, .ref w2, .ref w3, .int wi, .int ho])),
  (w1, .inl (cyI, 5, .inl wh)),
  (w2, .inl (cyI, 5, .inl lf)),
  (w3, .inl (cyI, 5, .inl co)),
  (p0, .inr (2, [.int tubs, .int pegs, .int pwi, .int flags, .ref p1, .ref p2, .ref p3, .ref p4])),
  (p1, .inl (cyI, 5, .inl pco)),
  (p2, .inl (cyI, 5, .inl pcl)),
  (p3, .inl (cyI, 5, .inl phr)),
  (p4, .inl (cyI, 5, .inl pho))]
theorem adrWP {cyI cyZ cyW : ClassId} {w0 : Nat} {w1 : Nat} {w2 : Nat} {w3 : Nat} {p0 : Nat} {p1 : Nat} {p2 : Nat} {p3 : Nat} {p4 : Nat} {wh : (Nat → Int32)} {lf : (Nat → Int32)} {co : (Nat → Int32)} {wi : Int32} {ho : Int32} {tubs : Int32} {pegs : Int32} {pwi : Int32} {flags : Int32} {pco : (Nat → Int32)} {pcl : (Nat → Int32)} {phr : (Nat → Int32)} {pho : (Nat → Int32)} : (wWP cyI cyZ cyW w0 w1 w2 w3 p0 p1 p2 p3 p4 wh lf co wi ho tubs pegs pwi flags pco pcl phr pho).map Prod.fst = [w0, w1, w2, w3, p0, p1, p2, p3, p4] := rfl
def wR (cyI cyZ cyW : ClassId) (r0 : Nat) (p0 : Nat) (stage : Int32) (rco : Int32) (rcl : Int32) (ron : Int32) : va_W := [(r0, .inr (3, [.ref p0, .int stage, .int rco, .int rcl, .int ron]))]
theorem adrR {cyI cyZ cyW : ClassId} {r0 : Nat} {p0 : Nat} {stage : Int32} {rco : Int32} {rcl : Int32} {ron : Int32} : (wR cyI cyZ cyW r0 p0 stage rco rcl ron).map Prod.fst = [r0] := rfl
def wRP (cyI cyZ cyW : ClassId) (r0 : Nat) (p0 : Nat) (p1 : Nat) (p2 : Nat) (p3 : Nat) (p4 : Nat) (stage : Int32) (rco : Int32) (rcl : Int32) (ron : Int32) (tubs : Int32) (pegs : Int32) (pwi : Int32) (flags : Int32) (pco : (Nat → Int32)) (pcl : (Nat → Int32)) (phr : (Nat → Int32)) (pho : (Nat → Int32)) : va_W := [(r0, .inr (3, [.ref p0, .int stage, .int rco, .int rcl, .int ron])),
  (p0, .inr (2, [.int tubs, .int pegs, .int pwi, .int flags, .ref p1, .ref p2, .ref p3, .ref p4])),
  (p1, .inl (cyI, 5, .inl pco)),
  (p2, .inl (cyI, 5, .inl pcl)),
  (p3, .inl (cyI, 5, .inl phr)),
  (p4, .inl (cyI, 5, .inl pho))]
theorem adrRP {cyI cyZ cyW : ClassId} {r0 : Nat} {p0 : Nat} {p1 : Nat} {p2 : Nat} {p3 : Nat} {p4 : Nat} {stage : Int32} {rco : Int32} {rcl : Int32} {ron : Int32} {tubs : Int32} {pegs : Int32} {pwi : Int32} {flags : Int32} {pco : (Nat → Int32)} {pcl : (Nat → Int32)} {phr : (Nat → Int32)} {pho : (Nat → Int32)} : (wRP cyI cyZ cyW r0 p0 p1 p2 p3 p4 stage rco rcl ron tubs pegs pwi flags pco pcl phr pho).map Prod.fst = [r0, p0, p1, p2, p3, p4] := rfl
def wRPL (cyI cyZ cyW : ClassId) (r0 : Nat) (p0 : Nat) (p1 : Nat) (p2 : Nat) (p3 : Nat) (p4 : Nat) (l0 : Nat) (stage : Int32) (rco : Int32) (rcl : Int32) (ron : Int32) (tubs : Int32) (pegs : Int32) (pwi : Int32) (flags : Int32) (pco : (Nat → Int32)) (pcl : (Nat → Int32)) (phr : (Nat → Int32)) (pho : (Nat → Int32)) (letters : (Nat → Int32)) : va_W := [(r0, .inr (3, [.ref p0, .int stage, .int rco, .int rcl, .int ron])),
  (p0, .inr (2, [.int tubs, .int pegs, .int pwi, .int flags, .ref p1, .ref p2, .ref p3, .ref p4])),
  (p1, .inl (cyI, 5, .inl pco)),
  (p2, .inl (cyI, 5, .inl pcl)),
  (p3, .inl (cyI, 5, .inl phr)),
  (p4, .inl (cyI, 5, .inl pho)),
  (l0, .inl (cyI, 48, .inl letters))]
theorem adrRPL {cyI cyZ cyW : ClassId} {r0 : Nat} {p0 : Nat} {p1 : Nat} {p2 : Nat} {p3 : Nat} {p4 : Nat} {l0 : Nat} {stage : Int32} {rco : Int32} {rcl : Int32} {ron : Int32} {tubs : Int32} {pegs : Int32} {pwi : Int32} {flags : Int32} {pco : (Nat → Int32)} {pcl : (Nat → Int32)} {phr : (Nat → Int32)} {pho : (Nat → Int32)} {letters : (Nat → Int32)} : (wRPL cyI cyZ cyW r0 p0 p1 p2 p3 p4 l0 stage rco rcl ron tubs pegs pwi flags pco pcl phr pho letters).map Prod.fst = [r0, p0, p1, p2, p3, p4, l0] := rfl
def wFO (cyI cyZ cyW : ClassId) (f0 : Nat) (w0 : Nat) (w1 : Nat) (w2 : Nat) (w3 : Nat) (v0 : Nat) (v1 : Nat) (v2 : Nat) (v3 : Nat) (p0 : Nat) (p1 : Nat) (p2 : Nat) (p3 : Nat) (p4 : Nat) (wh : (Nat → Int32)) (lf : (Nat → Int32)) (co : (Nat → Int32)) (wi : Int32) (ho : Int32) (owh : (Nat → Int32)) (olf : (Nat → Int32)) (oco : (Nat → Int32)) (owi : Int32) (oho : Int32) (tubs : Int32) (pegs : Int32) (pwi : Int32) (flags : Int32) (pco : (Nat → Int32)) (pcl : (Nat → Int32)) (phr : (Nat → Int32)) (pho : (Nat → Int32)) : va_W := [(f0, .inr (1, [.ref w0])),
  (w0, .inr (5, [.ref p0, .ref w1, .ref w2, .ref w3, .int wi, .int ho])),
  (w1, .inl (cyI, 5, .inl wh)),
  (w2, .inl (cyI, 5, .inl lf)),
  (w3, .inl (cyI, 5, .inl co)),
  (v0, .inr (5, [.ref p0, .ref v1, .ref v2, .ref v3, .int owi, .int oho])),
  (v1, .inl (cyI, 5, .inl owh)),
  (v2, .inl (cyI, 5, .inl olf)),
  (v3, .inl (cyI, 5, .inl oco)),
  (p0, .inr (2, [.int tubs, .int pegs, .int pwi, .int flags, .ref p1, .ref p2, .ref p3, .ref p4])),
  (p1, .inl (cyI, 5, .inl pco)),
  (p2, .inl (cyI, 5, .inl pcl)),
  (p3, .inl (cyI, 5, .inl phr)),
  (p4, .inl (cyI, 5, .inl pho))]
theorem adrFO {cyI cyZ cyW : ClassId} {f0 : Nat} {w0 : Nat} {w1 : Nat} {w2 : Nat} {w3 : Nat} {v0 : Nat} {v1 : Nat} {v2 : Nat} {v3 : Nat} {p0 : Nat} {p1 : Nat} {p2 : Nat} {p3 : Nat} {p4 : Nat} {wh : (Nat → Int32)} {lf : (Nat → Int32)} {co : (Nat → Int32)} {wi : Int32} {ho : Int32} {owh : (Nat → Int32)} {olf : (Nat → Int32)} {oco : (Nat → Int32)} {owi : Int32} {oho : Int32} {tubs : Int32} {pegs : Int32} {pwi : Int32} {flags : Int32} {pco : (Nat → Int32)} {pcl : (Nat → Int32)} {phr : (Nat → Int32)} {pho : (Nat → Int32)} : (wFO cyI cyZ cyW f0 w0 w1 w2 w3 v0 v1 v2 v3 p0 p1 p2 p3 p4 wh lf co wi ho owh olf oco owi oho tubs pegs pwi flags pco pcl phr pho).map Prod.fst = [f0, w0, w1, w2, w3, v0, v1, v2, v3, p0, p1, p2, p3, p4] := rfl
def wAO (cyI cyZ cyW : ClassId) (a0 : Nat) (a1 : Nat) (first : Int32) (size : Int32) : va_W := [(a0, .inr (0, [.ref a1, .int first, .int size]))]
theorem adrAO {cyI cyZ cyW : ClassId} {a0 : Nat} {a1 : Nat} {first : Int32} {size : Int32} : (wAO cyI cyZ cyW a0 a1 first size).map Prod.fst = [a0] := rfl
def wAC (cyI cyZ cyW : ClassId) (a0 : Nat) (a1 : Nat) (aw : Nat → Nat) (w0 : Nat) (w1 : Nat) (w2 : Nat) (w3 : Nat) (p0 : Nat) (first : Int32) (size : Int32) (awh : (Nat → Nat → Int32)) (alf : (Nat → Nat → Int32)) (aco : (Nat → Nat → Int32)) (awi : (Nat → Int32)) (aho : (Nat → Int32)) (wh : (Nat → Int32)) (lf : (Nat → Int32)) (co : (Nat → Int32)) (wi : Int32) (ho : Int32) : va_W := [(a0, .inr (0, [.ref a1, .int first, .int size])),
  (a1, .inl (cyW, 14, .inr (.inr (.inr (.inr (upL 0 [(aw 0), (aw 4), (aw 8), (aw 12), (aw 16), (aw 20), (aw 24), (aw 28), (aw 32), (aw 36), (aw 40), (aw 44), (aw 48), (aw 52)] (fun _ => none))))))),
  ((aw 0), .inr (5, [.ref p0, .ref (aw 1), .ref (aw 2), .ref (aw 3), .int (awi 0), .int (aho 0)])),
  ((aw 1), .inl (cyI, 5, .inl (awh 0))),
  ((aw 2), .inl (cyI, 5, .inl (alf 0))),
  ((aw 3), .inl (cyI, 5, .inl (aco 0))),
  ((aw 4), .inr (5, [.ref p0, .ref (aw 5), .ref (aw 6), .ref (aw 7), .int (awi 1), .int (aho 1)])),
  ((aw 5), .inl (cyI, 5, .inl (awh 1))),
  ((aw 6), .inl (cyI, 5, .inl (alf 1))),
  ((aw 7), .inl (cyI, 5, .inl (aco 1))),
  ((aw 8), .inr (5, [.ref p0, .ref (aw 9), .ref (aw 10), .ref (aw 11), .int (awi 2), .int (aho 2)])),
  ((aw 9), .inl (cyI, 5, .inl (awh 2))),
  ((aw 10), .inl (cyI, 5, .inl (alf 2))),
  ((aw 11), .inl (cyI, 5, .inl (aco 2))),
  ((aw 12), .inr (5, [.ref p0, .ref (aw 13), .ref (aw 14), .ref (aw 15), .int (awi 3), .int (aho 3)])),
  ((aw 13), .inl (cyI, 5, .inl (awh 3))),
  ((aw 14), .inl (cyI, 5, .inl (alf 3))),
  ((aw 15), .inl (cyI, 5, .inl (aco 3))),
  ((aw 16), .inr (5, [.ref p0, .ref (aw 17), .ref (aw 18), .ref (aw 19), .int (awi 4), .int (aho 4)])),
  ((aw 17), .inl (cyI, 5, .inl (awh 4))),
  ((aw 18), .inl (cyI, 5, .inl (alf 4))),
  ((aw 19), .inl (cyI, 5, .inl (aco 4))),
  ((aw 20), .inr (5, [.ref p0, .ref (aw 21), .ref (aw 22), .ref (aw 23), .int (awi 5), .int (aho 5)])),
  ((aw 21), .inl (cyI, 5, .inl (awh 5))),
  ((aw 22), .inl (cyI, 5, .inl (alf 5))),
  ((aw 23), .inl (cyI, 5, .inl (aco 5))),
  ((aw 24), .inr (5, [.ref p0, .ref (aw 25), .ref (aw 26), .ref (aw 27), .int (awi 6), .int (aho 6)])),
  ((aw 25), .inl (cyI, 5, .inl (awh 6))),
  ((aw 26), .inl (cyI, 5, .inl (alf 6))),
  ((aw 27), .inl (cyI, 5, .inl (aco 6))),
  ((aw 28), .inr (5, [.ref p0, .ref (aw 29), .ref (aw 30), .ref (aw 31), .int (awi 7), .int (aho 7)])),
  ((aw 29), .inl (cyI, 5, .inl (awh 7))),
  ((aw 30), .inl (cyI, 5, .inl (alf 7))),
  ((aw 31), .inl (cyI, 5, .inl (aco 7))),
  ((aw 32), .inr (5, [.ref p0, .ref (aw 33), .ref (aw 34), .ref (aw 35), .int (awi 8), .int (aho 8)])),
  ((aw 33), .inl (cyI, 5, .inl (awh 8))),
  ((aw 34), .inl (cyI, 5, .inl (alf 8))),
  ((aw 35), .inl (cyI, 5, .inl (aco 8))),
  ((aw 36), .inr (5, [.ref p0, .ref (aw 37), .ref (aw 38), .ref (aw 39), .int (awi 9), .int (aho 9)])),
  ((aw 37), .inl (cyI, 5, .inl (awh 9))),
  ((aw 38), .inl (cyI, 5, .inl (alf 9))),
  ((aw 39), .inl (cyI, 5, .inl (aco 9))),
  ((aw 40), .inr (5, [.ref p0, .ref (aw 41), .ref (aw 42), .ref (aw 43), .int (awi 10), .int (aho 10)])),
  ((aw 41), .inl (cyI, 5, .inl (awh 10))),
  ((aw 42), .inl (cyI, 5, .inl (alf 10))),
  ((aw 43), .inl (cyI, 5, .inl (aco 10))),
  ((aw 44), .inr (5, [.ref p0, .ref (aw 45), .ref (aw 46), .ref (aw 47), .int (awi 11), .int (aho 11)])),
  ((aw 45), .inl (cyI, 5, .inl (awh 11))),
  ((aw 46), .inl (cyI, 5, .inl (alf 11))),
  ((aw 47), .inl (cyI, 5, .inl (aco 11))),
  ((aw 48), .inr (5, [.ref p0, .ref (aw 49), .ref (aw 50), .ref (aw 51), .int (awi 12), .int (aho 12)])),
  ((aw 49), .inl (cyI, 5, .inl (awh 12))),
  ((aw 50), .inl (cyI, 5, .inl (alf 12))),
  ((aw 51), .inl (cyI, 5, .inl (aco 12))),
  ((aw 52), .inr (5, [.ref p0, .ref (aw 53), .ref (aw 54), .ref (aw 55), .int (awi 13), .int (aho 13)])),
  ((aw 53), .inl (cyI, 5, .inl (awh 13))),
  ((aw 54), .inl (cyI, 5, .inl (alf 13))),
  ((aw 55), .inl (cyI, 5, .inl (aco 13))),
  (w0, .inr (5, [.ref p0, .ref w1, .ref w2, .ref w3, .int wi, .int ho])),
  (w1, .inl (cyI, 5, .inl wh)),
  (w2, .inl (cyI, 5, .inl lf)),
  (w3, .inl (cyI, 5, .inl co))]
theorem adrAC {cyI cyZ cyW : ClassId} {a0 : Nat} {a1 : Nat} {aw : Nat → Nat} {w0 : Nat} {w1 : Nat} {w2 : Nat} {w3 : Nat} {p0 : Nat} {first : Int32} {size : Int32} {awh : (Nat → Nat → Int32)} {alf : (Nat → Nat → Int32)} {aco : (Nat → Nat → Int32)} {awi : (Nat → Int32)} {aho : (Nat → Int32)} {wh : (Nat → Int32)} {lf : (Nat → Int32)} {co : (Nat → Int32)} {wi : Int32} {ho : Int32} : (wAC cyI cyZ cyW a0 a1 aw w0 w1 w2 w3 p0 first size awh alf aco awi aho wh lf co wi ho).map Prod.fst = [a0, a1, (aw 0), (aw 1), (aw 2), (aw 3), (aw 4), (aw 5), (aw 6), (aw 7), (aw 8), (aw 9), (aw 10), (aw 11), (aw 12), (aw 13), (aw 14), (aw 15), (aw 16), (aw 17), (aw 18), (aw 19), (aw 20), (aw 21), (aw 22), (aw 23), (aw 24), (aw 25), (aw 26), (aw 27), (aw 28), (aw 29), (aw 30), (aw 31), (aw 32), (aw 33), (aw 34), (aw 35), (aw 36), (aw 37), (aw 38), (aw 39), (aw 40), (aw 41), (aw 42), (aw 43), (aw 44), (aw 45), (aw 46), (aw 47), (aw 48), (aw 49), (aw 50), (aw 51), (aw 52), (aw 53), (aw 54), (aw 55), w0, w1, w2, w3] := rfl
def wS (cyI cyZ cyW : ClassId) (s0 : Nat) (s1 : Nat) (s2 : Nat) (s3 : Nat) (sfl : (Nat → Int32)) (sco : (Nat → Int32)) (swt : (Nat → Int32)) (ssz : Int32) : va_W := [(s0, .inr (4, [.ref s1, .ref s2, .ref s3, .int ssz])),
  (s1, .inl (cyI, 6, .inl sfl)),
  (s2, .inl (cyI, 6, .inl sco)),
  (s3, .inl (cyI, 6, .inl swt))]
theorem adrS {cyI cyZ cyW : ClassId} {s0 : Nat} {s1 : Nat} {s2 : Nat} {s3 : Nat} {sfl : (Nat → Int32)} {sco : (Nat → Int32)} {swt : (Nat → Int32)} {ssz : Int32} : (wS cyI cyZ cyW s0 s1 s2 s3 sfl sco swt ssz).map Prod.fst = [s0, s1, s2, s3] := rfl
def wSWP (cyI cyZ cyW : ClassId) (s0 : Nat) (s1 : Nat) (s2 : Nat) (s3 : Nat) (w0 : Nat) (w1 : Nat) (w2 : Nat) (w3 : Nat) (p0 : Nat) (p1 : Nat) (p2 : Nat) (p3 : Nat) (p4 : Nat) (sfl : (Nat → Int32)) (sco : (Nat → Int32)) (swt : (Nat → Int32)) (ssz : Int32) (wh : (Nat → Int32)) (lf : (Nat → Int32)) (co : (Nat → Int32)) (wi : Int32) (ho : Int32) (tubs : Int32) (pegs : Int32) (pwi : Int32) (flags : Int32) (pco : (Nat → Int32)) (pcl : (Nat → Int32)) (phr : (Nat → Int32)) (pho : (Nat → Int32)) : va_W := [(s0, .inr (4, [.ref s1, .ref s2, .ref s3, .int ssz])),
  (s1, .inl (cyI, 6, .inl sfl)),
  (s2, .inl (cyI, 6, .inl sco)),
  (s3, .inl (cyI, 6, .inl swt)),
  (w0, .inr (5, [.ref p0, .ref w1, .ref w2, .ref w3, .int wi, .int ho])),
  (w1, .inl (cyI, 5, .inl wh)),
  (w2, .inl (cyI, 5, .inl lf)),
  (w3, .inl (cyI, 5, .inl co)),
  (p0, .inr (2, [.int tubs, .int pegs, .int pwi, .int flags, .ref p1, .ref p2, .ref p3, .ref p4])),
  (p1, .inl (cyI, 5, .inl pco)),
  (p2, .inl (cyI, 5, .inl pcl)),
  (p3, .inl (cyI, 5, .inl phr)),
  (p4, .inl (cyI, 5, .inl pho))]
theorem adrSWP {cyI cyZ cyW : ClassId} {s0 : Nat} {s1 : Nat} {s2 : Nat} {s3 : Nat} {w0 : Nat} {w1 : Nat} {w2 : Nat} {w3 : Nat} {p0 : Nat} {p1 : Nat} {p2 : Nat} {p3 : Nat} {p4 : Nat} {sfl : (Nat → Int32)} {sco : (Nat → Int32)} {swt : (Nat → Int32)} {ssz : Int32} {wh : (Nat → Int32)} {lf : (Nat → Int32)} {co : (Nat → Int32)} {wi : Int32} {ho : Int32} {tubs : Int32} {pegs : Int32} {pwi : Int32} {flags : Int32} {pco : (Nat → Int32)} {pcl : (Nat → Int32)} {phr : (Nat → Int32)} {pho : (Nat → Int32)} : (wSWP cyI cyZ cyW s0 s1 s2 s3 w0 w1 w2 w3 p0 p1 p2 p3 p4 sfl sco swt ssz wh lf co wi ho tubs pegs pwi flags pco pcl phr pho).map Prod.fst = [s0, s1, s2, s3, w0, w1, w2, w3, p0, p1, p2, p3, p4] := rfl
def wFW (cyI cyZ cyW : ClassId) (ad : Nat → Nat) (letters : (Nat → Int32)) (length : Int32) (stage : Int32) (rco : Int32) (rcl : Int32) (ron : Int32) (rtubs : Int32) (rpegs : Int32) (rpwi : Int32) (rflags : Int32) (rpco : (Nat → Int32)) (rpcl : (Nat → Int32)) (rphr : (Nat → Int32)) (rpho : (Nat → Int32)) (tubs : Int32) (pegs : Int32) (pwi : Int32) (flags : Int32) (pco : (Nat → Int32)) (pcl : (Nat → Int32)) (phr : (Nat → Int32)) (pho : (Nat → Int32)) (wh : (Nat → Int32)) (lf : (Nat → Int32)) (co : (Nat → Int32)) (wi : Int32) (ho : Int32) (twh : (Nat → Int32)) (tlf : (Nat → Int32)) (tco : (Nat → Int32)) (twi : Int32) (tho : Int32) (first : Int32) (size : Int32) (awh : (Nat → Nat → Int32)) (alf : (Nat → Nat → Int32)) (aco : (Nat → Nat → Int32)) (awi : (Nat → Int32)) (aho : (Nat → Int32)) (sfl : (Nat → Int32)) (sco : (Nat → Int32)) (swt : (Nat → Int32)) (ssz : Int32) (kwh : (Nat → Nat → Int32)) (klf : (Nat → Nat → Int32)) (kco : (Nat → Nat → Int32)) (kwi : (Nat → Int32)) (kho : (Nat → Int32)) (kept : (Nat → Int32)) (seed : Int64) : va_W := [((ad 0), .inr (6, [.ref (ad 1), .int length, .ref (ad 2), .ref (ad 8), .ref (ad 13), .ref (ad 17), .ref (ad 21), .ref (ad 22), .ref (ad 80), .ref (ad 84), .ref (ad 93), .long seed])),
  ((ad 1), .inl (cyI, 48, .inl letters)),
  ((ad 2), .inr (3, [.ref (ad 3), .int stage, .int rco, .int rcl, .int ron])),
  ((ad 3), .inr (2, [.int rtubs, .int rpegs, .int rpwi, .int rflags, .ref (ad 4), .ref (ad 5), .ref (ad 6), .ref (ad 7)])),
  ((ad 4), .inl (cyI, 5, .inl rpco)),
  ((ad 5), .inl (cyI, 5, .inl rpcl)),
  ((ad 6), .inl (cyI, 5, .inl rphr)),
  ((ad 7), .inl (cyI, 5, .inl rpho)),
  ((ad 8), .inr (2, [.int tubs, .int pegs, .int pwi, .int flags, .ref (ad 9), .ref (ad 10), .ref (ad 11), .ref (ad 12)])),
  ((ad 9), .inl (cyI, 5, .inl pco)),
  ((ad 10), .inl (cyI, 5, .inl pcl)),
  ((ad 11), .inl (cyI, 5, .inl phr)),
  ((ad 12), .inl (cyI, 5, .inl pho)),
  ((ad 13), .inr (5, [.ref (ad 8), .ref (ad 14), .ref (ad 15), .ref (ad 16), .int wi, .int ho])),
  ((ad 14), .inl (cyI, 5, .inl wh)),
  ((ad 15), .inl (cyI, 5, .inl lf)),
  ((ad 16), .inl (cyI, 5, .inl co)),
  ((ad 17), .inr (5, [.ref (ad 8), .ref (ad 18), .ref (ad 19), .ref (ad 20), .int twi, .int tho])),
  ((ad 18), .inl (cyI, 5, .inl twh)),
  ((ad 19), .inl (cyI, 5, .inl tlf)),
  ((ad 20), .inl (cyI, 5, .inl tco)),
  ((ad 21), .inr (1, [.ref (ad 17)])),
  ((ad 22), .inr (0, [.ref (ad 23), .int first, .int size])),
  ((ad 23), .inl (cyW, 14, .inr (.inr (.inr (.inr (upL 0 [(ad 24), (ad 28), (ad 32), (ad 36), (ad 40), (ad 44), (ad 48), (ad 52), (ad 56), (ad 60), (ad 64), (ad 68), (ad 72), (ad 76)] (fun _ => none))))))),
  ((ad 24), .inr (5, [.ref (ad 8), .ref (ad 25), .ref (ad 26), .ref (ad 27), .int (awi 0), .int (aho 0)])),
  ((ad 25), .inl (cyI, 5, .inl (awh 0))),
  ((ad 26), .inl (cyI, 5, .inl (alf 0))),
  ((ad 27), .inl (cyI, 5, .inl (aco 0))),
  ((ad 28), .inr (5, [.ref (ad 8), .ref (ad 29), .ref (ad 30), .ref (ad 31), .int (awi 1), .int (aho 1)])),
  ((ad 29), .inl (cyI, 5, .inl (awh 1))),
  ((ad 30), .inl (cyI, 5, .inl (alf 1))),
  ((ad 31), .inl (cyI, 5, .inl (aco 1))),
  ((ad 32), .inr (5, [.ref (ad 8), .ref (ad 33), .ref (ad 34), .ref (ad 35), .int (awi 2), .int (aho 2)])),
  ((ad 33), .inl (cyI, 5, .inl (awh 2))),
  ((ad 34), .inl (cyI, 5, .inl (alf 2))),
  ((ad 35), .inl (cyI, 5, .inl (aco 2))),
  ((ad 36), .inr (5, [.ref (ad 8), .ref (ad 37), .ref (ad 38), .ref (ad 39), .int (awi 3), .int (aho 3)])),
  ((ad 37), .inl (cyI, 5, .inl (awh 3))),
  ((ad 38), .inl (cyI, 5, .inl (alf 3))),
  ((ad 39), .inl (cyI, 5, .inl (aco 3))),
  ((ad 40), .inr (5, [.ref (ad 8), .ref (ad 41), .ref (ad 42), .ref (ad 43), .int (awi 4), .int (aho 4)])),
  ((ad 41), .inl (cyI, 5, .inl (awh 4))),
  ((ad 42), .inl (cyI, 5, .inl (alf 4))),
  ((ad 43), .inl (cyI, 5, .inl (aco 4))),
  ((ad 44), .inr (5, [.ref (ad 8), .ref (ad 45), .ref (ad 46), .ref (ad 47), .int (awi 5), .int (aho 5)])),
  ((ad 45), .inl (cyI, 5, .inl (awh 5))),
  ((ad 46), .inl (cyI, 5, .inl (alf 5))),
  ((ad 47), .inl (cyI, 5, .inl (aco 5))),
  ((ad 48), .inr (5, [.ref (ad 8), .ref (ad 49), .ref (ad 50), .ref (ad 51), .int (awi 6), .int (aho 6)])),
  ((ad 49), .inl (cyI, 5, .inl (awh 6))),
  ((ad 50), .inl (cyI, 5, .inl (alf 6))),
  ((ad 51), .inl (cyI, 5, .inl (aco 6))),
  ((ad 52), .inr (5, [.ref (ad 8), .ref (ad 53), .ref (ad 54), .ref (ad 55), .int (awi 7), .int (aho 7)])),
  ((ad 53), .inl (cyI, 5, .inl (awh 7))),
  ((ad 54), .inl (cyI, 5, .inl (alf 7))),
  ((ad 55), .inl (cyI, 5, .inl (aco 7))),
  ((ad 56), .inr (5, [.ref (ad 8), .ref (ad 57), .ref (ad 58), .ref (ad 59), .int (awi 8), .int (aho 8)])),
  ((ad 57), .inl (cyI, 5, .inl (awh 8))),
  ((ad 58), .inl (cyI, 5, .inl (alf 8))),
  ((ad 59), .inl (cyI, 5, .inl (aco 8))),
  ((ad 60), .inr (5, [.ref (ad 8), .ref (ad 61), .ref (ad 62), .ref (ad 63), .int (awi 9), .int (aho 9)])),
  ((ad 61), .inl (cyI, 5, .inl (awh 9))),
  ((ad 62), .inl (cyI, 5, .inl (alf 9))),
  ((ad 63), .inl (cyI, 5, .inl (aco 9))),
  ((ad 64), .inr (5, [.ref (ad 8), .ref (ad 65), .ref (ad 66), .ref (ad 67), .int (awi 10), .int (aho 10)])),
  ((ad 65), .inl (cyI, 5, .inl (awh 10))),
  ((ad 66), .inl (cyI, 5, .inl (alf 10))),
  ((ad 67), .inl (cyI, 5, .inl (aco 10))),
  ((ad 68), .inr (5, [.ref (ad 8), .ref (ad 69), .ref (ad 70), .ref (ad 71), .int (awi 11), .int (aho 11)])),
  ((ad 69), .inl (cyI, 5, .inl (awh 11))),
  ((ad 70), .inl (cyI, 5, .inl (alf 11))),
  ((ad 71), .inl (cyI, 5, .inl (aco 11))),
  ((ad 72), .inr (5, [.ref (ad 8), .ref (ad 73), .ref (ad 74), .ref (ad 75), .int (awi 12), .int (aho 12)])),
  ((ad 73), .inl (cyI, 5, .inl (awh 12))),
  ((ad 74), .inl (cyI, 5, .inl (alf 12))),
  ((ad 75), .inl (cyI, 5, .inl (aco 12))),
  ((ad 76), .inr (5, [.ref (ad 8), .ref (ad 77), .ref (ad 78), .ref (ad 79), .int (awi 13), .int (aho 13)])),
  ((ad 77), .inl (cyI, 5, .inl (awh 13))),
  ((ad 78), .inl (cyI, 5, .inl (alf 13))),
  ((ad 79), .inl (cyI, 5, .inl (aco 13))),
  ((ad 80), .inr (4, [.ref (ad 81), .ref (ad 82), .ref (ad 83), .int ssz])),
  ((ad 81), .inl (cyI, 6, .inl sfl)),
  ((ad 82), .inl (cyI, 6, .inl sco)),
  ((ad 83), .inl (cyI, 6, .inl swt)),
  ((ad 84), .inl (cyW, 2, .inr (.inr (.inr (.inr (upL 0 [(ad 85), (ad 89)] (fun _ => none))))))),
  ((ad 85), .inr (5, [.ref (ad 8), .ref (ad 86), .ref (ad 87), .ref (ad 88), .int (kwi 0), .int (kho 0)])),
  ((ad 86), .inl (cyI, 5, .inl (kwh 0))),
  ((ad 87), .inl (cyI, 5, .inl (klf 0))),
  ((ad 88), .inl (cyI, 5, .inl (kco 0))),
  ((ad 89), .inr (5, [.ref (ad 8), .ref (ad 90), .ref (ad 91), .ref (ad 92), .int (kwi 1), .int (kho 1)])),
  ((ad 90), .inl (cyI, 5, .inl (kwh 1))),
  ((ad 91), .inl (cyI, 5, .inl (klf 1))),
  ((ad 92), .inl (cyI, 5, .inl (kco 1))),
  ((ad 93), .inl (cyZ, 2, .inl kept))]
theorem adrFW {cyI cyZ cyW : ClassId} {ad : Nat → Nat} {letters : (Nat → Int32)} {length : Int32} {stage : Int32} {rco : Int32} {rcl : Int32} {ron : Int32} {rtubs : Int32} {rpegs : Int32} {rpwi : Int32} {rflags : Int32} {rpco : (Nat → Int32)} {rpcl : (Nat → Int32)} {rphr : (Nat → Int32)} {rpho : (Nat → Int32)} {tubs : Int32} {pegs : Int32} {pwi : Int32} {flags : Int32} {pco : (Nat → Int32)} {pcl : (Nat → Int32)} {phr : (Nat → Int32)} {pho : (Nat → Int32)} {wh : (Nat → Int32)} {lf : (Nat → Int32)} {co : (Nat → Int32)} {wi : Int32} {ho : Int32} {twh : (Nat → Int32)} {tlf : (Nat → Int32)} {tco : (Nat → Int32)} {twi : Int32} {tho : Int32} {first : Int32} {size : Int32} {awh : (Nat → Nat → Int32)} {alf : (Nat → Nat → Int32)} {aco : (Nat → Nat → Int32)} {awi : (Nat → Int32)} {aho : (Nat → Int32)} {sfl : (Nat → Int32)} {sco : (Nat → Int32)} {swt : (Nat → Int32)} {ssz : Int32} {kwh : (Nat → Nat → Int32)} {klf : (Nat → Nat → Int32)} {kco : (Nat → Nat → Int32)} {kwi : (Nat → Int32)} {kho : (Nat → Int32)} {kept : (Nat → Int32)} {seed : Int64} : (wFW cyI cyZ cyW ad letters length stage rco rcl ron rtubs rpegs rpwi rflags rpco rpcl rphr rpho tubs pegs pwi flags pco pcl phr pho wh lf co wi ho twh tlf tco twi tho first size awh alf aco awi aho sfl sco swt ssz kwh klf kco kwi kho kept seed).map Prod.fst = [(ad 0), (ad 1), (ad 2), (ad 3), (ad 4), (ad 5), (ad 6), (ad 7), (ad 8), (ad 9), (ad 10), (ad 11), (ad 12), (ad 13), (ad 14), (ad 15), (ad 16), (ad 17), (ad 18), (ad 19), (ad 20), (ad 21), (ad 22), (ad 23), (ad 24), (ad 25), (ad 26), (ad 27), (ad 28), (ad 29), (ad 30), (ad 31), (ad 32), (ad 33), (ad 34), (ad 35), (ad 36), (ad 37), (ad 38), (ad 39), (ad 40), (ad 41), (ad 42), (ad 43), (ad 44), (ad 45), (ad 46), (ad 47), (ad 48), (ad 49), (ad 50), (ad 51), (ad 52), (ad 53), (ad 54), (ad 55), (ad 56), (ad 57), (ad 58), (ad 59), (ad 60), (ad 61), (ad 62), (ad 63), (ad 64), (ad 65), (ad 66), (ad 67), (ad 68), (ad 69), (ad 70), (ad 71), (ad 72), (ad 73), (ad 74), (ad 75), (ad 76), (ad 77), (ad 78), (ad 79), (ad 80), (ad 81), (ad 82), (ad 83), (ad 84), (ad 85), (ad 86), (ad 87), (ad 88), (ad 89), (ad 90), (ad 91), (ad 92), (ad 93)] := rfl
def wMO (cyI cyZ cyW : ClassId) (md : Nat → Nat) (mflags : Int32) (mtubs : Int32) (mpegs : Int32) (mcl : (Nat → Int32)) (mws : (Nat → Int32)) (mho : (Nat → Int32)) (mnow : (Nat → Int32)) (mrd : (Nat → Int32)) (mrh : (Nat → Int32)) (mrf : Int32) (mtx : (Nat → Int32)) (mlen : Int32) (mat : Int32) (mfa : Int32) (mac : Int32) (mnx : Int32) (mrow : (Nat → Int32)) (msn : Int32) (mso : (Nat → Int32)) (msc : (Nat → Int32)) (msw : (Nat → Int32)) (mseed : Int64) (mik : (Nat → Int32)) (mkp : (Nat → Int32)) : va_W := [((md 0), .inr (7, [.int mflags, .int mtubs, .int mpegs, .ref (md 1), .ref (md 2), .ref (md 3), .ref (md 4), .ref (md 5), .ref (md 6), .int mrf, .ref (md 7), .int mlen, .int mat, .int mfa, .int mac, .int mnx, .ref (md 8), .int msn, .ref (md 9), .ref (md 10), .ref (md 11), .long mseed, .ref (md 12), .ref (md 13)])),
  ((md 1), .inl (cyI, 5, .inl mcl)),
  ((md 2), .inl (cyI, 5, .inl mws)),
  ((md 3), .inl (cyI, 5, .inl mho)),
  ((md 4), .inl (cyI, 34, .inl mnow)),
  ((md 5), .inl (cyI, 15, .inl mrd)),
  ((md 6), .inl (cyI, 5, .inl mrh)),
  ((md 7), .inl (cyI, 48, .inl mtx)),
  ((md 8), .inl (cyI, 238, .inl mrow)),
  ((md 9), .inl (cyI, 6, .inl mso)),
  ((md 10), .inl (cyI, 6, .inl msc)),
  ((md 11), .inl (cyI, 6, .inl msw)),
  ((md 12), .inl (cyZ, 2, .inl mik)),
  ((md 13), .inl (cyI, 34, .inl mkp))]
theorem adrMO {cyI cyZ cyW : ClassId} {md : Nat → Nat} {mflags : Int32} {mtubs : Int32} {mpegs : Int32} {mcl : (Nat → Int32)} {mws : (Nat → Int32)} {mho : (Nat → Int32)} {mnow : (Nat → Int32)} {mrd : (Nat → Int32)} {mrh : (Nat → Int32)} {mrf : Int32} {mtx : (Nat → Int32)} {mlen : Int32} {mat : Int32} {mfa : Int32} {mac : Int32} {mnx : Int32} {mrow : (Nat → Int32)} {msn : Int32} {mso : (Nat → Int32)} {msc : (Nat → Int32)} {msw : (Nat → Int32)} {mseed : Int64} {mik : (Nat → Int32)} {mkp : (Nat → Int32)} : (wMO cyI cyZ cyW md mflags mtubs mpegs mcl mws mho mnow mrd mrh mrf mtx mlen mat mfa mac mnx mrow msn mso msc msw mseed mik mkp).map Prod.fst = [(md 0), (md 1), (md 2), (md 3), (md 4), (md 5), (md 6), (md 7), (md 8), (md 9), (md 10), (md 11), (md 12), (md 13)] := rfl
theorem bp_m9 : (Int8.ofInt (-9)).toInt32 = -9 := by decide
theorem bp_m5 : (Int8.ofInt (-5)).toInt32 = -5 := by decide
theorem bp_m4 : (Int8.ofInt (-4)).toInt32 = -4 := by decide
theorem bp_m3 : (Int8.ofInt (-3)).toInt32 = -3 := by decide
theorem bp_m2 : (Int8.ofInt (-2)).toInt32 = -2 := by decide
theorem bp_6 : (Int8.ofInt (6)).toInt32 = 6 := by decide
theorem bp_7 : (Int8.ofInt (7)).toInt32 = 7 := by decide
theorem bp_8 : (Int8.ofInt (8)).toInt32 = 8 := by decide
theorem bp_9 : (Int8.ofInt (9)).toInt32 = 9 := by decide
theorem bp_10 : (Int8.ofInt (10)).toInt32 = 10 := by decide
theorem bp_13 : (Int8.ofInt (13)).toInt32 = 13 := by decide
theorem bp_14 : (Int8.ofInt (14)).toInt32 = 14 := by decide
theorem bp_15 : (Int8.ofInt (15)).toInt32 = 15 := by decide
theorem bp_16 : (Int8.ofInt (16)).toInt32 = 16 := by decide
theorem bp_17 : (Int8.ofInt (17)).toInt32 = 17 := by decide
theorem bp_22 : (Int8.ofInt (22)).toInt32 = 22 := by decide
theorem bp_30 : (Int8.ofInt (30)).toInt32 = 30 := by decide
theorem bp_31 : (Int8.ofInt (31)).toInt32 = 31 := by decide
theorem bp_32 : (Int8.ofInt (32)).toInt32 = 32 := by decide
theorem bp_33 : (Int8.ofInt (33)).toInt32 = 33 := by decide
theorem bp_40 : (Int8.ofInt (40)).toInt32 = 40 := by decide
theorem bp_41 : (Int8.ofInt (41)).toInt32 = 41 := by decide
theorem bp_48 : (Int8.ofInt (48)).toInt32 = 48 := by decide
theorem bp_63 : (Int8.ofInt (63)).toInt32 = 63 := by decide
theorem bp_70 : (Int8.ofInt (70)).toInt32 = 70 := by decide
theorem bp_72 : (Int8.ofInt (72)).toInt32 = 72 := by decide
theorem bp_85 : (Int8.ofInt (85)).toInt32 = 85 := by decide
theorem bp_97 : (Int8.ofInt (97)).toInt32 = 97 := by decide
theorem bp_100 : (Int8.ofInt (100)).toInt32 = 100 := by decide
theorem ic_m1 : Int32.ofInt (-1) = -1 := by decide
theorem ic_0 : Int32.ofInt (0) = 0 := by decide
theorem ic_1 : Int32.ofInt (1) = 1 := by decide
theorem ic_2 : Int32.ofInt (2) = 2 := by decide
theorem ic_3 : Int32.ofInt (3) = 3 := by decide
theorem ic_4 : Int32.ofInt (4) = 4 := by decide
theorem ic_5 : Int32.ofInt (5) = 5 := by decide
theorem lc_0 : Int64.ofNat ((0 : Fin 2) : Nat) = 0 := by decide
theorem lc_1 : Int64.ofNat ((1 : Fin 2) : Nat) = 1 := by decide
theorem sp_255 : (Int16.ofInt (255)).toInt32 = 255 := by decide
