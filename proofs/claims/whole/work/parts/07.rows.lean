/-! MY MACHINE ROWS: one judgement Mx (a frame at pc, with the world ws, the locals lv, the stack st, comes to Q), and a row an instruction -/
def b2i : Bool → Int32
  | true => 1
  | false => 0
theorem b2i_nar (b : Bool) : narrow .boolean (.int (b2i b)) = .int (b2i b) := by cases b <;> rfl
theorem b2i_0 {b : Bool} (h : b2i b = 0) : b = false := by cases b <;> first | rfl | (exact absurd h (by decide))
theorem b2i_1 {b : Bool} (h : ¬ b2i b = 0) : b = true := by cases b <;> first | rfl | (exact absurd rfl h)
def inb (i : Int32) (n : Nat) : Bool := !(decide (i < 0) || decide (n ≤ i.toNatClampNeg))
theorem inb_vp {i : Int32} {n : Nat} (h : inb i n = true) : vp_in i n := by
  intro h2
  rcases h2 with h2 | h2 <;> simp [inb, h2] at h
theorem ob_if {α : Type} {b : Bool} {x : Option α} {r : α} (h : (if b = true then x else none) = some r) : b = true ∧ x = some r := by
  by_cases hb : b = true
  · exact ⟨hb, by rw [if_pos hb] at h; exact h⟩
  · rw [if_neg hb] at h; cases h
theorem ob_ne {α : Type} {y : Int32} {x : Option α} {r : α} (h : (if y = 0 then none else x) = some r) : ¬ y = 0 ∧ x = some r := by
  by_cases hb : y = 0
  · rw [if_pos hb] at h; cases h
  · exact ⟨hb, by rw [if_neg hb] at h; exact h⟩
theorem ob_t {α : Type} {c : Prop} {i : Decidable c} {x y : Option α} {r : α} (h : (if c then x else y) = some r) (hc : c) : x = some r := by rw [if_pos hc] at h; exact h
theorem ob_f {α : Type} {c : Prop} {i : Decidable c} {x y : Option α} {r : α} (h : (if c then x else y) = some r) (hc : ¬ c) : y = some r := by rw [if_neg hc] at h; exact h
theorem ob_bf {α : Type} {b : Bool} {x y : Option α} {r : α} (h : (if b = true then x else y) = some r) (hc : b = false) : y = some r := by rw [if_neg (by rw [hc]; decide)] at h; exact h
theorem ob_bind {α β : Type} {x : Option α} {f : α → Option β} {r : β} (h : x.bind f = some r) : ∃ u, x = some u ∧ f u = some r := by
  cases x with
  | none => cases h
  | some u => exact ⟨u, rfl, h⟩
theorem ts_out {x : Int32} (lo hi : Nat) (hh : hi < 2 ^ 31) (h : ∀ k, lo ≤ k → k ≤ hi → ¬ x = nI k) : x.toInt < (lo : Int) ∨ (hi : Int) < x.toInt := by
  rcases Int.lt_or_le x.toInt lo with h1 | h1
  · exact Or.inl h1
  rcases Int.lt_or_le hi x.toInt with h2 | h2
  · exact Or.inr h2
  exfalso
  refine h x.toInt.toNat (by omega) (by omega) ?_
  apply Int32.toInt_inj.mp
  rw [nI_toInt (by omega)]
  omega
/-! what is read and never written: two static tables, and the words on nest mates -/
def wetT (j : Nat) : Int32 := [4, 6, 2, 4].getD j 0
def ordT (j : Nat) : Int32 := [1, 1, 2, 6, 24, 120].getD j 0
def ZF (zW zO : Nat) (A : Nat → Prop) (U : State) (H : Heap) : Prop := va_Z "FlagWash$Wash" "WET" "[I" (.ref zW) A U H ∧ va_T .int zW 4 (fun j => .int (wetT j)) A U H ∧ va_Z "FlagWash$Shares" "ORDERS" "[I" (.ref zO) A U H ∧ va_T .int zO 6 (fun j => .int (ordT j)) A U H
theorem ZF.moved {zW zO : Nat} {A : Nat → Prop} {u U : State} {H : Heap} (hvm : u.vm.Alike U.vm) (h : ZF zW zO A u H) : ZF zW zO A U H := ⟨h.1.moved hvm, h.2.1.moved hvm, h.2.2.1.moved hvm, h.2.2.2.moved hvm⟩
theorem ZF.kept {zW zO : Nat} {A : Nat → Prop} {U : State} {H H1 : Heap} (hq : ∀ a : Nat, a < H.size → ¬ A a → H1[a]? = H[a]?) (h : ZF zW zO A U H) : ZF zW zO A U H1 := ⟨h.1.kept hq, h.2.1.kept hq, h.2.2.1.kept hq, h.2.2.2.kept hq⟩
theorem ZF.narrow {zW zO : Nat} {A B : Nat → Prop} {U : State} {H : Heap} (hq : ∀ q, B q → A q) (h : ZF zW zO A U H) : ZF zW zO B U H := ⟨h.1.narrow hq, h.2.1.narrow hq, h.2.2.1.narrow hq, h.2.2.2.narrow hq⟩
def nestL : List (String × Nat × MethodName × String) := [(RX9, 19, yX5_init, RX9), (RX9, 26, yX4_init, RX9), (RX9, 61, yX7_init, RX9), (RX2, 45, yX9_isWithin, RX9), (RX2, 58, yX9_isFewer, RX9), (RX5, 11, yX4_init, RX9), (RX5, 67, yX9_areColours, RX9), (RX6, 21, yX9_isWithin, RX9), (RX7, 41, yX9_isWithin, RX9)]
def NF (U : State) : Prop := (∀ w ∈ nestL, va_Nw (.methodLinkNest w.1 w.2.1 w.2.2.1 w.2.2.2) U) ∧ va_AO "FlagWash$Wash" U
theorem NF.warm {s U : State} (hW : s.WarmedH U.vm) (h : NF s) : NF U := ⟨fun w hw => va_Nw.warmM hW (h.1 w hw), h.2.moved hW.alike⟩
theorem NF.same {s U : State} (hW : s.vm.Alike U.vm) (hE : s.vm = U.vm) (h : NF s) : NF U := ⟨fun w hw => va_Nw.same rfl hE (h.1 w hw), h.2.moved hW⟩
/-! contracts -/
def wPre (D : va_G) (tys : List (ClassId × FieldType)) (zW zO : Nat) (W0 : va_W) (sz : Nat) (U : State) : Prop := U.heap.size = sz ∧ va_P D vwCl W0 U.heap ∧ va_K D vwCl tys U ∧ va_D (fun _ => True) W0 ∧ ZF zW zO (va_A W0 sz) U U.heap ∧ NF U
def wPost (D : va_G) (tys : List (ClassId × FieldType)) (A : Nat → Prop) (W1 : va_W) (t : State) : Prop := va_P D vwCl W1 t.heap ∧ va_K D vwCl tys t ∧ va_D A W1
abbrev QI (D : va_G) (tys : List (ClassId × FieldType)) (A : Nat → Prop) (W1 : va_W) (r : Int32) : Array Value → State → Outcome → State → Prop := va_Qi (fun (x : Int32) (_ : Unit) => x = r) (fun _ => wPost D tys A W1) A
abbrev QL (D : va_G) (tys : List (ClassId × FieldType)) (A : Nat → Prop) (W1 : va_W) (r : Int64) : Array Value → State → Outcome → State → Prop := va_Ql (fun (x : Int64) (_ : Unit) => x = r) (fun _ => wPost D tys A W1) A
abbrev QV (D : va_G) (tys : List (ClassId × FieldType)) (A : Nat → Prop) (W1 : va_W) : Array Value → State → Outcome → State → Prop := va_Qv (fun (_ : Unit) => True) (fun _ => wPost D tys A W1) A
abbrev QC (D : va_G) (tys : List (ClassId × FieldType)) (A : Nat → Prop) (W1 : (Nat → Nat) → va_W) : Array Value → State → Outcome → State → Prop := va_Qv (fun (_ : Nat → Nat) => True) (fun u => wPost D tys A (W1 u)) A
def KI (l : Launch) (y : MethodName) (wy : List Cond) (rm : Room) (D : va_G) (tys : List (ClassId × FieldType)) (zW zO : Nat) (av : List Value) (W0 W1 : va_W) (r : Int32) : Prop := ∀ sz, Met l y wy rm (va_Pc av (wPre D tys zW zO W0 sz)) (QI D tys (va_A W0 sz) W1 r) 0 0 (va_A W0 sz)
def KL (l : Launch) (y : MethodName) (wy : List Cond) (rm : Room) (D : va_G) (tys : List (ClassId × FieldType)) (zW zO : Nat) (av : List Value) (W0 W1 : va_W) (r : Int64) : Prop := ∀ sz, Met l y wy rm (va_Pc av (wPre D tys zW zO W0 sz)) (QL D tys (va_A W0 sz) W1 r) 0 0 (va_A W0 sz)
def KV (l : Launch) (y : MethodName) (wy : List Cond) (rm : Room) (D : va_G) (tys : List (ClassId × FieldType)) (zW zO : Nat) (av : List Value) (W0 W1 : va_W) : Prop := ∀ sz, Met l y wy rm (va_Pc av (wPre D tys zW zO W0 sz)) (QV D tys (va_A W0 sz) W1) 0 0 (va_A W0 sz)
def KC (l : Launch) (y : MethodName) (wy : List Cond) (rm : Room) (D : va_G) (tys : List (ClassId × FieldType)) (zW zO : Nat) (av : List Value) (W0 : va_W) (W1 : (Nat → Nat) → va_W) (mc ms : Nat) : Prop := ∀ sz, Met l y wy rm (va_Pc av (wPre D tys zW zO W0 sz)) (QC D tys (va_A W0 sz) W1) mc ms (va_A W0 sz)
theorem wPre.blind {D : va_G} {tys : List (ClassId × FieldType)} {zW zO : Nat} {W0 : va_W} {sz : Nat} {av : List Value} : FrameBlind (va_Pc av (wPre D tys zW zO W0 sz)) := by
  intro a U g mk q
  obtain ⟨q0, q1, q2, q3, q4, q5, q6⟩ := q
  exact ⟨q0, q1, q2, va_K.moved (u := U) (U := U.calling g mk a) (Vm.Alike.refl U.vm) q3, q4, ZF.moved (u := U) (U := U.calling g mk a) (Vm.Alike.refl U.vm) q5, NF.same (s := U) (U := U.calling g mk a) (Vm.Alike.refl U.vm) rfl q6⟩
def Cx (p : Program) (s : State) (m : MethodId) (args : Array Value) (meth : Method) (c : Code) (cc : ByteArray) (own nm : String) (Ts : List Cond) (ret : Option FieldType) (nL : Nat) (D : va_G) (tys : List (ClassId × FieldType)) (zW zO : Nat) (A : Nat → Prop) : Prop :=
  p.tables.exec = Jvm.exec ∧ c.code = cc ∧ meth.sig.returnType = ret ∧ c.maxLocals = nL ∧ s.vm.findClass own = some m.cls ∧ (∀ w ∈ Ts, w.before args s = true) ∧ meth.locks = false ∧ (∀ q, s.heap.size ≤ q → A q) ∧ va_K D vwCl tys s ∧ ZF zW zO A s s.heap ∧ NF s ∧ meth.name = nm
def Mx (p : Program) (l : Launch) (e : Env) (R : Room) (s : State) (m : MethodId) (args : Array Value) (below : List Frame) (meth : Method) (c : Code) (Q : State → Prop) (nL : Nat) (D : va_G) (A : Nat → Prop) (cells slots : Nat) (ws : va_W) (pc : Nat) (lv : List (Nat × Value)) (st : List Value) : Prop :=
  ∀ (H : Heap) (locs : List Loc) (ls : Array Slot), va_P D vwCl ws H → va_D A ws → va_S A s.heap H locs → lv_has ls nL lv → W p l e R s m args below meth c H locs cells slots Q (F0 m pc ls st)
section MyRows
variable {p : Program} {l : Launch} {e : Env} {R : Room} {s : State} {m : MethodId} {args : Array Value} {below : List Frame} {meth : Method} {c : Code} {Q : State → Prop} {cc : ByteArray} {own nm : String} {Ts : List Cond} {ret : Option FieldType} {nL : Nat} {D : va_G} {tys : List (ClassId × FieldType)} {zW zO : Nat} {A : Nat → Prop} {cells slots : Nat} {ws ws1 : va_W} {pc : Nat} {lv lv' : List (Nat × Value)} {rest st : List Value}
theorem r_iconst (C : Cx p s m args meth c cc own nm Ts ret nL D tys zW zO A) {n : Int} {v : Int32} (d : decode cc pc = .ok (.iconst n, 1)) (hv : Int32.ofInt n = v) (k : Mx p l e R s m args below meth c Q nL D A cells slots ws (pc + 1) lv (.int v :: rest)) : Mx p l e R s m args below meth c Q nL D A cells slots ws pc lv (rest) := by
  intro H locs ls hP hD hS hl
  exact lv_iconst C.1 C.2.1 d hv (k H locs ls hP hD hS hl)
theorem r_bipush (C : Cx p s m args meth c cc own nm Ts ret nL D tys zW zO A) {n : Int} {v : Int32} (d : decode cc pc = .ok (.bipush n, 2)) (hv : (Int8.ofInt n).toInt32 = v) (k : Mx p l e R s m args below meth c Q nL D A cells slots ws (pc + 2) lv (.int v :: rest)) : Mx p l e R s m args below meth c Q nL D A cells slots ws pc lv (rest) := by
  intro H locs ls hP hD hS hl
  exact lv_bipush C.1 C.2.1 d hv (k H locs ls hP hD hS hl)
theorem r_sipush (C : Cx p s m args meth c cc own nm Ts ret nL D tys zW zO A) {n : Int} {v : Int32} (d : decode cc pc = .ok (.sipush n, 3)) (hv : (Int16.ofInt n).toInt32 = v) (k : Mx p l e R s m args below meth c Q nL D A cells slots ws (pc + 3) lv (.int v :: rest)) : Mx p l e R s m args below meth c Q nL D A cells slots ws pc lv (rest) := by
  intro H locs ls hP hD hS hl
  exact lv_sipush C.1 C.2.1 d hv (k H locs ls hP hD hS hl)
theorem r_lconst (C : Cx p s m args meth c cc own nm Ts ret nL D tys zW zO A) {n : Fin 2} {v : Int64} (d : decode cc pc = .ok (.lconst n, 1)) (hv : Int64.ofNat (n : Nat) = v) (k : Mx p l e R s m args below meth c Q nL D A cells slots ws (pc + 1) lv (.long v :: rest)) : Mx p l e R s m args below meth c Q nL D A cells slots ws pc lv (rest) := by
  intro H locs ls hP hD hS hl
  exact lv_lconst C.1 C.2.1 d hv (k H locs ls hP hD hS hl)
theorem r_ldc (C : Cx p s m args meth c cc own nm Ts ret nL D tys zW zO A) {index : Nat} {v : Int32} (hw : Jvm.Cond.constant own index v ∈ Ts) (d : decode cc pc = .ok (.ldc index, 2)) (k : Mx p l e R s m args below meth c Q nL D A cells slots ws (pc + 2) lv (.int v :: rest)) : Mx p l e R s m args below meth c Q nL D A cells slots ws pc lv (rest) := by
  intro H locs ls hP hD hS hl
  exact lv_ldc C.1 C.2.1 C.2.2.2.2.1 (C.2.2.2.2.2.1 _ hw) d (k H locs ls hP hD hS hl)
theorem r_ldc_w (C : Cx p s m args meth c cc own nm Ts ret nL D tys zW zO A) {index : Nat} {v : Int32} (hw : Jvm.Cond.constant own index v ∈ Ts) (d : decode cc pc = .ok (.ldc_w index, 3)) (k : Mx p l e R s m args below meth c Q nL D A cells slots ws (pc + 3) lv (.int v :: rest)) : Mx p l e R s m args below meth c Q nL D A cells slots ws pc lv (rest) := by
  intro H locs ls hP hD hS hl
  exact lv_ldcw C.1 C.2.1 C.2.2.2.2.1 (C.2.2.2.2.2.1 _ hw) d (k H locs ls hP hD hS hl)
theorem r_ldc2 (C : Cx p s m args meth c cc own nm Ts ret nL D tys zW zO A) {index : Nat} {v : Int64} (hw : Jvm.Cond.constantLong own index v ∈ Ts) (d : decode cc pc = .ok (.ldc2_w index, 3)) (k : Mx p l e R s m args below meth c Q nL D A cells slots ws (pc + 3) lv (.long v :: rest)) : Mx p l e R s m args below meth c Q nL D A cells slots ws pc lv (rest) := by
  intro H locs ls hP hD hS hl
  exact lv_ldc2 C.1 C.2.1 C.2.2.2.2.1 (C.2.2.2.2.2.1 _ hw) d (k H locs ls hP hD hS hl)
theorem r_iload_n (C : Cx p s m args meth c cc own nm Ts ret nL D tys zW zO A) {kk : Fin 4} {i : Nat} {x : Int32} (d : decode cc pc = .ok (.iload_n kk, 1)) (q : Nat) (hi : (kk : Nat) = i) (h : lv[q]? = some (i, .int x)) (k : Mx p l e R s m args below meth c Q nL D A cells slots ws (pc + 1) lv (.int x :: rest)) : Mx p l e R s m args below meth c Q nL D A cells slots ws pc lv (rest) := by
  intro H locs ls hP hD hS hl
  exact lv_iload_n C.1 C.2.1 d hi (lv_at hl q h) (k H locs ls hP hD hS hl)
theorem r_iload (C : Cx p s m args meth c cc own nm Ts ret nL D tys zW zO A) {i : Nat} {x : Int32} (d : decode cc pc = .ok (.iload i, 2)) (q : Nat) (h : lv[q]? = some (i, .int x)) (k : Mx p l e R s m args below meth c Q nL D A cells slots ws (pc + 2) lv (.int x :: rest)) : Mx p l e R s m args below meth c Q nL D A cells slots ws pc lv (rest) := by
  intro H locs ls hP hD hS hl
  exact lv_iload C.1 C.2.1 d (lv_at hl q h) (k H locs ls hP hD hS hl)
theorem r_lload_n (C : Cx p s m args meth c cc own nm Ts ret nL D tys zW zO A) {kk : Fin 4} {i : Nat} {x : Int64} (d : decode cc pc = .ok (.lload_n kk, 1)) (q : Nat) (hi : (kk : Nat) = i) (h : lv[q]? = some (i, .long x)) (k : Mx p l e R s m args below meth c Q nL D A cells slots ws (pc + 1) lv (.long x :: rest)) : Mx p l e R s m args below meth c Q nL D A cells slots ws pc lv (rest) := by
  intro H locs ls hP hD hS hl
  exact lv_lload_n C.1 C.2.1 d hi (lv_at hl q h) (k H locs ls hP hD hS hl)
theorem r_lload (C : Cx p s m args meth c cc own nm Ts ret nL D tys zW zO A) {i : Nat} {x : Int64} (d : decode cc pc = .ok (.lload i, 2)) (q : Nat) (h : lv[q]? = some (i, .long x)) (k : Mx p l e R s m args below meth c Q nL D A cells slots ws (pc + 2) lv (.long x :: rest)) : Mx p l e R s m args below meth c Q nL D A cells slots ws pc lv (rest) := by
  intro H locs ls hP hD hS hl
  exact lv_lload C.1 C.2.1 d (lv_at hl q h) (k H locs ls hP hD hS hl)
theorem r_aload_n (C : Cx p s m args meth c cc own nm Ts ret nL D tys zW zO A) {kk : Fin 4} {i : Nat} {x : Nat} (d : decode cc pc = .ok (.aload_n kk, 1)) (q : Nat) (hi : (kk : Nat) = i) (h : lv[q]? = some (i, .ref x)) (k : Mx p l e R s m args below meth c Q nL D A cells slots ws (pc + 1) lv (.ref x :: rest)) : Mx p l e R s m args below meth c Q nL D A cells slots ws pc lv (rest) := by
  intro H locs ls hP hD hS hl
  exact lv_aload_n C.1 C.2.1 d hi (lv_at hl q h) (k H locs ls hP hD hS hl)
theorem r_aload (C : Cx p s m args meth c cc own nm Ts ret nL D tys zW zO A) {i : Nat} {x : Nat} (d : decode cc pc = .ok (.aload i, 2)) (q : Nat) (h : lv[q]? = some (i, .ref x)) (k : Mx p l e R s m args below meth c Q nL D A cells slots ws (pc + 2) lv (.ref x :: rest)) : Mx p l e R s m args below meth c Q nL D A cells slots ws pc lv (rest) := by
  intro H locs ls hP hD hS hl
  exact lv_aload C.1 C.2.1 d (lv_at hl q h) (k H locs ls hP hD hS hl)
theorem r_istore_n (C : Cx p s m args meth c cc own nm Ts ret nL D tys zW zO A) {kk : Fin 4} {i : Nat} {x : Int32} (d : decode cc pc = .ok (.istore_n kk, 1)) (hi : (kk : Nat) = i) (hn : i < nL) (hl2 : (i, Value.int x) :: lv.filter (fun q => !(q.1 == i) && !(q.1 + 1 == i && q.2.category == 2)) = lv') (k : Mx p l e R s m args below meth c Q nL D A cells slots ws (pc + 1) lv' (rest)) : Mx p l e R s m args below meth c Q nL D A cells slots ws pc lv (.int x :: rest) := by
  intro H locs ls hP hD hS hl
  exact lv_istore_n C.1 C.2.1 d hi hl hn hl2 (fun ls hl => k H locs ls hP hD hS hl)
theorem r_istore (C : Cx p s m args meth c cc own nm Ts ret nL D tys zW zO A) {i : Nat} {x : Int32} (d : decode cc pc = .ok (.istore i, 2)) (hn : i < nL) (hl2 : (i, Value.int x) :: lv.filter (fun q => !(q.1 == i) && !(q.1 + 1 == i && q.2.category == 2)) = lv') (k : Mx p l e R s m args below meth c Q nL D A cells slots ws (pc + 2) lv' (rest)) : Mx p l e R s m args below meth c Q nL D A cells slots ws pc lv (.int x :: rest) := by
  intro H locs ls hP hD hS hl
  exact lv_istore C.1 C.2.1 d hl hn hl2 (fun ls hl => k H locs ls hP hD hS hl)
theorem r_lstore_n (C : Cx p s m args meth c cc own nm Ts ret nL D tys zW zO A) {kk : Fin 4} {i : Nat} {x : Int64} (d : decode cc pc = .ok (.lstore_n kk, 1)) (hi : (kk : Nat) = i) (hn : i + 1 < nL) (hl2 : (i, Value.long x) :: lv.filter (fun q => !(q.1 == i) && (!(q.1 == i + 1) && !(q.1 + 1 == i && q.2.category == 2))) = lv') (k : Mx p l e R s m args below meth c Q nL D A cells slots ws (pc + 1) lv' (rest)) : Mx p l e R s m args below meth c Q nL D A cells slots ws pc lv (.long x :: rest) := by
  intro H locs ls hP hD hS hl
  exact lv_lstore_n C.1 C.2.1 d hi hl hn hl2 (fun ls hl => k H locs ls hP hD hS hl)
theorem r_lstore (C : Cx p s m args meth c cc own nm Ts ret nL D tys zW zO A) {i : Nat} {x : Int64} (d : decode cc pc = .ok (.lstore i, 2)) (hn : i + 1 < nL) (hl2 : (i, Value.long x) :: lv.filter (fun q => !(q.1 == i) && (!(q.1 == i + 1) && !(q.1 + 1 == i && q.2.category == 2))) = lv') (k : Mx p l e R s m args below meth c Q nL D A cells slots ws (pc + 2) lv' (rest)) : Mx p l e R s m args below meth c Q nL D A cells slots ws pc lv (.long x :: rest) := by
  intro H locs ls hP hD hS hl
  exact lv_lstore C.1 C.2.1 d hl hn hl2 (fun ls hl => k H locs ls hP hD hS hl)
theorem r_astore_n (C : Cx p s m args meth c cc own nm Ts ret nL D tys zW zO A) {kk : Fin 4} {i : Nat} {x : Nat} (d : decode cc pc = .ok (.astore_n kk, 1)) (hi : (kk : Nat) = i) (hn : i < nL) (hl2 : (i, Value.ref x) :: lv.filter (fun q => !(q.1 == i) && !(q.1 + 1 == i && q.2.category == 2)) = lv') (k : Mx p l e R s m args below meth c Q nL D A cells slots ws (pc + 1) lv' (rest)) : Mx p l e R s m args below meth c Q nL D A cells slots ws pc lv (.ref x :: rest) := by
  intro H locs ls hP hD hS hl
  exact lv_astore_n C.1 C.2.1 d hi hl hn hl2 (fun ls hl => k H locs ls hP hD hS hl)
theorem r_astore (C : Cx p s m args meth c cc own nm Ts ret nL D tys zW zO A) {i : Nat} {x : Nat} (d : decode cc pc = .ok (.astore i, 2)) (hn : i < nL) (hl2 : (i, Value.ref x) :: lv.filter (fun q => !(q.1 == i) && !(q.1 + 1 == i && q.2.category == 2)) = lv') (k : Mx p l e R s m args below meth c Q nL D A cells slots ws (pc + 2) lv' (rest)) : Mx p l e R s m args below meth c Q nL D A cells slots ws pc lv (.ref x :: rest) := by
  intro H locs ls hP hD hS hl
  exact lv_astore C.1 C.2.1 d hl hn hl2 (fun ls hl => k H locs ls hP hD hS hl)
theorem r_iinc (C : Cx p s m args meth c cc own nm Ts ret nL D tys zW zO A) {i : Nat} {n : Int} {x v : Int32} (d : decode cc pc = .ok (.iinc i n, 3)) (q : Nat) (h : lv[q]? = some (i, .int x)) (hv : Int32.ofInt n = v) (hn : i < nL) (hl2 : (i, Value.int (x + v)) :: lv.filter (fun q => !(q.1 == i) && !(q.1 + 1 == i && q.2.category == 2)) = lv') (k : Mx p l e R s m args below meth c Q nL D A cells slots ws (pc + 3) lv' (rest)) : Mx p l e R s m args below meth c Q nL D A cells slots ws pc lv (rest) := by
  intro H locs ls hP hD hS hl
  exact lv_iinc C.1 C.2.1 d hl h (by rw [hv]) hn hl2 (fun ls hl => k H locs ls hP hD hS hl)
theorem r_iadd (C : Cx p s m args meth c cc own nm Ts ret nL D tys zW zO A) {x y : Int32} (d : decode cc pc = .ok (.iadd, 1)) (k : Mx p l e R s m args below meth c Q nL D A cells slots ws (pc + 1) lv (.int (x + y) :: rest)) : Mx p l e R s m args below meth c Q nL D A cells slots ws pc lv (.int y :: .int x :: rest) := by
  intro H locs ls hP hD hS hl
  exact lv_iadd C.1 C.2.1 d (k H locs ls hP hD hS hl)
theorem r_isub (C : Cx p s m args meth c cc own nm Ts ret nL D tys zW zO A) {x y : Int32} (d : decode cc pc = .ok (.isub, 1)) (k : Mx p l e R s m args below meth c Q nL D A cells slots ws (pc + 1) lv (.int (x - y) :: rest)) : Mx p l e R s m args below meth c Q nL D A cells slots ws pc lv (.int y :: .int x :: rest) := by
  intro H locs ls hP hD hS hl
  exact lv_isub C.1 C.2.1 d (k H locs ls hP hD hS hl)
theorem r_imul (C : Cx p s m args meth c cc own nm Ts ret nL D tys zW zO A) {x y : Int32} (d : decode cc pc = .ok (.imul, 1)) (k : Mx p l e R s m args below meth c Q nL D A cells slots ws (pc + 1) lv (.int (x * y) :: rest)) : Mx p l e R s m args below meth c Q nL D A cells slots ws pc lv (.int y :: .int x :: rest) := by
  intro H locs ls hP hD hS hl
  exact lv_imul C.1 C.2.1 d (k H locs ls hP hD hS hl)
theorem r_iand (C : Cx p s m args meth c cc own nm Ts ret nL D tys zW zO A) {x y : Int32} (d : decode cc pc = .ok (.iand, 1)) (k : Mx p l e R s m args below meth c Q nL D A cells slots ws (pc + 1) lv (.int (x &&& y) :: rest)) : Mx p l e R s m args below meth c Q nL D A cells slots ws pc lv (.int y :: .int x :: rest) := by
  intro H locs ls hP hD hS hl
  exact lv_iand C.1 C.2.1 d (k H locs ls hP hD hS hl)
theorem r_ior (C : Cx p s m args meth c cc own nm Ts ret nL D tys zW zO A) {x y : Int32} (d : decode cc pc = .ok (.ior, 1)) (k : Mx p l e R s m args below meth c Q nL D A cells slots ws (pc + 1) lv (.int (x ||| y) :: rest)) : Mx p l e R s m args below meth c Q nL D A cells slots ws pc lv (.int y :: .int x :: rest) := by
  intro H locs ls hP hD hS hl
  exact lv_ior C.1 C.2.1 d (k H locs ls hP hD hS hl)
theorem r_ixor (C : Cx p s m args meth c cc own nm Ts ret nL D tys zW zO A) {x y : Int32} (d : decode cc pc = .ok (.ixor, 1)) (k : Mx p l e R s m args below meth c Q nL D A cells slots ws (pc + 1) lv (.int (x ^^^ y) :: rest)) : Mx p l e R s m args below meth c Q nL D A cells slots ws pc lv (.int y :: .int x :: rest) := by
  intro H locs ls hP hD hS hl
  exact lv_ixor C.1 C.2.1 d (k H locs ls hP hD hS hl)
theorem r_ishl (C : Cx p s m args meth c cc own nm Ts ret nL D tys zW zO A) {x y : Int32} (d : decode cc pc = .ok (.ishl, 1)) (k : Mx p l e R s m args below meth c Q nL D A cells slots ws (pc + 1) lv (.int (x <<< (y &&& 31)) :: rest)) : Mx p l e R s m args below meth c Q nL D A cells slots ws pc lv (.int y :: .int x :: rest) := by
  intro H locs ls hP hD hS hl
  exact lv_ishl C.1 C.2.1 d (k H locs ls hP hD hS hl)
theorem r_ishr (C : Cx p s m args meth c cc own nm Ts ret nL D tys zW zO A) {x y : Int32} (d : decode cc pc = .ok (.ishr, 1)) (k : Mx p l e R s m args below meth c Q nL D A cells slots ws (pc + 1) lv (.int (x >>> (y &&& 31)) :: rest)) : Mx p l e R s m args below meth c Q nL D A cells slots ws pc lv (.int y :: .int x :: rest) := by
  intro H locs ls hP hD hS hl
  exact lv_ishr C.1 C.2.1 d (k H locs ls hP hD hS hl)
theorem r_iushr (C : Cx p s m args meth c cc own nm Ts ret nL D tys zW zO A) {x y : Int32} (d : decode cc pc = .ok (.iushr, 1)) (k : Mx p l e R s m args below meth c Q nL D A cells slots ws (pc + 1) lv (.int ((x.toUInt32 >>> (y.toUInt32 &&& Int32.toUInt32 31)).toInt32) :: rest)) : Mx p l e R s m args below meth c Q nL D A cells slots ws pc lv (.int y :: .int x :: rest) := by
  intro H locs ls hP hD hS hl
  exact lv_iushr C.1 C.2.1 d rfl (k H locs ls hP hD hS hl)
theorem r_idiv (C : Cx p s m args meth c cc own nm Ts ret nL D tys zW zO A) {x y : Int32} (d : decode cc pc = .ok (.idiv, 1)) (hne : ¬ y = 0) (k : Mx p l e R s m args below meth c Q nL D A cells slots ws (pc + 1) lv (.int (x / y) :: rest)) : Mx p l e R s m args below meth c Q nL D A cells slots ws pc lv (.int y :: .int x :: rest) := by
  intro H locs ls hP hD hS hl
  exact lv_idiv C.1 C.2.1 d hne (k H locs ls hP hD hS hl)
theorem r_irem (C : Cx p s m args meth c cc own nm Ts ret nL D tys zW zO A) {x y : Int32} (d : decode cc pc = .ok (.irem, 1)) (hne : ¬ y = 0) (k : Mx p l e R s m args below meth c Q nL D A cells slots ws (pc + 1) lv (.int (x - x / y * y) :: rest)) : Mx p l e R s m args below meth c Q nL D A cells slots ws pc lv (.int y :: .int x :: rest) := by
  intro H locs ls hP hD hS hl
  exact lv_irem C.1 C.2.1 d hne (k H locs ls hP hD hS hl)
theorem r_ineg (C : Cx p s m args meth c cc own nm Ts ret nL D tys zW zO A) {x : Int32} (d : decode cc pc = .ok (.ineg, 1)) (k : Mx p l e R s m args below meth c Q nL D A cells slots ws (pc + 1) lv (.int (-x) :: rest)) : Mx p l e R s m args below meth c Q nL D A cells slots ws pc lv (.int x :: rest) := by
  intro H locs ls hP hD hS hl
  exact lv_ineg C.1 C.2.1 d (k H locs ls hP hD hS hl)
theorem r_ladd (C : Cx p s m args meth c cc own nm Ts ret nL D tys zW zO A) {x y : Int64} (d : decode cc pc = .ok (.ladd, 1)) (k : Mx p l e R s m args below meth c Q nL D A cells slots ws (pc + 1) lv (.long (x + y) :: rest)) : Mx p l e R s m args below meth c Q nL D A cells slots ws pc lv (.long y :: .long x :: rest) := by
  intro H locs ls hP hD hS hl
  exact lv_ladd C.1 C.2.1 d (k H locs ls hP hD hS hl)
theorem r_lsub (C : Cx p s m args meth c cc own nm Ts ret nL D tys zW zO A) {x y : Int64} (d : decode cc pc = .ok (.lsub, 1)) (k : Mx p l e R s m args below meth c Q nL D A cells slots ws (pc + 1) lv (.long (x - y) :: rest)) : Mx p l e R s m args below meth c Q nL D A cells slots ws pc lv (.long y :: .long x :: rest) := by
  intro H locs ls hP hD hS hl
  exact lv_lsub C.1 C.2.1 d (k H locs ls hP hD hS hl)
theorem r_lmul (C : Cx p s m args meth c cc own nm Ts ret nL D tys zW zO A) {x y : Int64} (d : decode cc pc = .ok (.lmul, 1)) (k : Mx p l e R s m args below meth c Q nL D A cells slots ws (pc + 1) lv (.long (x * y) :: rest)) : Mx p l e R s m args below meth c Q nL D A cells slots ws pc lv (.long y :: .long x :: rest) := by
  intro H locs ls hP hD hS hl
  exact lv_lmul C.1 C.2.1 d (k H locs ls hP hD hS hl)
theorem r_land (C : Cx p s m args meth c cc own nm Ts ret nL D tys zW zO A) {x y : Int64} (d : decode cc pc = .ok (.land, 1)) (k : Mx p l e R s m args below meth c Q nL D A cells slots ws (pc + 1) lv (.long (x &&& y) :: rest)) : Mx p l e R s m args below meth c Q nL D A cells slots ws pc lv (.long y :: .long x :: rest) := by
  intro H locs ls hP hD hS hl
  exact lv_land C.1 C.2.1 d (k H locs ls hP hD hS hl)
theorem r_lor (C : Cx p s m args meth c cc own nm Ts ret nL D tys zW zO A) {x y : Int64} (d : decode cc pc = .ok (.lor, 1)) (k : Mx p l e R s m args below meth c Q nL D A cells slots ws (pc + 1) lv (.long (x ||| y) :: rest)) : Mx p l e R s m args below meth c Q nL D A cells slots ws pc lv (.long y :: .long x :: rest) := by
  intro H locs ls hP hD hS hl
  exact lv_lor C.1 C.2.1 d (k H locs ls hP hD hS hl)
theorem r_lrem (C : Cx p s m args meth c cc own nm Ts ret nL D tys zW zO A) {x y : Int64} (d : decode cc pc = .ok (.lrem, 1)) (hne : ¬ y = 0) (k : Mx p l e R s m args below meth c Q nL D A cells slots ws (pc + 1) lv (.long (x - x / y * y) :: rest)) : Mx p l e R s m args below meth c Q nL D A cells slots ws pc lv (.long y :: .long x :: rest) := by
  intro H locs ls hP hD hS hl
  exact lv_lrem C.1 C.2.1 d hne (k H locs ls hP hD hS hl)
theorem r_lushr (C : Cx p s m args meth c cc own nm Ts ret nL D tys zW zO A) {x : Int64} {y : Int32} (d : decode cc pc = .ok (.lushr, 1)) (k : Mx p l e R s m args below meth c Q nL D A cells slots ws (pc + 1) lv (.long ((x.toUInt64 >>> (y.toInt64.toUInt64 &&& Int64.toUInt64 63)).toInt64) :: rest)) : Mx p l e R s m args below meth c Q nL D A cells slots ws pc lv (.int y :: .long x :: rest) := by
  intro H locs ls hP hD hS hl
  exact lv_lushr C.1 C.2.1 d rfl (k H locs ls hP hD hS hl)
theorem r_lshl (C : Cx p s m args meth c cc own nm Ts ret nL D tys zW zO A) {x : Int64} {y : Int32} (d : decode cc pc = .ok (.lshl, 1)) (k : Mx p l e R s m args below meth c Q nL D A cells slots ws (pc + 1) lv (.long (x <<< (y.toInt64 &&& 63)) :: rest)) : Mx p l e R s m args below meth c Q nL D A cells slots ws pc lv (.int y :: .long x :: rest) := by
  intro H locs ls hP hD hS hl
  exact lv_lshl C.1 C.2.1 d rfl (k H locs ls hP hD hS hl)
theorem r_i2l (C : Cx p s m args meth c cc own nm Ts ret nL D tys zW zO A) {x : Int32} (d : decode cc pc = .ok (.i2l, 1)) (k : Mx p l e R s m args below meth c Q nL D A cells slots ws (pc + 1) lv (.long x.toInt64 :: rest)) : Mx p l e R s m args below meth c Q nL D A cells slots ws pc lv (.int x :: rest) := by
  intro H locs ls hP hD hS hl
  exact lv_i2l C.1 C.2.1 d rfl (k H locs ls hP hD hS hl)
theorem r_l2i (C : Cx p s m args meth c cc own nm Ts ret nL D tys zW zO A) {x : Int64} (d : decode cc pc = .ok (.l2i, 1)) (k : Mx p l e R s m args below meth c Q nL D A cells slots ws (pc + 1) lv (.int x.toInt32 :: rest)) : Mx p l e R s m args below meth c Q nL D A cells slots ws pc lv (.long x :: rest) := by
  intro H locs ls hP hD hS hl
  exact lv_l2i C.1 C.2.1 d rfl (k H locs ls hP hD hS hl)
theorem r_lcmp (C : Cx p s m args meth c cc own nm Ts ret nL D tys zW zO A) {x y : Int64} (d : decode cc pc = .ok (.lcmp, 1)) (k : Mx p l e R s m args below meth c Q nL D A cells slots ws (pc + 1) lv (.int (lg_cmp x y) :: rest)) : Mx p l e R s m args below meth c Q nL D A cells slots ws pc lv (.long y :: .long x :: rest) := by
  intro H locs ls hP hD hS hl
  exact W.lcmp C.1 C.2.1 d (k H locs ls hP hD hS hl)
theorem r_dup (C : Cx p s m args meth c cc own nm Ts ret nL D tys zW zO A) {va : Value} (d : decode cc pc = .ok (.dup, 1)) (hva : va.category = 1) (k : Mx p l e R s m args below meth c Q nL D A cells slots ws (pc + 1) lv (va :: va :: rest)) : Mx p l e R s m args below meth c Q nL D A cells slots ws pc lv (va :: rest) := by
  intro H locs ls hP hD hS hl
  exact lv_dup C.1 C.2.1 d hva (k H locs ls hP hD hS hl)
theorem r_pop (C : Cx p s m args meth c cc own nm Ts ret nL D tys zW zO A) {va : Value} (d : decode cc pc = .ok (.pop, 1)) (hva : va.category = 1) (k : Mx p l e R s m args below meth c Q nL D A cells slots ws (pc + 1) lv (rest)) : Mx p l e R s m args below meth c Q nL D A cells slots ws pc lv (va :: rest) := by
  intro H locs ls hP hD hS hl
  exact lv_pop C.1 C.2.1 d hva (k H locs ls hP hD hS hl)
theorem r_icmp_eq (C : Cx p s m args meth c cc own nm Ts ret nL D tys zW zO A) {x y : Int32} {off : Int} {tgt : Nat} (d : decode cc pc = .ok (.if_icmp .eq off, 3)) (ht : (pc : Int) + off = (tgt : Int)) (kt : x = y → Mx p l e R s m args below meth c Q nL D A cells slots ws tgt lv (rest)) (kf : ¬ x = y → Mx p l e R s m args below meth c Q nL D A cells slots ws (pc + 3) lv (rest)) : Mx p l e R s m args below meth c Q nL D A cells slots ws pc lv (.int y :: .int x :: rest) := by
  intro H locs ls hP hD hS hl
  exact lv_icmp_eq C.1 C.2.1 d ht (fun h => kt h H locs ls hP hD hS hl) (fun h => kf h H locs ls hP hD hS hl)
theorem r_if_eq (C : Cx p s m args meth c cc own nm Ts ret nL D tys zW zO A) {x : Int32} {off : Int} {tgt : Nat} (d : decode cc pc = .ok (.ifCond .eq off, 3)) (ht : (pc : Int) + off = (tgt : Int)) (kt : x = 0 → Mx p l e R s m args below meth c Q nL D A cells slots ws tgt lv (rest)) (kf : ¬ x = 0 → Mx p l e R s m args below meth c Q nL D A cells slots ws (pc + 3) lv (rest)) : Mx p l e R s m args below meth c Q nL D A cells slots ws pc lv (.int x :: rest) := by
  intro H locs ls hP hD hS hl
  exact lv_if_eq C.1 C.2.1 d ht (fun h => kt h H locs ls hP hD hS hl) (fun h => kf h H locs ls hP hD hS hl)
theorem r_icmp_ne (C : Cx p s m args meth c cc own nm Ts ret nL D tys zW zO A) {x y : Int32} {off : Int} {tgt : Nat} (d : decode cc pc = .ok (.if_icmp .ne off, 3)) (ht : (pc : Int) + off = (tgt : Int)) (kt : ¬ x = y → Mx p l e R s m args below meth c Q nL D A cells slots ws tgt lv (rest)) (kf : x = y → Mx p l e R s m args below meth c Q nL D A cells slots ws (pc + 3) lv (rest)) : Mx p l e R s m args below meth c Q nL D A cells slots ws pc lv (.int y :: .int x :: rest) := by
  intro H locs ls hP hD hS hl
  exact lv_icmp_ne C.1 C.2.1 d ht (fun h => kt h H locs ls hP hD hS hl) (fun h => kf h H locs ls hP hD hS hl)
theorem r_if_ne (C : Cx p s m args meth c cc own nm Ts ret nL D tys zW zO A) {x : Int32} {off : Int} {tgt : Nat} (d : decode cc pc = .ok (.ifCond .ne off, 3)) (ht : (pc : Int) + off = (tgt : Int)) (kt : ¬ x = 0 → Mx p l e R s m args below meth c Q nL D A cells slots ws tgt lv (rest)) (kf : x = 0 → Mx p l e R s m args below meth c Q nL D A cells slots ws (pc + 3) lv (rest)) : Mx p l e R s m args below meth c Q nL D A cells slots ws pc lv (.int x :: rest) := by
  intro H locs ls hP hD hS hl
  exact lv_if_ne C.1 C.2.1 d ht (fun h => kt h H locs ls hP hD hS hl) (fun h => kf h H locs ls hP hD hS hl)
theorem r_icmp_lt (C : Cx p s m args meth c cc own nm Ts ret nL D tys zW zO A) {x y : Int32} {off : Int} {tgt : Nat} (d : decode cc pc = .ok (.if_icmp .lt off, 3)) (ht : (pc : Int) + off = (tgt : Int)) (kt : x < y → Mx p l e R s m args below meth c Q nL D A cells slots ws tgt lv (rest)) (kf : ¬ x < y → Mx p l e R s m args below meth c Q nL D A cells slots ws (pc + 3) lv (rest)) : Mx p l e R s m args below meth c Q nL D A cells slots ws pc lv (.int y :: .int x :: rest) := by
  intro H locs ls hP hD hS hl
  exact lv_icmp_lt C.1 C.2.1 d ht (fun h => kt h H locs ls hP hD hS hl) (fun h => kf h H locs ls hP hD hS hl)
theorem r_if_lt (C : Cx p s m args meth c cc own nm Ts ret nL D tys zW zO A) {x : Int32} {off : Int} {tgt : Nat} (d : decode cc pc = .ok (.ifCond .lt off, 3)) (ht : (pc : Int) + off = (tgt : Int)) (kt : x < 0 → Mx p l e R s m args below meth c Q nL D A cells slots ws tgt lv (rest)) (kf : ¬ x < 0 → Mx p l e R s m args below meth c Q nL D A cells slots ws (pc + 3) lv (rest)) : Mx p l e R s m args below meth c Q nL D A cells slots ws pc lv (.int x :: rest) := by
  intro H locs ls hP hD hS hl
  exact lv_if_lt C.1 C.2.1 d ht (fun h => kt h H locs ls hP hD hS hl) (fun h => kf h H locs ls hP hD hS hl)
theorem r_icmp_ge (C : Cx p s m args meth c cc own nm Ts ret nL D tys zW zO A) {x y : Int32} {off : Int} {tgt : Nat} (d : decode cc pc = .ok (.if_icmp .ge off, 3)) (ht : (pc : Int) + off = (tgt : Int)) (kt : y ≤ x → Mx p l e R s m args below meth c Q nL D A cells slots ws tgt lv (rest)) (kf : ¬ y ≤ x → Mx p l e R s m args below meth c Q nL D A cells slots ws (pc + 3) lv (rest)) : Mx p l e R s m args below meth c Q nL D A cells slots ws pc lv (.int y :: .int x :: rest) := by
  intro H locs ls hP hD hS hl
  exact lv_icmp_ge C.1 C.2.1 d ht (fun h => kt h H locs ls hP hD hS hl) (fun h => kf h H locs ls hP hD hS hl)
theorem r_if_ge (C : Cx p s m args meth c cc own nm Ts ret nL D tys zW zO A) {x : Int32} {off : Int} {tgt : Nat} (d : decode cc pc = .ok (.ifCond .ge off, 3)) (ht : (pc : Int) + off = (tgt : Int)) (kt : 0 ≤ x → Mx p l e R s m args below meth c Q nL D A cells slots ws tgt lv (rest)) (kf : ¬ 0 ≤ x → Mx p l e R s m args below meth c Q nL D A cells slots ws (pc + 3) lv (rest)) : Mx p l e R s m args below meth c Q nL D A cells slots ws pc lv (.int x :: rest) := by
  intro H locs ls hP hD hS hl
  exact lv_if_ge C.1 C.2.1 d ht (fun h => kt h H locs ls hP hD hS hl) (fun h => kf h H locs ls hP hD hS hl)
theorem r_icmp_gt (C : Cx p s m args meth c cc own nm Ts ret nL D tys zW zO A) {x y : Int32} {off : Int} {tgt : Nat} (d : decode cc pc = .ok (.if_icmp .gt off, 3)) (ht : (pc : Int) + off = (tgt : Int)) (kt : y < x → Mx p l e R s m args below meth c Q nL D A cells slots ws tgt lv (rest)) (kf : ¬ y < x → Mx p l e R s m args below meth c Q nL D A cells slots ws (pc + 3) lv (rest)) : Mx p l e R s m args below meth c Q nL D A cells slots ws pc lv (.int y :: .int x :: rest) := by
  intro H locs ls hP hD hS hl
  exact lv_icmp_gt C.1 C.2.1 d ht (fun h => kt h H locs ls hP hD hS hl) (fun h => kf h H locs ls hP hD hS hl)
theorem r_if_gt (C : Cx p s m args meth c cc own nm Ts ret nL D tys zW zO A) {x : Int32} {off : Int} {tgt : Nat} (d : decode cc pc = .ok (.ifCond .gt off, 3)) (ht : (pc : Int) + off = (tgt : Int)) (kt : 0 < x → Mx p l e R s m args below meth c Q nL D A cells slots ws tgt lv (rest)) (kf : ¬ 0 < x → Mx p l e R s m args below meth c Q nL D A cells slots ws (pc + 3) lv (rest)) : Mx p l e R s m args below meth c Q nL D A cells slots ws pc lv (.int x :: rest) := by
  intro H locs ls hP hD hS hl
  exact lv_if_gt C.1 C.2.1 d ht (fun h => kt h H locs ls hP hD hS hl) (fun h => kf h H locs ls hP hD hS hl)
theorem r_icmp_le (C : Cx p s m args meth c cc own nm Ts ret nL D tys zW zO A) {x y : Int32} {off : Int} {tgt : Nat} (d : decode cc pc = .ok (.if_icmp .le off, 3)) (ht : (pc : Int) + off = (tgt : Int)) (kt : x ≤ y → Mx p l e R s m args below meth c Q nL D A cells slots ws tgt lv (rest)) (kf : ¬ x ≤ y → Mx p l e R s m args below meth c Q nL D A cells slots ws (pc + 3) lv (rest)) : Mx p l e R s m args below meth c Q nL D A cells slots ws pc lv (.int y :: .int x :: rest) := by
  intro H locs ls hP hD hS hl
  exact lv_icmp_le C.1 C.2.1 d ht (fun h => kt h H locs ls hP hD hS hl) (fun h => kf h H locs ls hP hD hS hl)
theorem r_if_le (C : Cx p s m args meth c cc own nm Ts ret nL D tys zW zO A) {x : Int32} {off : Int} {tgt : Nat} (d : decode cc pc = .ok (.ifCond .le off, 3)) (ht : (pc : Int) + off = (tgt : Int)) (kt : x ≤ 0 → Mx p l e R s m args below meth c Q nL D A cells slots ws tgt lv (rest)) (kf : ¬ x ≤ 0 → Mx p l e R s m args below meth c Q nL D A cells slots ws (pc + 3) lv (rest)) : Mx p l e R s m args below meth c Q nL D A cells slots ws pc lv (.int x :: rest) := by
  intro H locs ls hP hD hS hl
  exact lv_if_le C.1 C.2.1 d ht (fun h => kt h H locs ls hP hD hS hl) (fun h => kf h H locs ls hP hD hS hl)
theorem r_ifb_eq (C : Cx p s m args meth c cc own nm Ts ret nL D tys zW zO A) {b : Bool} {off : Int} {tgt : Nat} (d : decode cc pc = .ok (.ifCond .eq off, 3)) (ht : (pc : Int) + off = (tgt : Int)) (kt : b = false → Mx p l e R s m args below meth c Q nL D A cells slots ws tgt lv (rest)) (kf : b = true → Mx p l e R s m args below meth c Q nL D A cells slots ws (pc + 3) lv (rest)) : Mx p l e R s m args below meth c Q nL D A cells slots ws pc lv (.int (b2i b) :: rest) := by
  intro H locs ls hP hD hS hl
  exact lv_if_eq C.1 C.2.1 d ht (fun h => kt (b2i_0 h) H locs ls hP hD hS hl) (fun h => kf (b2i_1 h) H locs ls hP hD hS hl)
theorem r_ifb_ne (C : Cx p s m args meth c cc own nm Ts ret nL D tys zW zO A) {b : Bool} {off : Int} {tgt : Nat} (d : decode cc pc = .ok (.ifCond .ne off, 3)) (ht : (pc : Int) + off = (tgt : Int)) (kt : b = true → Mx p l e R s m args below meth c Q nL D A cells slots ws tgt lv (rest)) (kf : b = false → Mx p l e R s m args below meth c Q nL D A cells slots ws (pc + 3) lv (rest)) : Mx p l e R s m args below meth c Q nL D A cells slots ws pc lv (.int (b2i b) :: rest) := by
  intro H locs ls hP hD hS hl
  exact lv_if_ne C.1 C.2.1 d ht (fun h => kt (b2i_1 h) H locs ls hP hD hS hl) (fun h => kf (b2i_0 h) H locs ls hP hD hS hl)
theorem r_goto (C : Cx p s m args meth c cc own nm Ts ret nL D tys zW zO A) {off : Int} {tgt : Nat} (d : decode cc pc = .ok (.goto off, 3)) (ht : (pc : Int) + off = (tgt : Int)) (k : Mx p l e R s m args below meth c Q nL D A cells slots ws tgt lv (rest)) : Mx p l e R s m args below meth c Q nL D A cells slots ws pc lv (rest) := by
  intro H locs ls hP hD hS hl
  exact lv_goto C.1 C.2.1 d ht (k H locs ls hP hD hS hl)
theorem r_tsOut (C : Cx p s m args meth c cc own nm Ts ret nL D tys zW zO A) {dflt lo hi : Int} {offs : Array Int} {len : Nat} {x : Int32} {tgt : Nat} (d : decode cc pc = .ok (.tableswitch dflt lo hi offs, len)) (h : x.toInt < lo ∨ hi < x.toInt) (ht : (pc : Int) + dflt = (tgt : Int)) (k : Mx p l e R s m args below meth c Q nL D A cells slots ws tgt lv (rest)) : Mx p l e R s m args below meth c Q nL D A cells slots ws pc lv (.int x :: rest) := by
  intro H locs ls hP hD hS hl
  exact lv_tableOut C.1 C.2.1 d h ht (k H locs ls hP hD hS hl)
theorem r_tsIn (C : Cx p s m args meth c cc own nm Ts ret nL D tys zW zO A) {dflt lo hi : Int} {offs : Array Int} {len : Nat} {x : Int32} {off : Int} {tgt : Nat} (d : decode cc pc = .ok (.tableswitch dflt lo hi offs, len)) (h1 : ¬ x.toInt < lo) (h2 : ¬ hi < x.toInt) (ho : offs[(x.toInt - lo).toNat]? = some off) (ht : (pc : Int) + off = (tgt : Int)) (k : Mx p l e R s m args below meth c Q nL D A cells slots ws tgt lv (rest)) : Mx p l e R s m args below meth c Q nL D A cells slots ws pc lv (.int x :: rest) := by
  intro H locs ls hP hD hS hl
  exact lv_tableIn C.1 C.2.1 d h1 h2 ho ht (k H locs ls hP hD hS hl)
theorem r_dup2 (C : Cx p s m args meth c cc own nm Ts ret nL D tys zW zO A) {va vb : Value} (d : decode cc pc = .ok (.dup2, 1)) (hva : va.category = 1) (hvb : vb.category = 1) (k : Mx p l e R s m args below meth c Q nL D A cells slots ws (pc + 1) lv (va :: vb :: va :: vb :: rest)) : Mx p l e R s m args below meth c Q nL D A cells slots ws pc lv (va :: vb :: rest) := by
  intro H locs ls hP hD hS hl
  exact lv_dup2_11 C.1 C.2.1 d hva hvb (k H locs ls hP hD hS hl)
theorem r_tsAt (C : Cx p s m args meth c cc own nm Ts ret nL D tys zW zO A) {dflt lo hi : Int} {offs : Array Int} {len : Nat} {x : Int32} {off : Int} {tgt : Nat} (v : Int32) (hx : x = v) (d : decode cc pc = .ok (.tableswitch dflt lo hi offs, len)) (h1 : ¬ v.toInt < lo) (h2 : ¬ hi < v.toInt) (ho : offs[(v.toInt - lo).toNat]? = some off) (ht : (pc : Int) + off = (tgt : Int)) (k : Mx p l e R s m args below meth c Q nL D A cells slots ws tgt lv (rest)) : Mx p l e R s m args below meth c Q nL D A cells slots ws pc lv (.int x :: rest) := by
  intro H locs ls hP hD hS hl
  subst hx
  exact lv_tableIn C.1 C.2.1 d h1 h2 ho ht (k H locs ls hP hD hS hl)
theorem r_lkAt (C : Cx p s m args meth c cc own nm Ts ret nL D tys zW zO A) {dflt : Int} {ps : Array (Int × Int)} {len : Nat} {x : Int32} {off : Int} {tgt : Nat} (hp : (ps.toList.zip (ps.toList.drop 1)).all (fun (a, next) => a.1 < next.1) = true) (d : decode cc pc = .ok (.lookupswitch dflt ps, len)) (ho : Op.lookupswitch.offset ps.toList dflt x.toInt = off) (ht : (pc : Int) + off = (tgt : Int)) (k : Mx p l e R s m args below meth c Q nL D A cells slots ws tgt lv (rest)) : Mx p l e R s m args below meth c Q nL D A cells slots ws pc lv (.int x :: rest) := by
  intro H locs ls hP hD hS hl
  exact lv_lookup C.1 C.2.1 d hp ho ht (k H locs ls hP hD hS hl)
theorem r_get (C : Cx p s m args meth c cc own nm Ts ret nL D tys zW zO A) {CC : String} {T : u_T} {N ci index : Nat} {ref : String} {a : Nat} {v : Value} {fs : List Value} (hin : ∀ w ∈ u_ws CC T N, w ∈ Ts) (q0 : Nat) (he : ws[q0]? = some (a, .inr (ci, fs))) (hc : vwCl[ci]? = some (CC, T, N)) (kf : Nat) (hk : kf < N) (hlink : Cond.fieldLink own index ref (T kf).2.1 (T kf).2.2.1 ∈ Ts) (hsame : (T kf).1 = ref) (hv : fs[kf]? = some v) (d : decode cc pc = .ok (.getfield index, 3)) (k : Mx p l e R s m args below meth c Q nL D A cells slots ws (pc + 3) lv (v :: rest)) : Mx p l e R s m args below meth c Q nL D A cells slots ws pc lv (.ref a :: rest) := by
  intro H locs ls hP hD hS hl
  exact va_get (D := D) (ci := ci) (v := v) (C := CC) (T := T) (N := N) C.1 C.2.1 C.2.2.2.2.2.1 hin C.2.2.2.2.1 C.2.2.2.2.2.2.2.2.1 hP q0 he hc kf hk (C.2.2.2.2.2.1 _ hlink) (fun _ h9 => by rw [← hsame]; exact h9) hv d (k H locs ls hP hD hS hl)
theorem r_put (C : Cx p s m args meth c cc own nm Ts ret nL D tys zW zO A) {CC : String} {T : u_T} {N ci index : Nat} {ref : String} {a : Nat} {v : Value} {ty : FieldType} {fs : List Value} (hin : ∀ w ∈ u_ws CC T N, w ∈ Ts) (ty0 : Nat → FieldType) (hty : ∀ k, k < N → parseFieldDescriptor (T k).2.2.1 = some (ty0 k)) (hnm : ∀ a, a < N → ∀ b, b < N → a ≠ b → (T a).2.1 ≠ (T b).2.1) (q0 : Nat) (he : ws[q0]? = some (a, .inr (ci, fs))) (hc : vwCl[ci]? = some (CC, T, N)) (kf : Nat) (hk : kf < N) (hlink : Cond.fieldLink own index ref (T kf).2.1 (T kf).2.2.1 ∈ Ts) (hsame : (T kf).1 = ref) (hfin : (T kf).2.2.2 = false) (hd : ty0 kf = ty) (hn : narrow ty v = v) (hfit : fits ty v = true) (hl0 : kf < fs.length) (hws : ws.set q0 (a, .inr (ci, fs.set kf v)) = ws1) (d : decode cc pc = .ok (.putfield index, 3)) (k : Mx p l e R s m args below meth c Q nL D A cells slots ws1 (pc + 3) lv (rest)) : Mx p l e R s m args below meth c Q nL D A cells slots ws pc lv (v :: .ref a :: rest) := by
  intro H locs ls hP hD hS hl
  subst hws
  exact va_put (D := D) (ci := ci) (v := v) (ty := ty) (C := CC) (T := T) (N := N) C.1 C.2.1 C.2.2.2.2.2.1 hin ty0 hty hnm C.2.2.2.2.1 C.2.2.2.2.2.2.2.2.1 hP hD hS q0 he hc kf hk (C.2.2.2.2.2.1 _ hlink) (fun _ h9 => by rw [← hsame]; exact h9) hfin (by rw [← hd]; exact hty kf hk) hn hfit hl0 d (fun H locs hP hD hS => k H locs ls hP hD hS hl)
theorem r_putF (C : Cx p s m args meth c cc own nm Ts ret nL D tys zW zO A) {CC : String} {T : u_T} {N ci index : Nat} {ref : String} {a : Nat} {v : Value} {ty : FieldType} {fs : List Value} (hin : ∀ w ∈ u_ws CC T N, w ∈ Ts) (ty0 : Nat → FieldType) (hty : ∀ k, k < N → parseFieldDescriptor (T k).2.2.1 = some (ty0 k)) (hnm : ∀ a, a < N → ∀ b, b < N → a ≠ b → (T a).2.1 ≠ (T b).2.1) (q0 : Nat) (he : ws[q0]? = some (a, .inr (ci, fs))) (hc : vwCl[ci]? = some (CC, T, N)) (kf : Nat) (hk : kf < N) (hlink : Cond.fieldLink own index ref (T kf).2.1 (T kf).2.2.1 ∈ Ts) (hsame : (T kf).1 = ref) (hfin : (T kf).2.2.2 = true) (hnm2 : nm = "<init>") (hdecl : (T kf).1 = own) (hd : ty0 kf = ty) (hn : narrow ty v = v) (hfit : fits ty v = true) (hl0 : kf < fs.length) (hws : ws.set q0 (a, .inr (ci, fs.set kf v)) = ws1) (d : decode cc pc = .ok (.putfield index, 3)) (k : Mx p l e R s m args below meth c Q nL D A cells slots ws1 (pc + 3) lv (rest)) : Mx p l e R s m args below meth c Q nL D A cells slots ws pc lv (v :: .ref a :: rest) := by
  intro H locs ls hP hD hS hl
  subst hws
  exact va_putF (D := D) (ci := ci) (v := v) (ty := ty) (C := CC) (T := T) (N := N) C.1 C.2.1 C.2.2.2.2.2.1 hin ty0 hty hnm C.2.2.2.2.1 C.2.2.2.2.2.2.2.2.1 hP hD hS q0 he hc kf hk (C.2.2.2.2.2.1 _ hlink) (fun _ h9 => by rw [← hsame]; exact h9) hfin (C.2.2.2.2.2.2.2.2.2.2.2.trans hnm2) hdecl (by rw [← hd]; exact hty kf hk) hn hfit hl0 d (fun H locs hP hD hS => k H locs ls hP hD hS hl)
theorem r_iald (C : Cx p s m args meth c cc own nm Ts ret nL D tys zW zO A) {cA : ClassId} {n : Nat} {f : Nat → Int32} {a : Nat} (q0 t0 : Nat) (ha : ws[q0]? = some (a, .inl (cA, n, .inl f))) (ht : tys[t0]? = some (cA, .int)) {i : Int32} (hin : vp_in i n) (d : decode cc pc = .ok (.iaload, 1)) (k : Mx p l e R s m args below meth c Q nL D A cells slots ws (pc + 1) lv (.int (f i.toNatClampNeg) :: rest)) : Mx p l e R s m args below meth c Q nL D A cells slots ws pc lv (.int i :: .ref a :: rest) := by
  intro H locs ls hP hD hS hl
  exact va_iald C.1 C.2.1 C.2.2.2.2.2.2.2.2.1 hP q0 t0 ha ht hin d (k H locs ls hP hD hS hl)
theorem r_zald (C : Cx p s m args meth c cc own nm Ts ret nL D tys zW zO A) {cA : ClassId} {n : Nat} {f : Nat → Int32} {a : Nat} (q0 t0 : Nat) (ha : ws[q0]? = some (a, .inl (cA, n, .inl f))) (ht : tys[t0]? = some (cA, .boolean)) {i : Int32} (hin : vp_in i n) (d : decode cc pc = .ok (.baload, 1)) (k : Mx p l e R s m args below meth c Q nL D A cells slots ws (pc + 1) lv (.int (f i.toNatClampNeg) :: rest)) : Mx p l e R s m args below meth c Q nL D A cells slots ws pc lv (.int i :: .ref a :: rest) := by
  intro H locs ls hP hD hS hl
  exact va_zald C.1 C.2.1 C.2.2.2.2.2.2.2.2.1 hP q0 t0 ha ht hin d (k H locs ls hP hD hS hl)
theorem r_iast (C : Cx p s m args meth c cc own nm Ts ret nL D tys zW zO A) {cA : ClassId} {n : Nat} {f : Nat → Int32} {a : Nat} (q0 t0 : Nat) (ha : ws[q0]? = some (a, .inl (cA, n, .inl f))) (ht : tys[t0]? = some (cA, .int)) {i x : Int32} (hin : vp_in i n) (hws : ws.set q0 (a, .inl (cA, n, .inl (upd f i.toNatClampNeg x))) = ws1) (d : decode cc pc = .ok (.iastore, 1)) (k : Mx p l e R s m args below meth c Q nL D A cells slots ws1 (pc + 1) lv (rest)) : Mx p l e R s m args below meth c Q nL D A cells slots ws pc lv (.int x :: .int i :: .ref a :: rest) := by
  intro H locs ls hP hD hS hl
  subst hws
  exact va_iast C.1 C.2.1 C.2.2.2.2.2.2.2.2.1 hP hD hS q0 t0 ha ht hin d (fun H locs hP hD hS => k H locs ls hP hD hS hl)
theorem r_zast (C : Cx p s m args meth c cc own nm Ts ret nL D tys zW zO A) {cA : ClassId} {n : Nat} {f : Nat → Int32} {a : Nat} (q0 t0 : Nat) (ha : ws[q0]? = some (a, .inl (cA, n, .inl f))) (ht : tys[t0]? = some (cA, .boolean)) {i x x1 : Int32} (hx1 : vp_nar .boolean x = x1) (hin : vp_in i n) (hws : ws.set q0 (a, .inl (cA, n, .inl (upd f i.toNatClampNeg x1))) = ws1) (d : decode cc pc = .ok (.bastore, 1)) (k : Mx p l e R s m args below meth c Q nL D A cells slots ws1 (pc + 1) lv (rest)) : Mx p l e R s m args below meth c Q nL D A cells slots ws pc lv (.int x :: .int i :: .ref a :: rest) := by
  intro H locs ls hP hD hS hl
  subst hws hx1
  exact va_zast C.1 C.2.1 C.2.2.2.2.2.2.2.2.1 hP hD hS q0 t0 ha ht hin d (fun H locs hP hD hS => k H locs ls hP hD hS hl)
theorem r_alen (C : Cx p s m args meth c cc own nm Ts ret nL D tys zW zO A) {cA : ClassId} {x : vp_A} {a : Nat} {ty : FieldType} {v : Int32} (q0 t0 : Nat) (ha : ws[q0]? = some (a, .inl (cA, x))) (ht : tys[t0]? = some (cA, ty)) (hv : Int32.ofNat x.1 = v) (d : decode cc pc = .ok (.arraylength, 1)) (k : Mx p l e R s m args below meth c Q nL D A cells slots ws (pc + 1) lv (.int v :: rest)) : Mx p l e R s m args below meth c Q nL D A cells slots ws pc lv (.ref a :: rest) := by
  intro H locs ls hP hD hS hl
  exact va_alen C.1 C.2.1 C.2.2.2.2.2.2.2.2.1 hP q0 t0 ha ht hv d (k H locs ls hP hD hS hl)
theorem r_aldq (C : Cx p s m args meth c cc own nm Ts ret nL D tys zW zO A) {cA : ClassId} {CC : String} {n : Nat} {f : Nat → Option Nat} {a b : Nat} (q0 t0 : Nat) (ha : ws[q0]? = some (a, .inl (cA, n, .inr (.inr (.inr (.inr f)))))) (ht : tys[t0]? = some (cA, .object CC)) {i : Int32} (hin : vp_in i n) (hb2 : f i.toNatClampNeg = some b) (d : decode cc pc = .ok (.aaload, 1)) (k : Mx p l e R s m args below meth c Q nL D A cells slots ws (pc + 1) lv (.ref b :: rest)) : Mx p l e R s m args below meth c Q nL D A cells slots ws pc lv (.int i :: .ref a :: rest) := by
  intro H locs ls hP hD hS hl
  exact va_aldq C.1 C.2.1 C.2.2.2.2.2.2.2.2.1 hP q0 t0 ha ht hin d (by rw [hb2]; exact k H locs ls hP hD hS hl)
theorem r_astq (C : Cx p s m args meth c cc own nm Ts ret nL D tys zW zO A) {cA : ClassId} {r : vw_C} {n v : Nat} {vs : List Value} {f : Nat → Option Nat} {a : Nat} (q0 t0 qk ci : Nat) (ha : ws[q0]? = some (a, .inl (cA, n, .inr (.inr (.inr (.inr f)))))) (ht : tys[t0]? = some (cA, .object r.1)) (hv : ws[qk]? = some (v, .inr (ci, vs))) (hc : vwCl[ci]? = some r) {i : Int32} (hin : vp_in i n) (hws : ws.set q0 (a, .inl (cA, n, .inr (.inr (.inr (.inr (va_up f i.toNatClampNeg (some v))))))) = ws1) (d : decode cc pc = .ok (.aastore, 1)) (k : Mx p l e R s m args below meth c Q nL D A cells slots ws1 (pc + 1) lv (rest)) : Mx p l e R s m args below meth c Q nL D A cells slots ws pc lv (.ref v :: .int i :: .ref a :: rest) := by
  intro H locs ls hP hD hS hl
  subst hws
  exact va_astq C.1 C.2.1 C.2.2.2.2.2.2.2.2.1 hP hD hS q0 t0 qk ci ha ht hv hc hin d (fun H locs hP hD hS => k H locs ls hP hD hS hl)
theorem r_getsW (C : Cx p s m args meth c cc own nm Ts ret nL D tys zW zO A) {index : Nat} (hlink : Cond.fieldLink own index "FlagWash$Wash" "WET" "[I" ∈ Ts) (d : decode cc pc = .ok (.getstatic index, 3)) (k : Mx p l e R s m args below meth c Q nL D A cells slots ws (pc + 3) lv (.ref zW :: rest)) : Mx p l e R s m args below meth c Q nL D A cells slots ws pc lv (rest) := by
  intro H locs ls hP hD hS hl
  exact va_gets C.1 C.2.1 C.2.2.2.2.2.2.2.2.2.1.1 hS C.2.2.2.2.1 (C.2.2.2.2.2.1 _ hlink) (fun _ h => h) d (k H locs ls hP hD hS hl)
theorem r_getsO (C : Cx p s m args meth c cc own nm Ts ret nL D tys zW zO A) {index : Nat} (hlink : Cond.fieldLink own index "FlagWash$Shares" "ORDERS" "[I" ∈ Ts) (d : decode cc pc = .ok (.getstatic index, 3)) (k : Mx p l e R s m args below meth c Q nL D A cells slots ws (pc + 3) lv (.ref zO :: rest)) : Mx p l e R s m args below meth c Q nL D A cells slots ws pc lv (rest) := by
  intro H locs ls hP hD hS hl
  exact va_gets C.1 C.2.1 C.2.2.2.2.2.2.2.2.2.1.2.2.1 hS C.2.2.2.2.1 (C.2.2.2.2.2.1 _ hlink) (fun _ h => h) d (k H locs ls hP hD hS hl)
theorem r_tiW (C : Cx p s m args meth c cc own nm Ts ret nL D tys zW zO A) {i : Int32} (hin : vp_in i 4) (d : decode cc pc = .ok (.iaload, 1)) (k : Mx p l e R s m args below meth c Q nL D A cells slots ws (pc + 1) lv (.int (wetT i.toNatClampNeg) :: rest)) : Mx p l e R s m args below meth c Q nL D A cells slots ws pc lv (.int i :: .ref zW :: rest) := by
  intro H locs ls hP hD hS hl
  exact va_ti C.1 C.2.1 C.2.2.2.2.2.2.2.2.2.1.2.1 hS hin rfl d (k H locs ls hP hD hS hl)
theorem r_tiO (C : Cx p s m args meth c cc own nm Ts ret nL D tys zW zO A) {i : Int32} (hin : vp_in i 6) (d : decode cc pc = .ok (.iaload, 1)) (k : Mx p l e R s m args below meth c Q nL D A cells slots ws (pc + 1) lv (.int (ordT i.toNatClampNeg) :: rest)) : Mx p l e R s m args below meth c Q nL D A cells slots ws pc lv (.int i :: .ref zO :: rest) := by
  intro H locs ls hP hD hS hl
  exact va_ti C.1 C.2.1 C.2.2.2.2.2.2.2.2.2.1.2.2.2 hS hin rfl d (k H locs ls hP hD hS hl)
theorem r_tlW (C : Cx p s m args meth c cc own nm Ts ret nL D tys zW zO A) (d : decode cc pc = .ok (.arraylength, 1)) (k : Mx p l e R s m args below meth c Q nL D A cells slots ws (pc + 1) lv (.int 4 :: rest)) : Mx p l e R s m args below meth c Q nL D A cells slots ws pc lv (.ref zW :: rest) := by
  intro H locs ls hP hD hS hl
  exact va_tlen C.1 C.2.1 C.2.2.2.2.2.2.2.2.2.1.2.1 hS rfl d (k H locs ls hP hD hS hl)
theorem r_tlO (C : Cx p s m args meth c cc own nm Ts ret nL D tys zW zO A) (d : decode cc pc = .ok (.arraylength, 1)) (k : Mx p l e R s m args below meth c Q nL D A cells slots ws (pc + 1) lv (.int 6 :: rest)) : Mx p l e R s m args below meth c Q nL D A cells slots ws pc lv (.ref zO :: rest) := by
  intro H locs ls hP hD hS hl
  exact va_tlen C.1 C.2.1 C.2.2.2.2.2.2.2.2.2.1.2.2.2 hS rfl d (k H locs ls hP hD hS hl)
/-! returns -/
theorem r_iret (C : Cx p s m args meth c cc own nm Ts ret nL D tys zW zO A) {r : Int32} (hr : ret = some .int) (d : decode cc pc = .ok (.ireturn, 1)) : Mx p l e R s m args below meth c (MQ below (QI D tys A ws r) args s cells slots A) nL D A cells slots ws pc lv [.int r] := by
  intro H locs ls hP hD hS hl
  have hlocks := C.2.2.2.2.2.2.1
  exact W.iret (v := r) C.1 C.2.1 (C.2.2.1.trans hr) (fun t ht hW => ⟨⟨r, (), rfl, rfl, by rw [ht]; exact hP, va_K.moved hW.alike C.2.2.2.2.2.2.2.2.1, hD⟩, hS.F ht⟩) hS.2.2 d
theorem r_zret (C : Cx p s m args meth c cc own nm Ts ret nL D tys zW zO A) {b : Bool} (hr : ret = some .boolean) (d : decode cc pc = .ok (.ireturn, 1)) : Mx p l e R s m args below meth c (MQ below (QI D tys A ws (b2i b)) args s cells slots A) nL D A cells slots ws pc lv [.int (b2i b)] := by
  intro H locs ls hP hD hS hl
  have hlocks := C.2.2.2.2.2.2.1
  exact W.zret (v := b2i b) C.1 C.2.1 (C.2.2.1.trans hr) (b2i_nar b) (fun t ht hW => ⟨⟨b2i b, (), rfl, rfl, by rw [ht]; exact hP, va_K.moved hW.alike C.2.2.2.2.2.2.2.2.1, hD⟩, hS.F ht⟩) hS.2.2 d
theorem r_lret (C : Cx p s m args meth c cc own nm Ts ret nL D tys zW zO A) {r : Int64} (hr : ret = some .long) (d : decode cc pc = .ok (.lreturn, 1)) : Mx p l e R s m args below meth c (MQ below (QL D tys A ws r) args s cells slots A) nL D A cells slots ws pc lv [.long r] := by
  intro H locs ls hP hD hS hl
  have hlocks := C.2.2.2.2.2.2.1
  exact W.lret (v := r) C.1 C.2.1 (C.2.2.1.trans hr) (fun t ht hW => ⟨⟨r, (), rfl, rfl, by rw [ht]; exact hP, va_K.moved hW.alike C.2.2.2.2.2.2.2.2.1, hD⟩, hS.F ht⟩) hS.2.2 d
theorem r_vret (C : Cx p s m args meth c cc own nm Ts ret nL D tys zW zO A) (hr : ret = none) (d : decode cc pc = .ok (.return_, 1)) : Mx p l e R s m args below meth c (MQ below (QV D tys A ws) args s cells slots A) nL D A cells slots ws pc lv [] := by
  intro H locs ls hP hD hS hl
  have hlocks := C.2.2.2.2.2.2.1
  exact W.vret C.1 C.2.1 (C.2.2.1.trans hr) (fun t ht hW => ⟨⟨(), rfl, trivial, by rw [ht]; exact hP, va_K.moved hW.alike C.2.2.2.2.2.2.2.2.1, hD⟩, hS.F ht⟩) hS.2.2 d
theorem r_cret (C : Cx p s m args meth c cc own nm Ts ret nL D tys zW zO A) {W1 : (Nat → Nat) → va_W} (u : Nat → Nat) (hu : ws = W1 u) (hr : ret = none) (d : decode cc pc = .ok (.return_, 1)) : Mx p l e R s m args below meth c (MQ below (QC D tys A W1) args s cells slots A) nL D A cells slots ws pc lv [] := by
  intro H locs ls hP hD hS hl
  have hlocks := C.2.2.2.2.2.2.1
  subst hu
  exact W.vret C.1 C.2.1 (C.2.2.1.trans hr) (fun t ht hW => ⟨⟨u, rfl, trivial, by rw [ht]; exact hP, va_K.moved hW.alike C.2.2.2.2.2.2.2.2.1, hD⟩, hS.F ht⟩) hS.2.2 d
/-! object making -/
theorem r_objInit (C : Cx p s m args meth c cc own nm Ts ret nL D tys zW zO A) {idx a : Nat} (h1 : Cond.methodLink own idx Lib.objectInit ∈ Ts) (h2 : Cond.instanceMethod Lib.objectInit ∈ Ts) (h3 : Cond.code Lib.objectInit ⟨#[0xb1]⟩ 1 none ∈ Ts) (hf : 1 ≤ R.frames) (hlo : (rest.map fun v => v.category).sum + 12 ≤ R.locals) (d : decode cc pc = .ok (.invokespecial idx, 3)) (k : Mx p l e R s m args below meth c Q nL D A cells slots ws (pc + 3) lv rest) : Mx p l e R s m args below meth c Q nL D A cells slots ws pc lv (.ref a :: rest) := by
  intro H locs ls hP hD hS hl
  refine W.objInit C.1 C.2.1 C.2.2.2.2.1 (C.2.2.2.2.2.1 _ h1) (C.2.2.2.2.2.1 _ h2) (C.2.2.2.2.2.1 _ h3) rfl (by rw [C.2.2.2.1]; exact hl.1) rfl d hf (by rw [show 2 * (F0 m pc ls (.ref a :: rest)).monitorRoom = 0 from rfl]; omega) ?_
  exact k H locs ls hP hD hS hl
theorem r_new (C : Cx p s m args meth c cc own nm Ts ret nL D tys zW zO A) {CC : String} {T : u_T} {N ci index : Nat} {fs : List Value} (hin : ∀ w ∈ u_ws CC T N, w ∈ Ts) (ty : Nat → FieldType) (hty : ∀ k, k < N → parseFieldDescriptor (T k).2.2.1 = some (ty k)) (h1 : Cond.classLink own index CC ∈ Ts) (h2 : Cond.instantiable CC N ∈ Ts) (h3 : Cond.initialized CC ∈ Ts) (hc : vwCl[ci]? = some (CC, T, N)) (hfs : ∀ j, j < N → defaultValue (ty j) = vp_V fs j) (hcells : cells + 1 ≤ R.cells) (hslots : slots + N ≤ R.slots) (d : decode cc pc = .ok (.new index, 3)) (k : ∀ q : Nat, Mx p l e R s m args below meth c Q nL D A (cells + 1) (slots + N) (ws ++ [(q, .inr (ci, fs))]) (pc + 3) lv (.ref q :: rest)) : Mx p l e R s m args below meth c Q nL D A cells slots ws pc lv rest := by
  intro H locs ls hP hD hS hl
  exact va_new (ci := ci) (fs := fs) (C := CC) (T := T) (N := N) C.1 C.2.1 C.2.2.2.2.2.1 hin ty hty C.2.2.2.2.1 (C.2.2.2.2.2.1 _ h1) (C.2.2.2.2.2.1 _ h2) (C.2.2.2.2.2.1 _ h3) C.2.2.2.2.2.2.2.2.1 hP hD hS C.2.2.2.2.2.2.2.1 hc hfs hcells hslots d (fun q H hP hD hS => k q H locs ls hP hD hS hl)
theorem r_newa (C : Cx p s m args meth c cc own nm Ts ret nL D tys zW zO A) {atype : ArrayType} {ty : FieldType} {cA : ClassId} {n : Int32} {N' : Nat} {a0 : vp_A} (h1 : Cond.arrayClass (newarray.typeOf atype) ∈ Ts) (hty : newarray.typeOf atype = ty) (t0 : Nat) (ht : tys[t0]? = some (cA, ty)) (hRA : va_RA s cA ty = (s.vm.findClass ("[" ++ ty.toString) = some cA)) (ha : ∀ cA : ClassId, vp_cell cA a0 = arrV cA N' (fun _ => defaultValue ty)) (hn : ¬ n < 0) (hN : n.toNatClampNeg = N') (hbytes : N' * componentBytes ty ≤ 536870912) (hcells : cells + 1 ≤ R.cells) (hslots : slots + N' ≤ R.slots) (d : decode cc pc = .ok (.newarray atype, 2)) (k : ∀ q : Nat, Mx p l e R s m args below meth c Q nL D A (cells + 1) (slots + N') (ws ++ [(q, .inl (cA, a0))]) (pc + 2) lv (.ref q :: rest)) : Mx p l e R s m args below meth c Q nL D A cells slots ws pc lv (.int n :: rest) := by
  intro H locs ls hP hD hS hl
  have hK := C.2.2.2.2.2.2.2.2.1
  refine va_newa C.1 C.2.1 (C.2.2.2.2.2.1 _ h1) hty hK hP hD hS C.2.2.2.2.2.2.2.1 ha hn hN hbytes hcells hslots d (fun q cB H hK2 hP hD hS => ?_)
  have e1 : s.vm.findClass ("[" ++ ty.toString) = some cA := by rw [← hRA]; exact (hK.2 t0 _ ht).2
  have e2 : va_RA s cB ty := (hK2.2 tys.length (cB, ty) (by simp)).2
  have e3 : s.vm.findClass ("[" ++ ty.toString) = some cB := by
    subst hty
    cases atype <;> exact e2
  have e4 : cA = cB := Option.some.inj (e1.symm.trans e3)
  subst e4
  exact k q H locs ls hP hD hS hl
theorem r_anewa (C : Cx p s m args meth c cc own nm Ts ret nL D tys zW zO A) {index : Nat} {cA : ClassId} {n : Int32} {N' : Nat} (h1 : Cond.classLink own index "FlagWash$Wash" ∈ Ts) (t0 : Nat) (ht : tys[t0]? = some (cA, .object "FlagWash$Wash")) (hn : ¬ n < 0) (hN : n.toNatClampNeg = N') (hbytes : N' * 4 ≤ 536870912) (hcells : cells + 1 ≤ R.cells) (hslots : slots + N' ≤ R.slots) (d : decode cc pc = .ok (.anewarray index, 3)) (k : ∀ q : Nat, Mx p l e R s m args below meth c Q nL D A (cells + 1) (slots + N') (ws ++ [(q, .inl (cA, N', .inr (.inr (.inr (.inr (fun _ => none))))))]) (pc + 3) lv (.ref q :: rest)) : Mx p l e R s m args below meth c Q nL D A cells slots ws pc lv (.int n :: rest) := by
  intro H locs ls hP hD hS hl
  have hK := C.2.2.2.2.2.2.2.2.1
  refine va_newq C.1 C.2.1 C.2.2.2.2.1 (C.2.2.2.2.2.1 _ h1) C.2.2.2.2.2.2.2.2.2.2.1.2 hK hP hD hS C.2.2.2.2.2.2.2.1 hn hN hbytes hcells hslots d (fun q cB H hK2 hP hD hS => ?_)
  obtain ⟨_, _, _, _, _, e1⟩ : va_RA s cA (.object "FlagWash$Wash") := (hK.2 t0 _ ht).2
  obtain ⟨_, _, _, _, _, e2⟩ : va_RA s cB (.object "FlagWash$Wash") := (hK2.2 tys.length (cB, .object "FlagWash$Wash") (by simp)).2
  have e4 : cA = cB := Option.some.inj (e1.symm.trans e2)
  subst e4
  exact k q H locs ls hP hD hS hl
theorem r_widen {mc ms : Nat} (h1 : cells ≤ mc) (h2 : slots ≤ ms) (k : Mx p l e R s m args below meth c Q nL D A mc ms ws pc lv st) : Mx p l e R s m args below meth c Q nL D A cells slots ws pc lv st := by
  intro H locs ls hP hD hS hl
  exact W.widen h1 h2 (k H locs ls hP hD hS hl)
/-- another order of the same cells -/
theorem r_perm (is : List Nat) (hn : va_nd is = true) (hs : is.map (fun i => ws[i]?) = ws1.map some) (k : Mx p l e R s m args below meth c Q nL D A cells slots ws1 pc lv st) : Mx p l e R s m args below meth c Q nL D A cells slots ws pc lv st := by
  intro H locs ls hP hD hS hl
  refine k H locs ls ?_ (hD.sub is hn hs) hS hl
  refine hP.sub is ?_
  have h : ∀ (l : List Nat) (w : va_W), l.map (fun i => ws[i]?) = w.map some → l.filterMap (fun i => ws[i]?) = w := by
    intro l
    induction l with
    | nil => intro w h; cases w with
      | nil => rfl
      | cons a b => cases h
    | cons a l ih => intro w h; cases w with
      | nil => cases h
      | cons b w =>
        simp only [List.map_cons, List.cons.injEq] at h
        rw [List.filterMap_cons, h.1]
        simp only [ih w h.2]
  exact h is ws1 hs
theorem r_eqw (h : ws = ws1) (k : Mx p l e R s m args below meth c Q nL D A cells slots ws1 pc lv st) : Mx p l e R s m args below meth c Q nL D A cells slots ws pc lv st := h ▸ k
theorem r_lv (ks : List Nat) (h : lv_pick lv ks = lv') (k : Mx p l e R s m args below meth c Q nL D A cells slots ws pc lv' st) : Mx p l e R s m args below meth c Q nL D A cells slots ws pc lv st := fun H locs ls hP hD hS hl => k H locs ls hP hD hS (lv_sub hl ks h)
theorem r_copy (C : Cx p s m args meth c cc own nm Ts ret nL D tys zW zO A) {index a a0 : Nat} {n0 n1 : Nat} {f g : Nat → Int32} {cA : ClassId} (h1 : Cond.methodLink own index arraycopyName ∈ Ts) (h2 : Cond.native arraycopyName ∈ Ts) (h3 : Cond.static arraycopyName ∈ Ts) (h4 : Cond.initialized "java/lang/System" ∈ Ts) (q0 q1 t0 : Nat) (ha0 : ws[q0]? = some (a0, .inl (cA, n0, .inl f))) (ha1 : ws[q1]? = some (a, .inl (cA, n1, .inl g))) (ht : tys[t0]? = some (cA, .int)) {sp dp n : Int32} (g1 : ¬ sp < 0) (g2 : ¬ dp < 0) (g3 : ¬ n < 0) (g4 : sp.toNatClampNeg + n.toNatClampNeg ≤ n0) (g5 : dp.toNatClampNeg + n.toNatClampNeg ≤ n1) (hf : 1 ≤ R.frames) (hlo : (rest.map fun v => v.category).sum + (nativeFrameWords "java/lang/System" "arraycopy" 5 + 11) ≤ R.locals) (hws : ws.set q1 (a, .inl (cA, n1, .inl (va_cpy f g sp.toNatClampNeg dp.toNatClampNeg n.toNatClampNeg))) = ws1) (d : decode cc pc = .ok (.invokestatic index, 3)) (k : Mx p l e R s m args below meth c Q nL D A cells slots ws1 (pc + 3) lv rest) : Mx p l e R s m args below meth c Q nL D A cells slots ws pc lv (.int n :: .int dp :: .ref a :: .int sp :: .ref a0 :: rest) := by
  intro H locs ls hP hD hS hl
  subst hws
  exact va_copyi C.1 C.2.1 (by rw [C.2.2.2.1]; exact hl.1.symm) C.2.2.2.2.1 (C.2.2.2.2.2.1 _ h1) (C.2.2.2.2.2.1 _ h2) (C.2.2.2.2.2.1 _ h3) (C.2.2.2.2.2.1 _ h4) C.2.2.2.2.2.2.2.2.1 hP hD hS q0 q1 t0 t0 ha0 ha1 ht ht rfl g1 g2 g3 g4 g5 (fun i _ => rfl) hf hlo d (fun H locs hP hD hS => k H locs ls hP hD hS hl)
/-! calls -/
theorem w_pick {W0 : va_W} {H : Heap} {isC : List Nat} (hP : va_P D vwCl ws H) (hC : isC.map (fun i => ws[i]?) = W0.map some) : va_P D vwCl W0 H := by
  intro k q hk
  have h1 : (isC.map (fun i => ws[i]?))[k]? = some (some q) := by rw [hC, List.getElem?_map, hk]; rfl
  rw [List.getElem?_map] at h1
  cases hi : isC[k]? with
  | none => rw [hi] at h1; cases h1
  | some i => rw [hi] at h1; exact hP i q (Option.some.inj h1)
theorem w_pre (C : Cx p s m args meth c cc own nm Ts ret nL D tys zW zO A) {H : Heap} {locs : List Loc} {W0 : va_W} {isC : List Nat} (hnC : va_nd isC = true) (hP : va_P D vwCl ws H) (hD : va_D A ws) (hS : va_S A s.heap H locs) (hC : isC.map (fun i => ws[i]?) = W0.map some) {av : List Value} : ∀ U : State, U.heap = H → s.WarmedH U.vm → va_Pc av (wPre D tys zW zO W0 H.size) av.toArray U := by
  intro U hU hW
  have hFc := va_free (wc := W0) hD hS C.2.2.2.2.2.2.2.1 isC hC
  have hz := ZF.narrow hFc (ZF.kept hS.2.1 C.2.2.2.2.2.2.2.2.2.1)
  exact ⟨rfl, by rw [hU], by rw [hU]; exact w_pick hP hC, va_K.moved hW.alike C.2.2.2.2.2.2.2.2.1, (hD.sub isC hnC hC).weaken (fun _ _ _ _ => trivial), by rw [hU]; exact hz.moved hW.alike, NF.warm hW C.2.2.2.2.2.2.2.2.2.2.1⟩
/-- the cells at some places are others, the rest are as they were -/
def JoinOK (ws ws1 W1 : va_W) (isC : List Nat) : Prop := ∃ (isR : List Nat) (Wr : va_W) (n : Nat), isC.map (fun i => ws1[i]?) = W1.map some ∧ isR.map (fun i => ws[i]?) = Wr.map some ∧ isR.map (fun i => ws1[i]?) = Wr.map some ∧ ws1.length = n ∧ (List.range n).all (fun k => isC.contains k || isR.contains k) = true
theorem mapAt {is : List Nat} {w W : va_W} (h : is.map (fun i => w[i]?) = W.map some) {k : Nat} (hk : k ∈ is) : ∃ j : Nat, is[j]? = some k ∧ w[k]? = W[j]? := by
  obtain ⟨j, hj⟩ := List.getElem?_of_mem hk
  refine ⟨j, hj, ?_⟩
  have h1 : (is.map (fun i => w[i]?))[j]? = some (w[k]?) := by rw [List.getElem?_map, hj]; rfl
  rw [h, List.getElem?_map] at h1
  cases hW : W[j]? with
  | none => rw [hW] at h1; cases h1
  | some q => rw [hW] at h1; exact (Option.some.inj h1).symm
theorem w_addr {w1 w2 : va_W} (hD : va_D A w1) (h : w2.map Prod.fst = w1.map Prod.fst) : va_D A w2 := by
  have key : ∀ (k : Nat) (q : Nat × va_E), w2[k]? = some q → ∃ q0, w1[k]? = some q0 ∧ q0.1 = q.1 := by
    intro k q hk
    have h1 : (w2.map Prod.fst)[k]? = some q.1 := by rw [List.getElem?_map, hk]; rfl
    rw [h, List.getElem?_map] at h1
    cases hq : w1[k]? with
    | none => rw [hq] at h1; cases h1
    | some q0 => rw [hq] at h1; exact ⟨q0, rfl, Option.some.inj h1⟩
  refine ⟨fun i j x y hi hj hxy => ?_, fun k q hk => ?_⟩
  · obtain ⟨x0, h1, h2⟩ := key i x hi
    obtain ⟨y0, h3, h4⟩ := key j y hj
    exact hD.1 i j x0 y0 h1 h3 (h2.trans (hxy.trans h4.symm))
  · obtain ⟨q0, h1, h2⟩ := key k q hk
    rw [← h2]
    exact hD.2 k q0 h1
theorem w_join {H H1 : Heap} {W0 W1 : va_W} {isC : List Nat} (hP : va_P D vwCl ws H) (hD : va_D A ws) (hC : isC.map (fun i => ws[i]?) = W0.map some) (hk : ∀ q : Nat, q < H.size → ¬ va_A W0 H.size q → H1[q]? = H[q]?) (hP1 : va_P D vwCl W1 H1) (hj : JoinOK ws ws1 W1 isC) : va_P D vwCl ws1 H1 := by
  obtain ⟨isR, Wr, n, h1, h2, h3, h4, h5⟩ := hj
  intro k q h
  by_cases hkc : k ∈ isC
  · obtain ⟨j, -, hj⟩ := mapAt h1 hkc
    exact hP1 j q (by rw [← hj]; exact h)
  · have hkn : k < n := by rw [← h4]; exact (List.getElem?_eq_some_iff.mp h).1
    have hkr : k ∈ isR := by
      have h6 := List.all_eq_true.mp h5 k (List.mem_range.mpr hkn)
      simp only [Bool.or_eq_true, List.contains_iff_mem] at h6
      rcases h6 with h6 | h6
      · exact absurd h6 hkc
      · exact h6
    have hw : ws[k]? = some q := by
      obtain ⟨j, hj1, hj2⟩ := mapAt h2 hkr
      obtain ⟨i, hi1, hi2⟩ := mapAt h3 hkr
      have e1 : (isR.map (fun i => ws[i]?))[i]? = some (ws[k]?) := by rw [List.getElem?_map, hi1]; rfl
      rw [h2, List.getElem?_map] at e1
      rw [← hi2, h] at e1
      exact (Option.some.inj e1).symm
    refine (hP k q hw).kept (hk q.1 (hP k q hw).lt (fun ha => ?_))
    rcases ha with ⟨k2, e, h7⟩ | h7
    · have h8 : (isC.map (fun i => ws[i]?))[k2]? = some (some (q.1, e)) := by rw [hC, List.getElem?_map, h7]; rfl
      rw [List.getElem?_map] at h8
      cases hi : isC[k2]? with
      | none => rw [hi] at h8; cases h8
      | some i =>
        rw [hi] at h8
        have h9 := hD.1 k i q (q.1, e) hw (Option.some.inj h8) rfl
        exact hkc (by rw [h9]; exact List.mem_of_getElem? hi)
    · exact absurd (hP k q hw).lt (Nat.not_lt.mpr h7)
theorem w_same {H H1 : Heap} {W0 : va_W} {isC : List Nat} (hP : va_P D vwCl ws H) (hD : va_D A ws) (hC : isC.map (fun i => ws[i]?) = W0.map some) (hk : ∀ q : Nat, q < H.size → ¬ va_A W0 H.size q → H1[q]? = H[q]?) (hP1 : va_P D vwCl W0 H1) : va_P D vwCl ws H1 := by
  intro k q h
  by_cases ha : ∃ (k2 : Nat) (e : va_E), W0[k2]? = some (q.1, e)
  · obtain ⟨k2, e, h3⟩ := ha
    have h4 : (isC.map (fun i => ws[i]?))[k2]? = some (some (q.1, e)) := by rw [hC, List.getElem?_map, h3]; rfl
    rw [List.getElem?_map] at h4
    cases hi : isC[k2]? with
    | none => rw [hi] at h4; cases h4
    | some i =>
      rw [hi] at h4
      have h6 : ws[i]? = some (q.1, e) := Option.some.inj h4
      have h5 := hD.1 k i q (q.1, e) h h6 rfl
      subst h5
      have h7 : q = (q.1, e) := Option.some.inj (h.symm.trans h6)
      rw [h7]
      exact hP1 k2 _ h3
  · refine (hP k q h).kept (hk q.1 (hP k q h).lt (fun hx => ?_))
    rcases hx with hx | hx
    · exact ha hx
    · exact absurd (hP k q h).lt (Nat.not_lt.mpr hx)
theorem r_callVI (C : Cx p s m args meth c cc own nm Ts ret nL D tys zW zO A) {y : MethodName} {wy wy' : List Cond} {bytes : ByteArray} {maxL n index : Nat} {ret' : Option FieldType} {rm : Room} {As : List Value} {W0 W1 : va_W} {Cn : String} {b q0 ci : Nat} {fs : List Value} {qc : vw_C} {r : Int32} (hM : KI l y wy rm D tys zW zO (.ref b :: As) W0 W1 r) (hG : GoodIn Ts (wsV own index Cn y wy)) (hw : wy = Cond.code y bytes maxL ret' :: wy') (hrc : rm.cells = 0) (hrs : rm.slots = 0) (hd : y.cls = Cn ∧ y.cls ≠ "java/lang/invoke/MethodHandle" ∧ y.cls ≠ "java/lang/invoke/VarHandle" ∧ (parseMethodDescriptor y.desc).map (fun d => d.parameters.length) = some n) (hR : rm.frames + 1 ≤ R.frames ∧ 8 + (maxL + 11) + rm.locals ≤ R.locals) (hq : W0[q0]? = some (b, .inr (ci, fs))) (hci : vwCl[ci]? = some qc) (hCn : qc.1 = Cn) (hn : As.length = n) (isC : List Nat) (hnC : va_nd isC = true) (hC : isC.map (fun i => ws[i]?) = W0.map some) (hj : JoinOK ws ws1 W1 isC) (hadr : ws1.map Prod.fst = ws.map Prod.fst) (hst : As.reverse ++ .ref b :: rest = st) (hro : (rest.map fun v => v.category).sum ≤ 8) (d : decode cc pc = .ok (.invokevirtual index, 3)) (hcs : cells ≤ R.cells ∧ slots ≤ R.slots) (k : Mx p l e R s m args below meth c Q nL D A cells slots ws1 (pc + 3) lv (.int r :: rest)) : Mx p l e R s m args below meth c Q nL D A cells slots ws pc lv st := by
  intro H locs ls hP hD hS hl
  have hFc := va_free (wc := W0) hD hS C.2.2.2.2.2.2.2.1 isC hC
  refine va_calli (va_runV (As := As) (rest := rest) ⟨C.1, C.2.1, C.2.2.2.1, C.2.2.2.2.1, C.2.2.2.2.2.1⟩ (hM H.size) (cwV n C.2.2.2.2.2.1 hG hw hrc hrs hd hR) ⟨wPre.blind, by rw [← hCn]; exact va_recv (q := qc) C.2.2.2.2.2.2.2.2.1 (w_pick hP hC) hci hq, w_pre C hnC hP hD hS hC⟩ rfl hn hl.1 hst.symm (lv_room hro) d hcs) hS (fun q _ h => hFc q h) hFc (fun x u t H1 locs1 ht hvm hw9 hB hz1 hk1 hS1 => ?_)
  obtain ⟨hP1, hK1, hD1⟩ := hB
  rw [ht] at hP1
  have hP2 := w_join hP hD hC hk1 hP1 hj
  subst hw9
  exact k H1 locs1 ls hP2 (w_addr hD hadr) hS1 hl
theorem r_callVL (C : Cx p s m args meth c cc own nm Ts ret nL D tys zW zO A) {y : MethodName} {wy wy' : List Cond} {bytes : ByteArray} {maxL n index : Nat} {ret' : Option FieldType} {rm : Room} {As : List Value} {W0 W1 : va_W} {Cn : String} {b q0 ci : Nat} {fs : List Value} {qc : vw_C} {r : Int64} (hM : KL l y wy rm D tys zW zO (.ref b :: As) W0 W1 r) (hG : GoodIn Ts (wsV own index Cn y wy)) (hw : wy = Cond.code y bytes maxL ret' :: wy') (hrc : rm.cells = 0) (hrs : rm.slots = 0) (hd : y.cls = Cn ∧ y.cls ≠ "java/lang/invoke/MethodHandle" ∧ y.cls ≠ "java/lang/invoke/VarHandle" ∧ (parseMethodDescriptor y.desc).map (fun d => d.parameters.length) = some n) (hR : rm.frames + 1 ≤ R.frames ∧ 8 + (maxL + 11) + rm.locals ≤ R.locals) (hq : W0[q0]? = some (b, .inr (ci, fs))) (hci : vwCl[ci]? = some qc) (hCn : qc.1 = Cn) (hn : As.length = n) (isC : List Nat) (hnC : va_nd isC = true) (hC : isC.map (fun i => ws[i]?) = W0.map some) (hj : JoinOK ws ws1 W1 isC) (hadr : ws1.map Prod.fst = ws.map Prod.fst) (hst : As.reverse ++ .ref b :: rest = st) (hro : (rest.map fun v => v.category).sum ≤ 8) (d : decode cc pc = .ok (.invokevirtual index, 3)) (hcs : cells ≤ R.cells ∧ slots ≤ R.slots) (k : Mx p l e R s m args below meth c Q nL D A cells slots ws1 (pc + 3) lv (.long r :: rest)) : Mx p l e R s m args below meth c Q nL D A cells slots ws pc lv st := by
  intro H locs ls hP hD hS hl
  have hFc := va_free (wc := W0) hD hS C.2.2.2.2.2.2.2.1 isC hC
  refine va_calll (va_runV (As := As) (rest := rest) ⟨C.1, C.2.1, C.2.2.2.1, C.2.2.2.2.1, C.2.2.2.2.2.1⟩ (hM H.size) (cwV n C.2.2.2.2.2.1 hG hw hrc hrs hd hR) ⟨wPre.blind, by rw [← hCn]; exact va_recv (q := qc) C.2.2.2.2.2.2.2.2.1 (w_pick hP hC) hci hq, w_pre C hnC hP hD hS hC⟩ rfl hn hl.1 hst.symm (lv_room hro) d hcs) hS (fun q _ h => hFc q h) hFc (fun x u t H1 locs1 ht hvm hw9 hB hz1 hk1 hS1 => ?_)
  obtain ⟨hP1, hK1, hD1⟩ := hB
  rw [ht] at hP1
  have hP2 := w_join hP hD hC hk1 hP1 hj
  subst hw9
  exact k H1 locs1 ls hP2 (w_addr hD hadr) hS1 hl
theorem r_callVV (C : Cx p s m args meth c cc own nm Ts ret nL D tys zW zO A) {y : MethodName} {wy wy' : List Cond} {bytes : ByteArray} {maxL n index : Nat} {ret' : Option FieldType} {rm : Room} {As : List Value} {W0 W1 : va_W} {Cn : String} {b q0 ci : Nat} {fs : List Value} {qc : vw_C}  (hM : KV l y wy rm D tys zW zO (.ref b :: As) W0 W1) (hG : GoodIn Ts (wsV own index Cn y wy)) (hw : wy = Cond.code y bytes maxL ret' :: wy') (hrc : rm.cells = 0) (hrs : rm.slots = 0) (hd : y.cls = Cn ∧ y.cls ≠ "java/lang/invoke/MethodHandle" ∧ y.cls ≠ "java/lang/invoke/VarHandle" ∧ (parseMethodDescriptor y.desc).map (fun d => d.parameters.length) = some n) (hR : rm.frames + 1 ≤ R.frames ∧ 8 + (maxL + 11) + rm.locals ≤ R.locals) (hq : W0[q0]? = some (b, .inr (ci, fs))) (hci : vwCl[ci]? = some qc) (hCn : qc.1 = Cn) (hn : As.length = n) (isC : List Nat) (hnC : va_nd isC = true) (hC : isC.map (fun i => ws[i]?) = W0.map some) (hj : JoinOK ws ws1 W1 isC) (hadr : ws1.map Prod.fst = ws.map Prod.fst) (hst : As.reverse ++ .ref b :: rest = st) (hro : (rest.map fun v => v.category).sum ≤ 8) (d : decode cc pc = .ok (.invokevirtual index, 3)) (hcs : cells ≤ R.cells ∧ slots ≤ R.slots) (k : Mx p l e R s m args below meth c Q nL D A cells slots ws1 (pc + 3) lv (rest)) : Mx p l e R s m args below meth c Q nL D A cells slots ws pc lv st := by
  intro H locs ls hP hD hS hl
  have hFc := va_free (wc := W0) hD hS C.2.2.2.2.2.2.2.1 isC hC
  refine va_callv (va_runV (As := As) (rest := rest) ⟨C.1, C.2.1, C.2.2.2.1, C.2.2.2.2.1, C.2.2.2.2.2.1⟩ (hM H.size) (cwV n C.2.2.2.2.2.1 hG hw hrc hrs hd hR) ⟨wPre.blind, by rw [← hCn]; exact va_recv (q := qc) C.2.2.2.2.2.2.2.2.1 (w_pick hP hC) hci hq, w_pre C hnC hP hD hS hC⟩ rfl hn hl.1 hst.symm (lv_room hro) d hcs) hS (fun q _ h => hFc q h) hFc (fun u t H1 locs1 ht hvm hw9 hB hz1 hk1 hS1 => ?_)
  obtain ⟨hP1, hK1, hD1⟩ := hB
  rw [ht] at hP1
  have hP2 := w_join hP hD hC hk1 hP1 hj
  exact k H1 locs1 ls hP2 (w_addr hD hadr) hS1 hl
theorem r_callSI (C : Cx p s m args meth c cc own nm Ts ret nL D tys zW zO A) {y : MethodName} {wy wy' : List Cond} {bytes : ByteArray} {maxL n index : Nat} {ret' : Option FieldType} {rm : Room} {As : List Value} {W0 W1 : va_W}  {r : Int32} (hM : KI l y wy rm D tys zW zO As W0 W1 r) (hG : GoodIn Ts (va_wsS own index y wy)) (hw : wy = Cond.code y bytes maxL ret' :: wy') (hrc : rm.cells = 0) (hrs : rm.slots = 0) (hd : y.cls ≠ "java/lang/invoke/MethodHandle" ∧ y.cls ≠ "java/lang/invoke/VarHandle" ∧ (parseMethodDescriptor y.desc).map (fun d => d.parameters.length) = some n) (hR : rm.frames + 1 ≤ R.frames ∧ 8 + (maxL + 11) + rm.locals ≤ R.locals) (hn : As.length = n) (isC : List Nat) (hnC : va_nd isC = true) (hC : isC.map (fun i => ws[i]?) = W0.map some) (hj : JoinOK ws ws1 W1 isC) (hadr : ws1.map Prod.fst = ws.map Prod.fst) (hst : As.reverse ++ rest = st) (hro : (rest.map fun v => v.category).sum ≤ 8) (d : decode cc pc = .ok (.invokestatic index, 3)) (hcs : cells ≤ R.cells ∧ slots ≤ R.slots) (k : Mx p l e R s m args below meth c Q nL D A cells slots ws1 (pc + 3) lv (.int r :: rest)) : Mx p l e R s m args below meth c Q nL D A cells slots ws pc lv st := by
  intro H locs ls hP hD hS hl
  have hFc := va_free (wc := W0) hD hS C.2.2.2.2.2.2.2.1 isC hC
  refine va_calli (va_runS (As := As) (rest := rest) ⟨C.1, C.2.1, C.2.2.2.1, C.2.2.2.2.1, C.2.2.2.2.2.1⟩ (hM H.size) (va_cwS n C.2.2.2.2.2.1 hG hw hrc hrs hd hR) ⟨wPre.blind, w_pre C hnC hP hD hS hC⟩ rfl hn hl.1 hst.symm (lv_room hro) d hcs) hS (fun q _ h => hFc q h) hFc (fun x u t H1 locs1 ht hvm hw9 hB hz1 hk1 hS1 => ?_)
  obtain ⟨hP1, hK1, hD1⟩ := hB
  rw [ht] at hP1
  have hP2 := w_join hP hD hC hk1 hP1 hj
  subst hw9
  exact k H1 locs1 ls hP2 (w_addr hD hadr) hS1 hl
theorem r_callSNI (C : Cx p s m args meth c cc own nm Ts ret nL D tys zW zO A) {y : MethodName} {wy wy' : List Cond} {bytes : ByteArray} {maxL n index : Nat} {ret' : Option FieldType} {rm : Room} {As : List Value} {W0 W1 : va_W} {host : String} {r : Int32} (hM : KI l y wy rm D tys zW zO As W0 W1 r) (hG : GoodIn Ts wy) (hw : wy = Cond.code y bytes maxL ret' :: wy') (hrc : rm.cells = 0) (hrs : rm.slots = 0) (hnl : (own, index, y, host) ∈ nestL) (hini : Cond.initialized y.cls ∈ Ts) (hsta : Cond.static y ∈ Ts) (hd : y.cls ≠ "java/lang/invoke/MethodHandle" ∧ y.cls ≠ "java/lang/invoke/VarHandle" ∧ (parseMethodDescriptor y.desc).map (fun d => d.parameters.length) = some n) (hR : rm.frames + 1 ≤ R.frames ∧ 8 + (maxL + 11) + rm.locals ≤ R.locals) (hn : As.length = n) (isC : List Nat) (hnC : va_nd isC = true) (hC : isC.map (fun i => ws[i]?) = W0.map some) (hj : JoinOK ws ws1 W1 isC) (hadr : ws1.map Prod.fst = ws.map Prod.fst) (hst : As.reverse ++ rest = st) (hro : (rest.map fun v => v.category).sum ≤ 8) (d : decode cc pc = .ok (.invokestatic index, 3)) (hcs : cells ≤ R.cells ∧ slots ≤ R.slots) (k : Mx p l e R s m args below meth c Q nL D A cells slots ws1 (pc + 3) lv (.int r :: rest)) : Mx p l e R s m args below meth c Q nL D A cells slots ws pc lv st := by
  intro H locs ls hP hD hS hl
  have hFc := va_free (wc := W0) hD hS C.2.2.2.2.2.2.2.1 isC hC
  refine va_calli (va_runSN (As := As) (rest := rest) ⟨C.1, C.2.1, C.2.2.2.1, C.2.2.2.2.1, C.2.2.2.2.2.1⟩ (hM H.size) ⟨va_cnB n C.2.2.2.2.2.1 hG hw hrc hrs (C.2.2.2.2.2.2.2.2.2.2.1.1 _ hnl) (C.2.2.2.2.2.1 _ hini) hd hR, C.2.2.2.2.2.1 _ hsta, trivial⟩ ⟨wPre.blind, w_pre C hnC hP hD hS hC⟩ rfl hn hl.1 hst.symm (lv_room hro) d hcs) hS (fun q _ h => hFc q h) hFc (fun x u t H1 locs1 ht hvm hw9 hB hz1 hk1 hS1 => ?_)
  obtain ⟨hP1, hK1, hD1⟩ := hB
  rw [ht] at hP1
  have hP2 := w_join hP hD hC hk1 hP1 hj
  subst hw9
  exact k H1 locs1 ls hP2 (w_addr hD hadr) hS1 hl
theorem r_readVI (C : Cx p s m args meth c cc own nm Ts ret nL D tys zW zO A) {y : MethodName} {wy wy' : List Cond} {bytes : ByteArray} {maxL n index : Nat} {ret' : Option FieldType} {rm : Room} {As : List Value} {W0 : va_W} {Cn : String} {b q0 ci : Nat} {fs : List Value} {qc : vw_C} {r : Int32} (hM : KI l y wy rm D tys zW zO (.ref b :: As) W0 W0 r) (hG : GoodIn Ts (wsV own index Cn y wy)) (hw : wy = Cond.code y bytes maxL ret' :: wy') (hrc : rm.cells = 0) (hrs : rm.slots = 0) (hd : y.cls = Cn ∧ y.cls ≠ "java/lang/invoke/MethodHandle" ∧ y.cls ≠ "java/lang/invoke/VarHandle" ∧ (parseMethodDescriptor y.desc).map (fun d => d.parameters.length) = some n) (hR : rm.frames + 1 ≤ R.frames ∧ 8 + (maxL + 11) + rm.locals ≤ R.locals) (hq : W0[q0]? = some (b, .inr (ci, fs))) (hci : vwCl[ci]? = some qc) (hCn : qc.1 = Cn) (hn : As.length = n) (isC : List Nat) (hnC : va_nd isC = true) (hC : isC.map (fun i => ws[i]?) = W0.map some) (hst : As.reverse ++ .ref b :: rest = st) (hro : (rest.map fun v => v.category).sum ≤ 8) (d : decode cc pc = .ok (.invokevirtual index, 3)) (hcs : cells ≤ R.cells ∧ slots ≤ R.slots) (k : Mx p l e R s m args below meth c Q nL D A cells slots ws (pc + 3) lv (.int r :: rest)) : Mx p l e R s m args below meth c Q nL D A cells slots ws pc lv st := by
  intro H locs ls hP hD hS hl
  have hFc := va_free (wc := W0) hD hS C.2.2.2.2.2.2.2.1 isC hC
  refine va_calli (va_runV (As := As) (rest := rest) ⟨C.1, C.2.1, C.2.2.2.1, C.2.2.2.2.1, C.2.2.2.2.2.1⟩ (hM H.size) (cwV n C.2.2.2.2.2.1 hG hw hrc hrs hd hR) ⟨wPre.blind, by rw [← hCn]; exact va_recv (q := qc) C.2.2.2.2.2.2.2.2.1 (w_pick hP hC) hci hq, w_pre C hnC hP hD hS hC⟩ rfl hn hl.1 hst.symm (lv_room hro) d hcs) hS (fun q _ h => hFc q h) hFc (fun x u t H1 locs1 ht hvm hw9 hB hz1 hk1 hS1 => ?_)
  obtain ⟨hP1, hK1, hD1⟩ := hB
  rw [ht] at hP1
  have hP2 := w_same hP hD hC hk1 hP1
  subst hw9
  exact k H1 locs1 ls hP2 hD hS1 hl
theorem r_readSI (C : Cx p s m args meth c cc own nm Ts ret nL D tys zW zO A) {y : MethodName} {wy wy' : List Cond} {bytes : ByteArray} {maxL n index : Nat} {ret' : Option FieldType} {rm : Room} {As : List Value} {W0 : va_W}  {r : Int32} (hM : KI l y wy rm D tys zW zO As W0 W0 r) (hG : GoodIn Ts (va_wsS own index y wy)) (hw : wy = Cond.code y bytes maxL ret' :: wy') (hrc : rm.cells = 0) (hrs : rm.slots = 0) (hd : y.cls ≠ "java/lang/invoke/MethodHandle" ∧ y.cls ≠ "java/lang/invoke/VarHandle" ∧ (parseMethodDescriptor y.desc).map (fun d => d.parameters.length) = some n) (hR : rm.frames + 1 ≤ R.frames ∧ 8 + (maxL + 11) + rm.locals ≤ R.locals) (hn : As.length = n) (isC : List Nat) (hnC : va_nd isC = true) (hC : isC.map (fun i => ws[i]?) = W0.map some) (hst : As.reverse ++ rest = st) (hro : (rest.map fun v => v.category).sum ≤ 8) (d : decode cc pc = .ok (.invokestatic index, 3)) (hcs : cells ≤ R.cells ∧ slots ≤ R.slots) (k : Mx p l e R s m args below meth c Q nL D A cells slots ws (pc + 3) lv (.int r :: rest)) : Mx p l e R s m args below meth c Q nL D A cells slots ws pc lv st := by
  intro H locs ls hP hD hS hl
  have hFc := va_free (wc := W0) hD hS C.2.2.2.2.2.2.2.1 isC hC
  refine va_calli (va_runS (As := As) (rest := rest) ⟨C.1, C.2.1, C.2.2.2.1, C.2.2.2.2.1, C.2.2.2.2.2.1⟩ (hM H.size) (va_cwS n C.2.2.2.2.2.1 hG hw hrc hrs hd hR) ⟨wPre.blind, w_pre C hnC hP hD hS hC⟩ rfl hn hl.1 hst.symm (lv_room hro) d hcs) hS (fun q _ h => hFc q h) hFc (fun x u t H1 locs1 ht hvm hw9 hB hz1 hk1 hS1 => ?_)
  obtain ⟨hP1, hK1, hD1⟩ := hB
  rw [ht] at hP1
  have hP2 := w_same hP hD hC hk1 hP1
  subst hw9
  exact k H1 locs1 ls hP2 hD hS1 hl
theorem r_readSNI (C : Cx p s m args meth c cc own nm Ts ret nL D tys zW zO A) {y : MethodName} {wy wy' : List Cond} {bytes : ByteArray} {maxL n index : Nat} {ret' : Option FieldType} {rm : Room} {As : List Value} {W0 : va_W} {host : String} {r : Int32} (hM : KI l y wy rm D tys zW zO As W0 W0 r) (hG : GoodIn Ts wy) (hw : wy = Cond.code y bytes maxL ret' :: wy') (hrc : rm.cells = 0) (hrs : rm.slots = 0) (hnl : (own, index, y, host) ∈ nestL) (hini : Cond.initialized y.cls ∈ Ts) (hsta : Cond.static y ∈ Ts) (hd : y.cls ≠ "java/lang/invoke/MethodHandle" ∧ y.cls ≠ "java/lang/invoke/VarHandle" ∧ (parseMethodDescriptor y.desc).map (fun d => d.parameters.length) = some n) (hR : rm.frames + 1 ≤ R.frames ∧ 8 + (maxL + 11) + rm.locals ≤ R.locals) (hn : As.length = n) (isC : List Nat) (hnC : va_nd isC = true) (hC : isC.map (fun i => ws[i]?) = W0.map some) (hst : As.reverse ++ rest = st) (hro : (rest.map fun v => v.category).sum ≤ 8) (d : decode cc pc = .ok (.invokestatic index, 3)) (hcs : cells ≤ R.cells ∧ slots ≤ R.slots) (k : Mx p l e R s m args below meth c Q nL D A cells slots ws (pc + 3) lv (.int r :: rest)) : Mx p l e R s m args below meth c Q nL D A cells slots ws pc lv st := by
  intro H locs ls hP hD hS hl
  have hFc := va_free (wc := W0) hD hS C.2.2.2.2.2.2.2.1 isC hC
  refine va_calli (va_runSN (As := As) (rest := rest) ⟨C.1, C.2.1, C.2.2.2.1, C.2.2.2.2.1, C.2.2.2.2.2.1⟩ (hM H.size) ⟨va_cnB n C.2.2.2.2.2.1 hG hw hrc hrs (C.2.2.2.2.2.2.2.2.2.2.1.1 _ hnl) (C.2.2.2.2.2.1 _ hini) hd hR, C.2.2.2.2.2.1 _ hsta, trivial⟩ ⟨wPre.blind, w_pre C hnC hP hD hS hC⟩ rfl hn hl.1 hst.symm (lv_room hro) d hcs) hS (fun q _ h => hFc q h) hFc (fun x u t H1 locs1 ht hvm hw9 hB hz1 hk1 hS1 => ?_)
  obtain ⟨hP1, hK1, hD1⟩ := hB
  rw [ht] at hP1
  have hP2 := w_same hP hD hC hk1 hP1
  subst hw9
  exact k H1 locs1 ls hP2 hD hS1 hl
theorem r_callIC (C : Cx p s m args meth c cc own nm Ts ret nL D tys zW zO A) {y : MethodName} {wy wy' : List Cond} {bytes : ByteArray} {maxL n index : Nat} {rm : Room} {As : List Value} {W0 Wr : va_W} {b : Nat} {W1 : (Nat → Nat) → va_W} {wsn : (Nat → Nat) → va_W} {mc ms : Nat} (hM : KC l y wy rm D tys zW zO (.ref b :: As) W0 W1 mc ms) (hG : GoodIn Ts wy) (hw : wy = Cond.code y bytes maxL none :: wy') (hrc : rm.cells = mc) (hrs : rm.slots = ms) (hini : Cond.initialized y.cls ∈ Ts) (hlk : Cond.methodLink own index y ∈ Ts) (hin : Cond.instanceMethod y ∈ Ts) (hy1 : y.name = "<init>") (hd : y.cls ≠ "java/lang/invoke/MethodHandle" ∧ y.cls ≠ "java/lang/invoke/VarHandle" ∧ (parseMethodDescriptor y.desc).map (fun d => d.parameters.length) = some n) (hR : rm.frames + 1 ≤ R.frames ∧ 8 + (maxL + 11) + rm.locals ≤ R.locals) (hn : As.length = n) (isC isR isP : List Nat) (hnC : va_nd isC = true) (hnR : va_nd isR = true) (hnP : va_nd isP = true) (hdis : ∀ i ∈ isR, i ∉ isC) (hC : isC.map (fun i => ws[i]?) = W0.map some) (hRr : isR.map (fun i => ws[i]?) = Wr.map some) (hPp : ∀ u, isP.map (fun i => (Wr ++ W1 u)[i]?) = (wsn u).map some) (hst : As.reverse ++ .ref b :: rest = st) (hro : (rest.map fun v => v.category).sum ≤ 8) (d : decode cc pc = .ok (.invokespecial index, 3)) (hcs : cells + mc ≤ R.cells ∧ slots + ms ≤ R.slots) (k : ∀ u, Mx p l e R s m args below meth c Q nL D A (cells + mc) (slots + ms) (wsn u) (pc + 3) lv rest) : Mx p l e R s m args below meth c Q nL D A cells slots ws pc lv st := by
  intro H locs ls hP hD hS hl
  have hFc := va_free (wc := W0) hD hS C.2.2.2.2.2.2.2.1 isC hC
  refine va_callv (va_runI (As := As) (rest := rest) ⟨C.1, C.2.1, C.2.2.2.1, C.2.2.2.2.1, C.2.2.2.2.2.1⟩ (hM H.size) (cwI n C.2.2.2.2.2.1 hG hw hrc hrs (C.2.2.2.2.2.1 _ hini) (C.2.2.2.2.2.1 _ hlk) (C.2.2.2.2.2.1 _ hin) hy1 hd hR) ⟨wPre.blind, w_pre C hnC hP hD hS hC⟩ rfl hn hl.1 hst.symm (lv_room hro) d hcs) hS (fun q _ h => hFc q h) hFc (fun u t H1 locs1 ht hvm hw9 hB hz1 hk1 hS1 => ?_)
  obtain ⟨hP1, hK1, hD1⟩ := hB
  rw [ht] at hP1
  obtain ⟨hP2, hD2⟩ := va_join (wr := Wr) (w1 := W1 u) hP hD isC isR hC hRr hnR hdis hk1 hFc hP1 hD1
  exact k u H1 locs1 ls (w_pick hP2 (hPp u)) (hD2.sub isP hnP (hPp u)) hS1 hl
theorem r_callINC (C : Cx p s m args meth c cc own nm Ts ret nL D tys zW zO A) {y : MethodName} {wy wy' : List Cond} {bytes : ByteArray} {maxL n index : Nat} {rm : Room} {As : List Value} {W0 Wr : va_W} {b : Nat} {host : String} {W1 : (Nat → Nat) → va_W} {wsn : (Nat → Nat) → va_W} {mc ms : Nat} (hM : KC l y wy rm D tys zW zO (.ref b :: As) W0 W1 mc ms) (hG : GoodIn Ts wy) (hw : wy = Cond.code y bytes maxL none :: wy') (hrc : rm.cells = mc) (hrs : rm.slots = ms) (hnl : (own, index, y, host) ∈ nestL) (hini : Cond.initialized y.cls ∈ Ts) (hin : Cond.instanceMethod y ∈ Ts) (hy1 : y.name = "<init>") (hd : y.cls ≠ "java/lang/invoke/MethodHandle" ∧ y.cls ≠ "java/lang/invoke/VarHandle" ∧ (parseMethodDescriptor y.desc).map (fun d => d.parameters.length) = some n) (hR : rm.frames + 1 ≤ R.frames ∧ 8 + (maxL + 11) + rm.locals ≤ R.locals) (hn : As.length = n) (isC isR isP : List Nat) (hnC : va_nd isC = true) (hnR : va_nd isR = true) (hnP : va_nd isP = true) (hdis : ∀ i ∈ isR, i ∉ isC) (hC : isC.map (fun i => ws[i]?) = W0.map some) (hRr : isR.map (fun i => ws[i]?) = Wr.map some) (hPp : ∀ u, isP.map (fun i => (Wr ++ W1 u)[i]?) = (wsn u).map some) (hst : As.reverse ++ .ref b :: rest = st) (hro : (rest.map fun v => v.category).sum ≤ 8) (d : decode cc pc = .ok (.invokespecial index, 3)) (hcs : cells + mc ≤ R.cells ∧ slots + ms ≤ R.slots) (k : ∀ u, Mx p l e R s m args below meth c Q nL D A (cells + mc) (slots + ms) (wsn u) (pc + 3) lv rest) : Mx p l e R s m args below meth c Q nL D A cells slots ws pc lv st := by
  intro H locs ls hP hD hS hl
  have hFc := va_free (wc := W0) hD hS C.2.2.2.2.2.2.2.1 isC hC
  refine va_callv (va_runIN (As := As) (rest := rest) ⟨C.1, C.2.1, C.2.2.2.1, C.2.2.2.2.1, C.2.2.2.2.2.1⟩ (hM H.size) ⟨va_cnB n C.2.2.2.2.2.1 hG hw hrc hrs (C.2.2.2.2.2.2.2.2.2.2.1.1 _ hnl) (C.2.2.2.2.2.1 _ hini) hd hR, hy1, C.2.2.2.2.2.1 _ hin⟩ ⟨wPre.blind, w_pre C hnC hP hD hS hC⟩ rfl hn hl.1 hst.symm (lv_room hro) d hcs) hS (fun q _ h => hFc q h) hFc (fun u t H1 locs1 ht hvm hw9 hB hz1 hk1 hS1 => ?_)
  obtain ⟨hP1, hK1, hD1⟩ := hB
  rw [ht] at hP1
  obtain ⟨hP2, hD2⟩ := va_join (wr := Wr) (w1 := W1 u) hP hD isC isR hC hRr hnR hdis hk1 hFc hP1 hD1
  exact k u H1 locs1 ls (w_pick hP2 (hPp u)) (hD2.sub isP hnP (hPp u)) hS1 hl
theorem enterI {y : MethodName} {wy wy' : List Cond} {rm : Room} {av : List Value} {W0 W1 : va_W} {r : Int32} (hy : plainName y.cls = true) (hw : wy = Cond.code y cc nL ret :: wy') (hlen : (lg_sl av).length ≤ nL) (body : ∀ (p : Program) (e : Env) (s : State) (m : MethodId) (below : List Frame) (meth : Method) (c : Code) (A : Nat → Prop), Cx p s m av.toArray meth c cc y.cls y.name wy ret nL D tys zW zO A → Mx p l e rm s m av.toArray below meth c (MQ below (QI D tys A W1 r) av.toArray s 0 0 A) nL D A 0 0 W0 0 (lv_args 0 av) []) : KI l y wy rm D tys zW zO av W0 W1 r := by
  intro sz
  refine Met.ofW (cc := cc) (maxL := nL) (ret := ret) hy hw ?_
  intro p e s m args below meth c s₁ B hml hv
  obtain ⟨rfl, hsz, hP, hK, hD0, hZ, hN⟩ := hv
  subst hsz
  have hA : ∀ q : Nat, s.heap.size ≤ q → va_A W0 s.heap.size q := fun q h => Or.inr h
  have C : Cx p s m av.toArray meth c cc y.cls y.name wy ret nL D tys zW zO (va_A W0 s.heap.size) := ⟨B.exec, B.bytes, B.returns, hml, findClass_of_methodNamed B.named, atoms_spec (ws := wy) B.pre, B.notSynchronized, hA, hK, hZ, hN, (name_of_methodNamed B.named B.method).1⟩
  have hl := lv_entry av (n := nL) hlen
  rw [lg_entry_eq]
  exact body p e s m below meth c (va_A W0 s.heap.size) C s.heap [] _ hP hD0.self va_S.rf hl
theorem enterL {y : MethodName} {wy wy' : List Cond} {rm : Room} {av : List Value} {W0 W1 : va_W} {r : Int64} (hy : plainName y.cls = true) (hw : wy = Cond.code y cc nL ret :: wy') (hlen : (lg_sl av).length ≤ nL) (body : ∀ (p : Program) (e : Env) (s : State) (m : MethodId) (below : List Frame) (meth : Method) (c : Code) (A : Nat → Prop), Cx p s m av.toArray meth c cc y.cls y.name wy ret nL D tys zW zO A → Mx p l e rm s m av.toArray below meth c (MQ below (QL D tys A W1 r) av.toArray s 0 0 A) nL D A 0 0 W0 0 (lv_args 0 av) []) : KL l y wy rm D tys zW zO av W0 W1 r := by
  intro sz
  refine Met.ofW (cc := cc) (maxL := nL) (ret := ret) hy hw ?_
  intro p e s m args below meth c s₁ B hml hv
  obtain ⟨rfl, hsz, hP, hK, hD0, hZ, hN⟩ := hv
  subst hsz
  have hA : ∀ q : Nat, s.heap.size ≤ q → va_A W0 s.heap.size q := fun q h => Or.inr h
  have C : Cx p s m av.toArray meth c cc y.cls y.name wy ret nL D tys zW zO (va_A W0 s.heap.size) := ⟨B.exec, B.bytes, B.returns, hml, findClass_of_methodNamed B.named, atoms_spec (ws := wy) B.pre, B.notSynchronized, hA, hK, hZ, hN, (name_of_methodNamed B.named B.method).1⟩
  have hl := lv_entry av (n := nL) hlen
  rw [lg_entry_eq]
  exact body p e s m below meth c (va_A W0 s.heap.size) C s.heap [] _ hP hD0.self va_S.rf hl
theorem enterV {y : MethodName} {wy wy' : List Cond} {rm : Room} {av : List Value} {W0 W1 : va_W}  (hy : plainName y.cls = true) (hw : wy = Cond.code y cc nL ret :: wy') (hlen : (lg_sl av).length ≤ nL) (body : ∀ (p : Program) (e : Env) (s : State) (m : MethodId) (below : List Frame) (meth : Method) (c : Code) (A : Nat → Prop), Cx p s m av.toArray meth c cc y.cls y.name wy ret nL D tys zW zO A → Mx p l e rm s m av.toArray below meth c (MQ below (QV D tys A W1) av.toArray s 0 0 A) nL D A 0 0 W0 0 (lv_args 0 av) []) : KV l y wy rm D tys zW zO av W0 W1 := by
  intro sz
  refine Met.ofW (cc := cc) (maxL := nL) (ret := ret) hy hw ?_
  intro p e s m args below meth c s₁ B hml hv
  obtain ⟨rfl, hsz, hP, hK, hD0, hZ, hN⟩ := hv
  subst hsz
  have hA : ∀ q : Nat, s.heap.size ≤ q → va_A W0 s.heap.size q := fun q h => Or.inr h
  have C : Cx p s m av.toArray meth c cc y.cls y.name wy ret nL D tys zW zO (va_A W0 s.heap.size) := ⟨B.exec, B.bytes, B.returns, hml, findClass_of_methodNamed B.named, atoms_spec (ws := wy) B.pre, B.notSynchronized, hA, hK, hZ, hN, (name_of_methodNamed B.named B.method).1⟩
  have hl := lv_entry av (n := nL) hlen
  rw [lg_entry_eq]
  exact body p e s m below meth c (va_A W0 s.heap.size) C s.heap [] _ hP hD0.self va_S.rf hl
theorem enterC {y : MethodName} {wy wy' : List Cond} {rm : Room} {av : List Value} {W0 : va_W} {W1 : (Nat → Nat) → va_W} {mc ms : Nat} (hy : plainName y.cls = true) (hw : wy = Cond.code y cc nL ret :: wy') (hlen : (lg_sl av).length ≤ nL) (body : ∀ (p : Program) (e : Env) (s : State) (m : MethodId) (below : List Frame) (meth : Method) (c : Code) (A : Nat → Prop), Cx p s m av.toArray meth c cc y.cls y.name wy ret nL D tys zW zO A → Mx p l e rm s m av.toArray below meth c (MQ below (QC D tys A W1) av.toArray s mc ms A) nL D A 0 0 W0 0 (lv_args 0 av) []) : KC l y wy rm D tys zW zO av W0 W1 mc ms := by
  intro sz
  refine Met.ofW (cc := cc) (maxL := nL) (ret := ret) hy hw ?_
  intro p e s m args below meth c s₁ B hml hv
  obtain ⟨rfl, hsz, hP, hK, hD0, hZ, hN⟩ := hv
  subst hsz
  have hA : ∀ q : Nat, s.heap.size ≤ q → va_A W0 s.heap.size q := fun q h => Or.inr h
  have C : Cx p s m av.toArray meth c cc y.cls y.name wy ret nL D tys zW zO (va_A W0 s.heap.size) := ⟨B.exec, B.bytes, B.returns, hml, findClass_of_methodNamed B.named, atoms_spec (ws := wy) B.pre, B.notSynchronized, hA, hK, hZ, hN, (name_of_methodNamed B.named B.method).1⟩
  have hl := lv_entry av (n := nL) hlen
  rw [lg_entry_eq]
  exact body p e s m below meth c (va_A W0 s.heap.size) C s.heap [] _ hP hD0.self va_S.rf hl
end MyRows
