/-! ===== FlagWash.weeks ===== -/
def fX9_weeks_82 (rec29 : Int32 → Int32 → (Nat → Int32) → (Nat → Int32) → (Nat → Int32) → Int32 → Int32 → Int64 → Option (Int32 × (Nat → Int32) × (Nat → Int32) × (Nat → Int32) × Int32 × Int32 × Int64)) (x1 : Int32) (x2 : Int32) (x3 : Int32) (tubs : Int32) (pegs : Int32) (flags : Int32) (pcl : (Nat → Int32)) (phr : (Nat → Int32)) (pho : (Nat → Int32)) (twh : (Nat → Int32)) (tlf : (Nat → Int32)) (tco : (Nat → Int32)) (twi : Int32) (tho : Int32) (seed : Int64) : Option (Int32 × (Nat → Int32) × (Nat → Int32) × (Nat → Int32) × Int32 × Int32 × Int64) :=
 (rec29 x2 (x3 + (1 : Int32)) twh tlf tco twi tho seed)
def gX9_weeks_29 (rec29 : Int32 → Int32 → (Nat → Int32) → (Nat → Int32) → (Nat → Int32) → Int32 → Int32 → Int64 → Option (Int32 × (Nat → Int32) × (Nat → Int32) × (Nat → Int32) × Int32 × Int32 × Int64)) (x1 : Int32) (x2 : Int32) (x3 : Int32) (tubs : Int32) (pegs : Int32) (flags : Int32) (pcl : (Nat → Int32)) (phr : (Nat → Int32)) (pho : (Nat → Int32)) (twh : (Nat → Int32)) (tlf : (Nat → Int32)) (tco : (Nat → Int32)) (twi : Int32) (tho : Int32) (seed : Int64) : Option (Int32 × (Nat → Int32) × (Nat → Int32) × (Nat → Int32) × Int32 × Int32 × Int64) :=
 (if x1 ≤ x3 then (some (x2, twh, tlf, tco, twi, tho, seed))
 else ((fX8_doByChance (jremL (((seed * (6364136223846793005 : Int64)) + (1442695040888963407 : Int64)).toUInt64 >>> ((33 : Int32).toInt64.toUInt64 &&& Int64.toUInt64 63)).toInt64 (10 : Int64)).toInt32 twh tlf tco twi tho tubs pegs flags pcl phr).bind fun u5 => ((fX8_pairsThatMayFight u5.1 flags pho).bind fun u6 => (if u6 ≤ 0 then (fX9_weeks_82 rec29 x1 x2 x3 tubs pegs flags pcl phr pho u5.1 u5.2.1 u5.2.2.1 u5.2.2.2.1 u5.2.2.2.2 ((seed * (6364136223846793005 : Int64)) + (1442695040888963407 : Int64)))
 else (fX9_weeks_82 rec29 x1 (x2 + (1 : Int32)) x3 tubs pegs flags pcl phr pho u5.1 u5.2.1 u5.2.2.1 u5.2.2.2.1 u5.2.2.2.2 ((seed * (6364136223846793005 : Int64)) + (1442695040888963407 : Int64)))))))
def fX9_weeks_29  (x1 : Int32) (tubs : Int32) (pegs : Int32) (flags : Int32) (pcl : (Nat → Int32)) (phr : (Nat → Int32)) (pho : (Nat → Int32)) : Nat → Int32 → Int32 → (Nat → Int32) → (Nat → Int32) → (Nat → Int32) → Int32 → Int32 → Int64 → Option (Int32 × (Nat → Int32) × (Nat → Int32) × (Nat → Int32) × Int32 × Int32 × Int64)
  | 0 => fun _ _ _ _ _ _ _ _ => none
  | n + 1 => fun x2 x3 twh tlf tco twi tho seed => gX9_weeks_29 (fX9_weeks_29  x1 tubs pegs flags pcl phr pho n) x1 x2 x3 tubs pegs flags pcl phr pho twh tlf tco twi tho seed
def fX9_weeks  (x1 : Int32) (tubs : Int32) (pegs : Int32) (flags : Int32) (pcl : (Nat → Int32)) (phr : (Nat → Int32)) (pho : (Nat → Int32)) (wh : (Nat → Int32)) (lf : (Nat → Int32)) (co : (Nat → Int32)) (wi : Int32) (ho : Int32) (twh : (Nat → Int32)) (tlf : (Nat → Int32)) (tco : (Nat → Int32)) (twi : Int32) (tho : Int32) (seed : Int64) : Option (Int32 × (Nat → Int32) × (Nat → Int32) × (Nat → Int32) × Int32 × Int32 × Int64) :=
 (if x1 < (1 : Int32) then (some ((-2 : Int32), twh, tlf, tco, twi, tho, seed))
 else (if x1 ≤ (30 : Int32) then ((fX8_copyFrom twh tlf tco wh lf co wi ho).bind fun u3 => (fX9_weeks_29  x1 tubs pegs flags pcl phr pho FU (0 : Int32) (0 : Int32) u3.1 u3.2.1 u3.2.2.1 u3.2.2.2.1 u3.2.2.2.2 seed))
 else (some ((-2 : Int32), twh, tlf, tco, twi, tho, seed))))
theorem hinX9_weeks_X9 : ∀ w ∈ u_ws RX9 TX9 12, w ∈ wsX9_weeks := fun w h => List.mem_cons_of_mem _ (List.mem_append_left _ (List.mem_append_left _ (List.mem_append_right _ h)))
theorem mX9_weeks_1 : Cond.fieldLink RX9 40 "FlagWash" "trial" "LFlagWash$Wash;" ∈ wsX9_weeks := List.mem_of_getElem? (i := 1) rfl
theorem mX9_weeks_2 : Cond.fieldLink RX9 36 "FlagWash" "now" "LFlagWash$Wash;" ∈ wsX9_weeks := List.mem_of_getElem? (i := 2) rfl
theorem mX9_weeks_3 : Cond.fieldLink RX9 74 "FlagWash" "seedNow" "J" ∈ wsX9_weeks := List.mem_of_getElem? (i := 3) rfl
theorem mX9_weeks_4 : Cond.constantLong RX9 237 (6364136223846793005) ∈ wsX9_weeks := List.mem_of_getElem? (i := 4) rfl
theorem mX9_weeks_5 : Cond.constantLong RX9 239 (1442695040888963407) ∈ wsX9_weeks := List.mem_of_getElem? (i := 5) rfl
theorem mX9_weeks_6 : Cond.constantLong RX9 241 (10) ∈ wsX9_weeks := List.mem_of_getElem? (i := 6) rfl
theorem hd_X9_weeks : yX9_weeks.cls ≠ "java/lang/invoke/MethodHandle" ∧ yX9_weeks.cls ≠ "java/lang/invoke/VarHandle" ∧ (parseMethodDescriptor yX9_weeks.desc).map (fun d => d.parameters.length) = some 1 := by decide +kernel
set_option maxHeartbeats 4000000 in
set_option maxRecDepth 100000 in
theorem LX9_weeks_82 {p : Program} {l : Launch} {e : Env} {s : State} {m : MethodId} {args : Array Value} {below : List Frame} {meth : Method} {c : Code} {D : va_G} {cyI cyZ cyW : ClassId} {zW zO : Nat} {A : Nat → Prop} (C : Cx p s m args meth c cX9_weeks RX9 "weeks" wsX9_weeks (some .int) 4 D (tyA cyI cyZ cyW) zW zO A) {ad : Nat → Nat} {letters : (Nat → Int32)} {length : Int32} {stage : Int32} {rco : Int32} {rcl : Int32} {ron : Int32} {rtubs : Int32} {rpegs : Int32} {rpwi : Int32} {rflags : Int32} {rpco : (Nat → Int32)} {rpcl : (Nat → Int32)} {rphr : (Nat → Int32)} {rpho : (Nat → Int32)} {tubs : Int32} {pegs : Int32} {pwi : Int32} {flags : Int32} {pco : (Nat → Int32)} {pcl : (Nat → Int32)} {phr : (Nat → Int32)} {pho : (Nat → Int32)} {wh : (Nat → Int32)} {lf : (Nat → Int32)} {co : (Nat → Int32)} {wi : Int32} {ho : Int32} {twh : (Nat → Int32)} {tlf : (Nat → Int32)} {tco : (Nat → Int32)} {twi : Int32} {tho : Int32} {first : Int32} {size : Int32} {awh : (Nat → Nat → Int32)} {alf : (Nat → Nat → Int32)} {aco : (Nat → Nat → Int32)} {awi : (Nat → Int32)} {aho : (Nat → Int32)} {sfl : (Nat → Int32)} {sco : (Nat → Int32)} {swt : (Nat → Int32)} {ssz : Int32} {kwh : (Nat → Nat → Int32)} {klf : (Nat → Nat → Int32)} {kco : (Nat → Nat → Int32)} {kwi : (Nat → Int32)} {kho : (Nat → Int32)} {kept : (Nat → Int32)} {seed : Int64} {x1 : Int32} {x2 : Int32} {x3 : Int32} {rec29 : Int32 → Int32 → (Nat → Int32) → (Nat → Int32) → (Nat → Int32) → Int32 → Int32 → Int64 → Option (Int32 × (Nat → Int32) × (Nat → Int32) × (Nat → Int32) × Int32 × Int32 × Int64)} {res : Int32 × (Nat → Int32) × (Nat → Int32) × (Nat → Int32) × Int32 × Int32 × Int64} (hrec29 : ∀ (x2 : Int32) (x3 : Int32) (twh : (Nat → Int32)) (tlf : (Nat → Int32)) (tco : (Nat → Int32)) (twi : Int32) (tho : Int32) (seed : Int64), rec29 x2 x3 twh tlf tco twi tho seed = some res → Mx p l e ({ frames := 5, cells := 0, slots := 0, locals := 107 } : Room) s m args below meth c (MQ below (QI D (tyA cyI cyZ cyW) A (wFW cyI cyZ cyW ad letters length stage rco rcl ron rtubs rpegs rpwi rflags rpco rpcl rphr rpho tubs pegs pwi flags pco pcl phr pho wh lf co wi ho res.2.1 res.2.2.1 res.2.2.2.1 res.2.2.2.2.1 res.2.2.2.2.2.1 first size awh alf aco awi aho sfl sco swt ssz kwh klf kco kwi kho kept res.2.2.2.2.2.2) res.1) args s 0 0 A) 4 D A 0 0 (wFW cyI cyZ cyW ad letters length stage rco rcl ron rtubs rpegs rpwi rflags rpco rpcl rphr rpho tubs pegs pwi flags pco pcl phr pho wh lf co wi ho twh tlf tco twi tho first size awh alf aco awi aho sfl sco swt ssz kwh klf kco kwi kho kept seed) 29 [(0, .ref (ad 0)), (1, .int x1), (2, .int x2), (3, .int x3)] []) (h : fX9_weeks_82 rec29 x1 x2 x3 tubs pegs flags pcl phr pho twh tlf tco twi tho seed = some res) : Mx p l e ({ frames := 5, cells := 0, slots := 0, locals := 107 } : Room) s m args below meth c (MQ below (QI D (tyA cyI cyZ cyW) A (wFW cyI cyZ cyW ad letters length stage rco rcl ron rtubs rpegs rpwi rflags rpco rpcl rphr rpho tubs pegs pwi flags pco pcl phr pho wh lf co wi ho res.2.1 res.2.2.1 res.2.2.2.1 res.2.2.2.2.1 res.2.2.2.2.2.1 first size awh alf aco awi aho sfl sco swt ssz kwh klf kco kwi kho kept res.2.2.2.2.2.2) res.1) args s 0 0 A) 4 D A 0 0 (wFW cyI cyZ cyW ad letters length stage rco rcl ron rtubs rpegs rpwi rflags rpco rpcl rphr rpho tubs pegs pwi flags pco pcl phr pho wh lf co wi ho twh tlf tco twi tho first size awh alf aco awi aho sfl sco swt ssz kwh klf kco kwi kho kept seed) 82 [(0, .ref (ad 0)), (1, .int x1), (2, .int x2), (3, .int x3)] [] := by
  unfold fX9_weeks_82 at h
  refine r_iinc (v := 1) (lv' := [(3, .int (x3 + (1 : Int32))), (0, .ref (ad 0)), (1, .int x1), (2, .int x2)]) C dX9_weeks_82 3 rfl ic_1 (by decide) rfl ?_
  refine r_goto (tgt := 29) C dX9_weeks_85 (by decide) ?_
  refine r_lv (lv' := [(0, .ref (ad 0)), (1, .int x1), (2, .int x2), (3, .int (x3 + (1 : Int32)))]) [1, 2, 3, 0] rfl ?_
  exact hrec29 x2 (x3 + (1 : Int32)) twh tlf tco twi tho seed h
set_option maxHeartbeats 4000000 in
set_option maxRecDepth 100000 in
theorem LGX9_weeks_29 {p : Program} {l : Launch} {e : Env} {s : State} {m : MethodId} {args : Array Value} {below : List Frame} {meth : Method} {c : Code} {D : va_G} {cyI cyZ cyW : ClassId} {zW zO : Nat} {A : Nat → Prop} (C : Cx p s m args meth c cX9_weeks RX9 "weeks" wsX9_weeks (some .int) 4 D (tyA cyI cyZ cyW) zW zO A) {ad : Nat → Nat} {letters : (Nat → Int32)} {length : Int32} {stage : Int32} {rco : Int32} {rcl : Int32} {ron : Int32} {rtubs : Int32} {rpegs : Int32} {rpwi : Int32} {rflags : Int32} {rpco : (Nat → Int32)} {rpcl : (Nat → Int32)} {rphr : (Nat → Int32)} {rpho : (Nat → Int32)} {tubs : Int32} {pegs : Int32} {pwi : Int32} {flags : Int32} {pco : (Nat → Int32)} {pcl : (Nat → Int32)} {phr : (Nat → Int32)} {pho : (Nat → Int32)} {wh : (Nat → Int32)} {lf : (Nat → Int32)} {co : (Nat → Int32)} {wi : Int32} {ho : Int32} {twh : (Nat → Int32)} {tlf : (Nat → Int32)} {tco : (Nat → Int32)} {twi : Int32} {tho : Int32} {first : Int32} {size : Int32} {awh : (Nat → Nat → Int32)} {alf : (Nat → Nat → Int32)} {aco : (Nat → Nat → Int32)} {awi : (Nat → Int32)} {aho : (Nat → Int32)} {sfl : (Nat → Int32)} {sco : (Nat → Int32)} {swt : (Nat → Int32)} {ssz : Int32} {kwh : (Nat → Nat → Int32)} {klf : (Nat → Nat → Int32)} {kco : (Nat → Nat → Int32)} {kwi : (Nat → Int32)} {kho : (Nat → Int32)} {kept : (Nat → Int32)} {seed : Int64} {x1 : Int32} {x2 : Int32} {x3 : Int32} {rec29 : Int32 → Int32 → (Nat → Int32) → (Nat → Int32) → (Nat → Int32) → Int32 → Int32 → Int64 → Option (Int32 × (Nat → Int32) × (Nat → Int32) × (Nat → Int32) × Int32 × Int32 × Int64)} {res : Int32 × (Nat → Int32) × (Nat → Int32) × (Nat → Int32) × Int32 × Int32 × Int64} (hrec29 : ∀ (x2 : Int32) (x3 : Int32) (twh : (Nat → Int32)) (tlf : (Nat → Int32)) (tco : (Nat → Int32)) (twi : Int32) (tho : Int32) (seed : Int64), rec29 x2 x3 twh tlf tco twi tho seed = some res → Mx p l e ({ frames := 5, cells := 0, slots := 0, locals := 107 } : Room) s m args below meth c (MQ below (QI D (tyA cyI cyZ cyW) A (wFW cyI cyZ cyW ad letters length stage rco rcl ron rtubs rpegs rpwi rflags rpco rpcl rphr rpho tubs pegs pwi flags pco pcl phr pho wh lf co wi ho res.2.1 res.2.2.1 res.2.2.2.1 res.2.2.2.2.1 res.2.2.2.2.2.1 first size awh alf aco awi aho sfl sco swt ssz kwh klf kco kwi kho kept res.2.2.2.2.2.2) res.1) args s 0 0 A) 4 D A 0 0 (wFW cyI cyZ cyW ad letters length stage rco rcl ron rtubs rpegs rpwi rflags rpco rpcl rphr rpho tubs pegs pwi flags pco pcl phr pho wh lf co wi ho twh tlf tco twi tho first size awh alf aco awi aho sfl sco swt ssz kwh klf kco kwi kho kept seed) 29 [(0, .ref (ad 0)), (1, .int x1), (2, .int x2), (3, .int x3)] []) (h : gX9_weeks_29 rec29 x1 x2 x3 tubs pegs flags pcl phr pho twh tlf tco twi tho seed = some res) : Mx p l e ({ frames := 5, cells := 0, slots := 0, locals := 107 } : Room) s m args below meth c (MQ below (QI D (tyA cyI cyZ cyW) A (wFW cyI cyZ cyW ad letters length stage rco rcl ron rtubs rpegs rpwi rflags rpco rpcl rphr rpho tubs pegs pwi flags pco pcl phr pho wh lf co wi ho res.2.1 res.2.2.1 res.2.2.2.1 res.2.2.2.2.1 res.2.2.2.2.2.1 first size awh alf aco awi aho sfl sco swt ssz kwh klf kco kwi kho kept res.2.2.2.2.2.2) res.1) args s 0 0 A) 4 D A 0 0 (wFW cyI cyZ cyW ad letters length stage rco rcl ron rtubs rpegs rpwi rflags rpco rpcl rphr rpho tubs pegs pwi flags pco pcl phr pho wh lf co wi ho twh tlf tco twi tho first size awh alf aco awi aho sfl sco swt ssz kwh klf kco kwi kho kept seed) 29 [(0, .ref (ad 0)), (1, .int x1), (2, .int x2), (3, .int x3)] [] := by
  unfold gX9_weeks_29 at h
  refine r_iload_n C dX9_weeks_29 3 rfl rfl ?_
  refine r_iload_n C dX9_weeks_30 1 rfl rfl ?_
  refine r_icmp_ge (tgt := 88) C dX9_weeks_31 (by decide) (fun c4 => ?_) (fun c4 => ?_)
  · replace h := ob_t h c4
    refine r_iload_n C dX9_weeks_88 2 rfl rfl ?_
    have h9 := Option.some.inj h
    subst h9
    exact r_iret C rfl dX9_weeks_89
  · replace h := ob_f h c4
    refine r_aload_n C dX9_weeks_34 0 rfl rfl ?_
    refine r_aload_n C dX9_weeks_35 0 rfl rfl ?_
    refine r_get (ci := 6) (CC := RX9) (T := TX9) (N := 12) (v := .long seed) C hinX9_weeks_X9 0 rfl rfl 11 (by decide) mX9_weeks_3 rfl rfl dX9_weeks_36 ?_
    refine r_ldc2 (v := 6364136223846793005) C mX9_weeks_4 dX9_weeks_39 ?_
    refine r_lmul C dX9_weeks_42 ?_
    refine r_ldc2 (v := 1442695040888963407) C mX9_weeks_5 dX9_weeks_43 ?_
    refine r_ladd C dX9_weeks_46 ?_
    refine r_put (ci := 6) (CC := RX9) (T := TX9) (N := 12) (v := .long ((seed * (6364136223846793005 : Int64)) + (1442695040888963407 : Int64))) (ws1 := (wFW cyI cyZ cyW ad letters length stage rco rcl ron rtubs rpegs rpwi rflags rpco rpcl rphr rpho tubs pegs pwi flags pco pcl phr pho wh lf co wi ho twh tlf tco twi tho first size awh alf aco awi aho sfl sco swt ssz kwh klf kco kwi kho kept ((seed * (6364136223846793005 : Int64)) + (1442695040888963407 : Int64)))) (ty := .long) C hinX9_weeks_X9 tyX9 tyX9_ok nmX9 0 rfl rfl 11 (by decide) mX9_weeks_3 rfl rfl rfl rfl rfl (Nat.le_of_ble_eq_true rfl) rfl dX9_weeks_47 ?_
    refine r_aload_n C dX9_weeks_50 0 rfl rfl ?_
    refine r_get (ci := 6) (CC := RX9) (T := TX9) (N := 12) (v := .ref (ad 17)) C hinX9_weeks_X9 0 rfl rfl 5 (by decide) mX9_weeks_1 rfl rfl dX9_weeks_51 ?_
    refine r_aload_n C dX9_weeks_54 0 rfl rfl ?_
    refine r_get (ci := 6) (CC := RX9) (T := TX9) (N := 12) (v := .long ((seed * (6364136223846793005 : Int64)) + (1442695040888963407 : Int64))) C hinX9_weeks_X9 0 rfl rfl 11 (by decide) mX9_weeks_3 rfl rfl dX9_weeks_55 ?_
    refine r_bipush (v := 33) C dX9_weeks_58 bp_33 ?_
    refine r_lushr C dX9_weeks_60 ?_
    refine r_ldc2 (v := 10) C mX9_weeks_6 dX9_weeks_61 ?_
    refine r_lrem C dX9_weeks_64 (by decide) ?_
    refine r_l2i C dX9_weeks_65 ?_
    obtain ⟨u5, hu5, h⟩ := ob_bind h
    refine r_callVV (q0 := 0) (As := [.int (jremL (((seed * (6364136223846793005 : Int64)) + (1442695040888963407 : Int64)).toUInt64 >>> ((33 : Int32).toInt64.toUInt64 &&& Int64.toUInt64 63)).toInt64 (10 : Int64)).toInt32]) (rest := []) (ws1 := (wFW cyI cyZ cyW ad letters length stage rco rcl ron rtubs rpegs rpwi rflags rpco rpcl rphr rpho tubs pegs pwi flags pco pcl phr pho wh lf co wi ho u5.1 u5.2.1 u5.2.2.1 u5.2.2.2.1 u5.2.2.2.2 first size awh alf aco awi aho sfl sco swt ssz kwh klf kco kwi kho kept ((seed * (6364136223846793005 : Int64)) + (1442695040888963407 : Int64)))) C (kX8_doByChance (w0 := (ad 17)) (w1 := (ad 18)) (w2 := (ad 19)) (w3 := (ad 20)) (p0 := (ad 8)) (p1 := (ad 9)) (p2 := (ad 10)) (p3 := (ad 11)) (p4 := (ad 12)) (wh := twh) (lf := tlf) (co := tco) (wi := twi) (ho := tho) (tubs := tubs) (pegs := pegs) (pwi := pwi) (flags := flags) (pco := pco) (pcl := pcl) (phr := phr) (pho := pho) (x1 := (jremL (((seed * (6364136223846793005 : Int64)) + (1442695040888963407 : Int64)).toUInt64 >>> ((33 : Int32).toInt64.toUInt64 &&& Int64.toUInt64 63)).toInt64 (10 : Int64)).toInt32) hu5) gX9_weeks_X8_doByChance rfl rfl rfl ⟨rfl, hd_X8_doByChance⟩ ⟨by decide, by decide⟩ rfl rfl rfl rfl [17, 18, 19, 20, 8, 9, 10, 11, 12] (by decide) in_70 se_70 (adrFW.trans adrFW.symm) rfl (Nat.le_of_ble_eq_true rfl) dX9_weeks_66 ⟨Nat.zero_le _, Nat.zero_le _⟩ ?_
    refine r_aload_n C dX9_weeks_69 0 rfl rfl ?_
    refine r_get (ci := 6) (CC := RX9) (T := TX9) (N := 12) (v := .ref (ad 17)) C hinX9_weeks_X9 0 rfl rfl 5 (by decide) mX9_weeks_1 rfl rfl dX9_weeks_70 ?_
    obtain ⟨u6, hu6, h⟩ := ob_bind h
    refine r_readVI (q0 := 0) (As := []) (rest := []) C (kX8_pairsThatMayFight (w0 := (ad 17)) (w1 := (ad 18)) (w2 := (ad 19)) (w3 := (ad 20)) (p0 := (ad 8)) (p1 := (ad 9)) (p2 := (ad 10)) (p3 := (ad 11)) (p4 := (ad 12)) (wh := u5.1) (lf := u5.2.1) (co := u5.2.2.1) (wi := u5.2.2.2.1) (ho := u5.2.2.2.2) (tubs := tubs) (pegs := pegs) (pwi := pwi) (flags := flags) (pco := pco) (pcl := pcl) (phr := phr) (pho := pho)  hu6) gX9_weeks_X8_pairsThatMayFight rfl rfl rfl ⟨rfl, hd_X8_pairsThatMayFight⟩ ⟨by decide, by decide⟩ rfl rfl rfl rfl [17, 18, 19, 20, 8, 9, 10, 11, 12] (by decide) in_71 rfl (Nat.le_of_ble_eq_true rfl) dX9_weeks_73 ⟨Nat.zero_le _, Nat.zero_le _⟩ ?_
    refine r_if_le (tgt := 82) C dX9_weeks_76 (by decide) (fun c7 => ?_) (fun c7 => ?_)
    · replace h := ob_t h c7
      refine r_lv (lv' := [(0, .ref (ad 0)), (1, .int x1), (2, .int x2), (3, .int x3)]) [0, 1, 2, 3] rfl ?_
      exact LX9_weeks_82 C (x1 := x1) (x2 := x2) (x3 := x3) (letters := letters) (length := length) (stage := stage) (rco := rco) (rcl := rcl) (ron := ron) (rtubs := rtubs) (rpegs := rpegs) (rpwi := rpwi) (rflags := rflags) (rpco := rpco) (rpcl := rpcl) (rphr := rphr) (rpho := rpho) (tubs := tubs) (pegs := pegs) (pwi := pwi) (flags := flags) (pco := pco) (pcl := pcl) (phr := phr) (pho := pho) (wh := wh) (lf := lf) (co := co) (wi := wi) (ho := ho) (twh := u5.1) (tlf := u5.2.1) (tco := u5.2.2.1) (twi := u5.2.2.2.1) (tho := u5.2.2.2.2) (first := first) (size := size) (awh := awh) (alf := alf) (aco := aco) (awi := awi) (aho := aho) (sfl := sfl) (sco := sco) (swt := swt) (ssz := ssz) (kwh := kwh) (klf := klf) (kco := kco) (kwi := kwi) (kho := kho) (kept := kept) (seed := ((seed * (6364136223846793005 : Int64)) + (1442695040888963407 : Int64))) hrec29 h
    · replace h := ob_f h c7
      refine r_iinc (v := 1) (lv' := [(2, .int (x2 + (1 : Int32))), (0, .ref (ad 0)), (1, .int x1), (3, .int x3)]) C dX9_weeks_79 2 rfl ic_1 (by decide) rfl ?_
      refine r_lv (lv' := [(0, .ref (ad 0)), (1, .int x1), (2, .int (x2 + (1 : Int32))), (3, .int x3)]) [1, 2, 0, 3] rfl ?_
      exact LX9_weeks_82 C (x1 := x1) (x2 := (x2 + (1 : Int32))) (x3 := x3) (letters := letters) (length := length) (stage := stage) (rco := rco) (rcl := rcl) (ron := ron) (rtubs := rtubs) (rpegs := rpegs) (rpwi := rpwi) (rflags := rflags) (rpco := rpco) (rpcl := rpcl) (rphr := rphr) (rpho := rpho) (tubs := tubs) (pegs := pegs) (pwi := pwi) (flags := flags) (pco := pco) (pcl := pcl) (phr := phr) (pho := pho) (wh := wh) (lf := lf) (co := co) (wi := wi) (ho := ho) (twh := u5.1) (tlf := u5.2.1) (tco := u5.2.2.1) (twi := u5.2.2.2.1) (tho := u5.2.2.2.2) (first := first) (size := size) (awh := awh) (alf := alf) (aco := aco) (awi := awi) (aho := aho) (sfl := sfl) (sco := sco) (swt := swt) (ssz := ssz) (kwh := kwh) (klf := klf) (kco := kco) (kwi := kwi) (kho := kho) (kept := kept) (seed := ((seed * (6364136223846793005 : Int64)) + (1442695040888963407 : Int64))) hrec29 h
set_option maxHeartbeats 4000000 in
set_option maxRecDepth 100000 in
theorem LX9_weeks_29 {p : Program} {l : Launch} {e : Env} {s : State} {m : MethodId} {args : Array Value} {below : List Frame} {meth : Method} {c : Code} {D : va_G} {cyI cyZ cyW : ClassId} {zW zO : Nat} {A : Nat → Prop} (C : Cx p s m args meth c cX9_weeks RX9 "weeks" wsX9_weeks (some .int) 4 D (tyA cyI cyZ cyW) zW zO A) {ad : Nat → Nat} {x1 : Int32} {letters : (Nat → Int32)} {length : Int32} {stage : Int32} {rco : Int32} {rcl : Int32} {ron : Int32} {rtubs : Int32} {rpegs : Int32} {rpwi : Int32} {rflags : Int32} {rpco : (Nat → Int32)} {rpcl : (Nat → Int32)} {rphr : (Nat → Int32)} {rpho : (Nat → Int32)} {tubs : Int32} {pegs : Int32} {pwi : Int32} {flags : Int32} {pco : (Nat → Int32)} {pcl : (Nat → Int32)} {phr : (Nat → Int32)} {pho : (Nat → Int32)} {wh : (Nat → Int32)} {lf : (Nat → Int32)} {co : (Nat → Int32)} {wi : Int32} {ho : Int32} {first : Int32} {size : Int32} {awh : (Nat → Nat → Int32)} {alf : (Nat → Nat → Int32)} {aco : (Nat → Nat → Int32)} {awi : (Nat → Int32)} {aho : (Nat → Int32)} {sfl : (Nat → Int32)} {sco : (Nat → Int32)} {swt : (Nat → Int32)} {ssz : Int32} {kwh : (Nat → Nat → Int32)} {klf : (Nat → Nat → Int32)} {kco : (Nat → Nat → Int32)} {kwi : (Nat → Int32)} {kho : (Nat → Int32)} {kept : (Nat → Int32)}  {res : Int32 × (Nat → Int32) × (Nat → Int32) × (Nat → Int32) × Int32 × Int32 × Int64}  : ∀ (n : Nat) (x2 : Int32) (x3 : Int32) (twh : (Nat → Int32)) (tlf : (Nat → Int32)) (tco : (Nat → Int32)) (twi : Int32) (tho : Int32) (seed : Int64), fX9_weeks_29  x1 tubs pegs flags pcl phr pho n x2 x3 twh tlf tco twi tho seed = some res → Mx p l e ({ frames := 5, cells := 0, slots := 0, locals := 107 } : Room) s m args below meth c (MQ below (QI D (tyA cyI cyZ cyW) A (wFW cyI cyZ cyW ad letters length stage rco rcl ron rtubs rpegs rpwi rflags rpco rpcl rphr rpho tubs pegs pwi flags pco pcl phr pho wh lf co wi ho res.2.1 res.2.2.1 res.2.2.2.1 res.2.2.2.2.1 res.2.2.2.2.2.1 first size awh alf aco awi aho sfl sco swt ssz kwh klf kco kwi kho kept res.2.2.2.2.2.2) res.1) args s 0 0 A) 4 D A 0 0 (wFW cyI cyZ cyW ad letters length stage rco rcl ron rtubs rpegs rpwi rflags rpco rpcl rphr rpho tubs pegs pwi flags pco pcl phr pho wh lf co wi ho twh tlf tco twi tho first size awh alf aco awi aho sfl sco swt ssz kwh klf kco kwi kho kept seed) 29 [(0, .ref (ad 0)), (1, .int x1), (2, .int x2), (3, .int x3)] [] := by
  intro n
  induction n with
  | zero => intro x2 x3 twh tlf tco twi tho seed h; cases h
  | succ n ih => intro x2 x3 twh tlf tco twi tho seed h; exact LGX9_weeks_29 C ih h
set_option maxHeartbeats 4000000 in
set_option maxRecDepth 100000 in
theorem kX9_weeks {l : Launch} {D : va_G} {cyI cyZ cyW : ClassId} {zW zO : Nat} {ad : Nat → Nat} {letters : (Nat → Int32)} {length : Int32} {stage : Int32} {rco : Int32} {rcl : Int32} {ron : Int32} {rtubs : Int32} {rpegs : Int32} {rpwi : Int32} {rflags : Int32} {rpco : (Nat → Int32)} {rpcl : (Nat → Int32)} {rphr : (Nat → Int32)} {rpho : (Nat → Int32)} {tubs : Int32} {pegs : Int32} {pwi : Int32} {flags : Int32} {pco : (Nat → Int32)} {pcl : (Nat → Int32)} {phr : (Nat → Int32)} {pho : (Nat → Int32)} {wh : (Nat → Int32)} {lf : (Nat → Int32)} {co : (Nat → Int32)} {wi : Int32} {ho : Int32} {twh : (Nat → Int32)} {tlf : (Nat → Int32)} {tco : (Nat → Int32)} {twi : Int32} {tho : Int32} {first : Int32} {size : Int32} {awh : (Nat → Nat → Int32)} {alf : (Nat → Nat → Int32)} {aco : (Nat → Nat → Int32)} {awi : (Nat → Int32)} {aho : (Nat → Int32)} {sfl : (Nat → Int32)} {sco : (Nat → Int32)} {swt : (Nat → Int32)} {ssz : Int32} {kwh : (Nat → Nat → Int32)} {klf : (Nat → Nat → Int32)} {kco : (Nat → Nat → Int32)} {kwi : (Nat → Int32)} {kho : (Nat → Int32)} {kept : (Nat → Int32)} {seed : Int64} {x1 : Int32} {res : Int32 × (Nat → Int32) × (Nat → Int32) × (Nat → Int32) × Int32 × Int32 × Int64} (h : fX9_weeks x1 tubs pegs flags pcl phr pho wh lf co wi ho twh tlf tco twi tho seed = some res) : KI l yX9_weeks wsX9_weeks ({ frames := 5, cells := 0, slots := 0, locals := 107 } : Room) D (tyA cyI cyZ cyW) zW zO [.ref (ad 0), .int x1] (wFW cyI cyZ cyW ad letters length stage rco rcl ron rtubs rpegs rpwi rflags rpco rpcl rphr rpho tubs pegs pwi flags pco pcl phr pho wh lf co wi ho twh tlf tco twi tho first size awh alf aco awi aho sfl sco swt ssz kwh klf kco kwi kho kept seed) (wFW cyI cyZ cyW ad letters length stage rco rcl ron rtubs rpegs rpwi rflags rpco rpcl rphr rpho tubs pegs pwi flags pco pcl phr pho wh lf co wi ho res.2.1 res.2.2.1 res.2.2.2.1 res.2.2.2.2.1 res.2.2.2.2.2.1 first size awh alf aco awi aho sfl sco swt ssz kwh klf kco kwi kho kept res.2.2.2.2.2.2) res.1 := by
  refine enterI (cc := cX9_weeks) (nL := 4) (ret := (some .int)) (by decide) rfl (Nat.le_of_ble_eq_true rfl) (fun p e s m below meth c A C => ?_)
  refine r_lv (lv' := [(0, .ref (ad 0)), (1, .int x1)]) [0, 1] rfl ?_
  unfold fX9_weeks at h
  refine r_iload_n C dX9_weeks_0 1 rfl rfl ?_
  refine r_iconst (v := 1) C dX9_weeks_1 ic_1 ?_
  refine r_icmp_lt (tgt := 11) C dX9_weeks_2 (by decide) (fun c1 => ?_) (fun c1 => ?_)
  · replace h := ob_t h c1
    refine r_bipush (v := -2) C dX9_weeks_11 bp_m2 ?_
    have h9 := Option.some.inj h
    subst h9
    exact r_iret C rfl dX9_weeks_13
  · replace h := ob_f h c1
    refine r_iload_n C dX9_weeks_5 1 rfl rfl ?_
    refine r_bipush (v := 30) C dX9_weeks_6 bp_30 ?_
    refine r_icmp_le (tgt := 14) C dX9_weeks_8 (by decide) (fun c2 => ?_) (fun c2 => ?_)
    · replace h := ob_t h c2
      refine r_aload_n C dX9_weeks_14 0 rfl rfl ?_
      refine r_get (ci := 6) (CC := RX9) (T := TX9) (N := 12) (v := .ref (ad 17)) C hinX9_weeks_X9 0 rfl rfl 5 (by decide) mX9_weeks_1 rfl rfl dX9_weeks_15 ?_
      refine r_aload_n C dX9_weeks_18 0 rfl rfl ?_
      refine r_get (ci := 6) (CC := RX9) (T := TX9) (N := 12) (v := .ref (ad 13)) C hinX9_weeks_X9 0 rfl rfl 4 (by decide) mX9_weeks_2 rfl rfl dX9_weeks_19 ?_
      obtain ⟨u3, hu3, h⟩ := ob_bind h
      refine r_callVV (q0 := 0) (As := [.ref (ad 13)]) (rest := []) (ws1 := (wFW cyI cyZ cyW ad letters length stage rco rcl ron rtubs rpegs rpwi rflags rpco rpcl rphr rpho tubs pegs pwi flags pco pcl phr pho wh lf co wi ho u3.1 u3.2.1 u3.2.2.1 u3.2.2.2.1 u3.2.2.2.2 first size awh alf aco awi aho sfl sco swt ssz kwh klf kco kwi kho kept seed)) C (kX8_copyFrom (w0 := (ad 17)) (w1 := (ad 18)) (w2 := (ad 19)) (w3 := (ad 20)) (v0 := (ad 13)) (v1 := (ad 14)) (v2 := (ad 15)) (v3 := (ad 16)) (p0 := (ad 8)) (wh := twh) (lf := tlf) (co := tco) (wi := twi) (ho := tho) (owh := wh) (olf := lf) (oco := co) (owi := wi) (oho := ho)  hu3) gX9_weeks_X8_copyFrom rfl rfl rfl ⟨rfl, hd_X8_copyFrom⟩ ⟨by decide, by decide⟩ rfl rfl rfl rfl [17, 18, 19, 20, 13, 14, 15, 16] (by decide) in_65 se_65 (adrFW.trans adrFW.symm) rfl (Nat.le_of_ble_eq_true rfl) dX9_weeks_22 ⟨Nat.zero_le _, Nat.zero_le _⟩ ?_
      refine r_iconst (v := 0) C dX9_weeks_25 ic_0 ?_
      refine r_istore_n (lv' := [(2, .int (0 : Int32)), (0, .ref (ad 0)), (1, .int x1)]) C dX9_weeks_26 rfl (by decide) rfl ?_
      refine r_iconst (v := 0) C dX9_weeks_27 ic_0 ?_
      refine r_istore_n (lv' := [(3, .int (0 : Int32)), (2, .int (0 : Int32)), (0, .ref (ad 0)), (1, .int x1)]) C dX9_weeks_28 rfl (by decide) rfl ?_
      refine r_lv (lv' := [(0, .ref (ad 0)), (1, .int x1), (2, .int (0 : Int32)), (3, .int (0 : Int32))]) [2, 3, 1, 0] rfl ?_
      exact LX9_weeks_29 C (x1 := x1) (letters := letters) (length := length) (stage := stage) (rco := rco) (rcl := rcl) (ron := ron) (rtubs := rtubs) (rpegs := rpegs) (rpwi := rpwi) (rflags := rflags) (rpco := rpco) (rpcl := rpcl) (rphr := rphr) (rpho := rpho) (tubs := tubs) (pegs := pegs) (pwi := pwi) (flags := flags) (pco := pco) (pcl := pcl) (phr := phr) (pho := pho) (wh := wh) (lf := lf) (co := co) (wi := wi) (ho := ho) (first := first) (size := size) (awh := awh) (alf := alf) (aco := aco) (awi := awi) (aho := aho) (sfl := sfl) (sco := sco) (swt := swt) (ssz := ssz) (kwh := kwh) (klf := klf) (kco := kco) (kwi := kwi) (kho := kho) (kept := kept)  FU (0 : Int32) (0 : Int32) u3.1 u3.2.1 u3.2.2.1 u3.2.2.2.1 u3.2.2.2.2 seed h
    · replace h := ob_f h c2
      refine r_bipush (v := -2) C dX9_weeks_11 bp_m2 ?_
      have h9 := Option.some.inj h
      subst h9
      exact r_iret C rfl dX9_weeks_13

/-! ===== FlagWash.keep ===== -/
def fX9_keep  (x1 : Int32) (wh : (Nat → Int32)) (lf : (Nat → Int32)) (co : (Nat → Int32)) (wi : Int32) (ho : Int32) (kwh : (Nat → Nat → Int32)) (klf : (Nat → Nat → Int32)) (kco : (Nat → Nat → Int32)) (kwi : (Nat → Int32)) (kho : (Nat → Int32)) (kept : (Nat → Int32)) : Option (Int32 × (Nat → Nat → Int32) × (Nat → Nat → Int32) × (Nat → Nat → Int32) × (Nat → Int32) × (Nat → Int32) × (Nat → Int32)) :=
 (if x1 < 0 then (some ((-1 : Int32), kwh, klf, kco, kwi, kho, kept))
 else (if x1 < (2 : Int32) then (if inb x1 2 = true then ((fX8_copyFrom (kwh x1.toNatClampNeg) (klf x1.toNatClampNeg) (kco x1.toNatClampNeg) wh lf co wi ho).bind fun u4 => (if inb x1 2 = true then (some (ho, (va_up kwh x1.toNatClampNeg u4.1), (va_up klf x1.toNatClampNeg u4.2.1), (va_up kco x1.toNatClampNeg u4.2.2.1), (va_up kwi x1.toNatClampNeg u4.2.2.2.1), (va_up kho x1.toNatClampNeg u4.2.2.2.2), (upd kept x1.toNatClampNeg (1 : Int32)))) else none)) else none)
 else (some ((-1 : Int32), kwh, klf, kco, kwi, kho, kept))))
theorem hinX9_keep_X9 : ∀ w ∈ u_ws RX9 TX9 12, w ∈ wsX9_keep := fun w h => List.mem_cons_of_mem _ (List.mem_append_left _ (List.mem_append_right _ h))
theorem mX9_keep_1 : Cond.fieldLink RX9 66 "FlagWash" "slots" "[LFlagWash$Wash;" ∈ wsX9_keep := List.mem_of_getElem? (i := 1) rfl
theorem mX9_keep_2 : Cond.fieldLink RX9 36 "FlagWash" "now" "LFlagWash$Wash;" ∈ wsX9_keep := List.mem_of_getElem? (i := 2) rfl
theorem mX9_keep_3 : Cond.fieldLink RX9 70 "FlagWash" "kept" "[Z" ∈ wsX9_keep := List.mem_of_getElem? (i := 3) rfl
theorem hinX9_keep_X8 : ∀ w ∈ u_ws RX8 TX8 6, w ∈ wsX9_keep := fun w h => List.mem_cons_of_mem _ (List.mem_append_right _ h)
theorem mX9_keep_4 : Cond.fieldLink RX9 249 "FlagWash$Wash" "hour" "I" ∈ wsX9_keep := List.mem_of_getElem? (i := 4) rfl
theorem hd_X9_keep : yX9_keep.cls ≠ "java/lang/invoke/MethodHandle" ∧ yX9_keep.cls ≠ "java/lang/invoke/VarHandle" ∧ (parseMethodDescriptor yX9_keep.desc).map (fun d => d.parameters.length) = some 1 := by decide +kernel
set_option maxHeartbeats 4000000 in
set_option maxRecDepth 100000 in
theorem kX9_keep {l : Launch} {D : va_G} {cyI cyZ cyW : ClassId} {zW zO : Nat} {ad : Nat → Nat} {letters : (Nat → Int32)} {length : Int32} {stage : Int32} {rco : Int32} {rcl : Int32} {ron : Int32} {rtubs : Int32} {rpegs : Int32} {rpwi : Int32} {rflags : Int32} {rpco : (Nat → Int32)} {rpcl : (Nat → Int32)} {rphr : (Nat → Int32)} {rpho : (Nat → Int32)} {tubs : Int32} {pegs : Int32} {pwi : Int32} {flags : Int32} {pco : (Nat → Int32)} {pcl : (Nat → Int32)} {phr : (Nat → Int32)} {pho : (Nat → Int32)} {wh : (Nat → Int32)} {lf : (Nat → Int32)} {co : (Nat → Int32)} {wi : Int32} {ho : Int32} {twh : (Nat → Int32)} {tlf : (Nat → Int32)} {tco : (Nat → Int32)} {twi : Int32} {tho : Int32} {first : Int32} {size : Int32} {awh : (Nat → Nat → Int32)} {alf : (Nat → Nat → Int32)} {aco : (Nat → Nat → Int32)} {awi : (Nat → Int32)} {aho : (Nat → Int32)} {sfl : (Nat → Int32)} {sco : (Nat → Int32)} {swt : (Nat → Int32)} {ssz : Int32} {kwh : (Nat → Nat → Int32)} {klf : (Nat → Nat → Int32)} {kco : (Nat → Nat → Int32)} {kwi : (Nat → Int32)} {kho : (Nat → Int32)} {kept : (Nat → Int32)} {seed : Int64} {x1 : Int32} {res : Int32 × (Nat → Nat → Int32) × (Nat → Nat → Int32) × (Nat → Nat → Int32) × (Nat → Int32) × (Nat → Int32) × (Nat → Int32)} (h : fX9_keep x1 wh lf co wi ho kwh klf kco kwi kho kept = some res) : KI l yX9_keep wsX9_keep ({ frames := 2, cells := 0, slots := 0, locals := 39 } : Room) D (tyA cyI cyZ cyW) zW zO [.ref (ad 0), .int x1] (wFW cyI cyZ cyW ad letters length stage rco rcl ron rtubs rpegs rpwi rflags rpco rpcl rphr rpho tubs pegs pwi flags pco pcl phr pho wh lf co wi ho twh tlf tco twi tho first size awh alf aco awi aho sfl sco swt ssz kwh klf kco kwi kho kept seed) (wFW cyI cyZ cyW ad letters length stage rco rcl ron rtubs rpegs rpwi rflags rpco rpcl rphr rpho tubs pegs pwi flags pco pcl phr pho wh lf co wi ho twh tlf tco twi tho first size awh alf aco awi aho sfl sco swt ssz res.2.1 res.2.2.1 res.2.2.2.1 res.2.2.2.2.1 res.2.2.2.2.2.1 res.2.2.2.2.2.2 seed) res.1 := by
  refine enterI (cc := cX9_keep) (nL := 2) (ret := (some .int)) (by decide) rfl (Nat.le_of_ble_eq_true rfl) (fun p e s m below meth c A C => ?_)
  refine r_lv (lv' := [(0, .ref (ad 0)), (1, .int x1)]) [0, 1] rfl ?_
  unfold fX9_keep at h
  refine r_iload_n C dX9_keep_0 1 rfl rfl ?_
  refine r_if_lt (tgt := 9) C dX9_keep_1 (by decide) (fun c1 => ?_) (fun c1 => ?_)
  · replace h := ob_t h c1
    refine r_iconst (v := -1) C dX9_keep_9 ic_m1 ?_
    have h9 := Option.some.inj h
    subst h9
    exact r_iret C rfl dX9_keep_10
  · replace h := ob_f h c1
    refine r_iload_n C dX9_keep_4 1 rfl rfl ?_
    refine r_iconst (v := 2) C dX9_keep_5 ic_2 ?_
    refine r_icmp_lt (tgt := 11) C dX9_keep_6 (by decide) (fun c2 => ?_) (fun c2 => ?_)
    · replace h := ob_t h c2
      refine r_aload_n C dX9_keep_11 0 rfl rfl ?_
      refine r_get (ci := 6) (CC := RX9) (T := TX9) (N := 12) (v := .ref (ad 84)) C hinX9_keep_X9 0 rfl rfl 9 (by decide) mX9_keep_1 rfl rfl dX9_keep_12 ?_
      refine r_iload_n C dX9_keep_15 1 rfl rfl ?_
      obtain ⟨hu3, h⟩ := ob_if h
      obtain ⟨j, hj, rfl⟩ := vp_in_of (inb_vp hu3) (by decide)
      simp only [nI_clamp (show j < 2 ^ 31 by omega)] at h
      rcases (show j = 0 ∨ j = 1 by omega) with rfl | rfl
      · refine r_aldq (b := (ad 85)) C 84 2 rfl rfl (inb_vp hu3) rfl dX9_keep_16 ?_
        refine r_aload_n C dX9_keep_17 0 rfl rfl ?_
        refine r_get (ci := 6) (CC := RX9) (T := TX9) (N := 12) (v := .ref (ad 13)) C hinX9_keep_X9 0 rfl rfl 4 (by decide) mX9_keep_2 rfl rfl dX9_keep_18 ?_
        obtain ⟨u4, hu4, h⟩ := ob_bind h
        refine r_callVV (q0 := 0) (As := [.ref (ad 13)]) (rest := []) (ws1 := (wFW cyI cyZ cyW ad letters length stage rco rcl ron rtubs rpegs rpwi rflags rpco rpcl rphr rpho tubs pegs pwi flags pco pcl phr pho wh lf co wi ho twh tlf tco twi tho first size awh alf aco awi aho sfl sco swt ssz (va_up kwh 0 u4.1) (va_up klf 0 u4.2.1) (va_up kco 0 u4.2.2.1) (va_up kwi 0 u4.2.2.2.1) (va_up kho 0 u4.2.2.2.2) kept seed)) C (kX8_copyFrom (w0 := (ad 85)) (w1 := (ad 86)) (w2 := (ad 87)) (w3 := (ad 88)) (v0 := (ad 13)) (v1 := (ad 14)) (v2 := (ad 15)) (v3 := (ad 16)) (p0 := (ad 8)) (wh := (kwh 0)) (lf := (klf 0)) (co := (kco 0)) (wi := (kwi 0)) (ho := (kho 0)) (owh := wh) (olf := lf) (oco := co) (owi := wi) (oho := ho)  hu4) gX9_keep_X8_copyFrom rfl rfl rfl ⟨rfl, hd_X8_copyFrom⟩ ⟨by decide, by decide⟩ rfl rfl rfl rfl [85, 86, 87, 88, 13, 14, 15, 16] (by decide) in_72 se_72 (adrFW.trans adrFW.symm) rfl (Nat.le_of_ble_eq_true rfl) dX9_keep_21 ⟨Nat.zero_le _, Nat.zero_le _⟩ ?_
        refine r_aload_n C dX9_keep_24 0 rfl rfl ?_
        refine r_get (ci := 6) (CC := RX9) (T := TX9) (N := 12) (v := .ref (ad 93)) C hinX9_keep_X9 0 rfl rfl 10 (by decide) mX9_keep_3 rfl rfl dX9_keep_25 ?_
        refine r_iload_n C dX9_keep_28 1 rfl rfl ?_
        refine r_iconst (v := 1) C dX9_keep_29 ic_1 ?_
        obtain ⟨hu5, h⟩ := ob_if h
        refine r_zast (x1 := 1) (ws1 := (wFW cyI cyZ cyW ad letters length stage rco rcl ron rtubs rpegs rpwi rflags rpco rpcl rphr rpho tubs pegs pwi flags pco pcl phr pho wh lf co wi ho twh tlf tco twi tho first size awh alf aco awi aho sfl sco swt ssz (va_up kwh 0 u4.1) (va_up klf 0 u4.2.1) (va_up kco 0 u4.2.2.1) (va_up kwi 0 u4.2.2.2.1) (va_up kho 0 u4.2.2.2.2) (upd kept (nI 0).toNatClampNeg (1 : Int32)) seed)) C 93 1 rfl rfl rfl (inb_vp hu5) rfl dX9_keep_30 ?_
        refine r_aload_n C dX9_keep_31 0 rfl rfl ?_
        refine r_get (ci := 6) (CC := RX9) (T := TX9) (N := 12) (v := .ref (ad 13)) C hinX9_keep_X9 0 rfl rfl 4 (by decide) mX9_keep_2 rfl rfl dX9_keep_32 ?_
        refine r_get (ci := 5) (CC := RX8) (T := TX8) (N := 6) (v := .int ho) C hinX9_keep_X8 13 rfl rfl 5 (by decide) mX9_keep_4 rfl rfl dX9_keep_35 ?_
        have h9 := Option.some.inj h
        subst h9
        exact r_iret C rfl dX9_keep_38
      · refine r_aldq (b := (ad 89)) C 84 2 rfl rfl (inb_vp hu3) rfl dX9_keep_16 ?_
        refine r_aload_n C dX9_keep_17 0 rfl rfl ?_
        refine r_get (ci := 6) (CC := RX9) (T := TX9) (N := 12) (v := .ref (ad 13)) C hinX9_keep_X9 0 rfl rfl 4 (by decide) mX9_keep_2 rfl rfl dX9_keep_18 ?_
        obtain ⟨u4, hu4, h⟩ := ob_bind h
        refine r_callVV (q0 := 0) (As := [.ref (ad 13)]) (rest := []) (ws1 := (wFW cyI cyZ cyW ad letters length stage rco rcl ron rtubs rpegs rpwi rflags rpco rpcl rphr rpho tubs pegs pwi flags pco pcl phr pho wh lf co wi ho twh tlf tco twi tho first size awh alf aco awi aho sfl sco swt ssz (va_up kwh 1 u4.1) (va_up klf 1 u4.2.1) (va_up kco 1 u4.2.2.1) (va_up kwi 1 u4.2.2.2.1) (va_up kho 1 u4.2.2.2.2) kept seed)) C (kX8_copyFrom (w0 := (ad 89)) (w1 := (ad 90)) (w2 := (ad 91)) (w3 := (ad 92)) (v0 := (ad 13)) (v1 := (ad 14)) (v2 := (ad 15)) (v3 := (ad 16)) (p0 := (ad 8)) (wh := (kwh 1)) (lf := (klf 1)) (co := (kco 1)) (wi := (kwi 1)) (ho := (kho 1)) (owh := wh) (olf := lf) (oco := co) (owi := wi) (oho := ho)  hu4) gX9_keep_X8_copyFrom rfl rfl rfl ⟨rfl, hd_X8_copyFrom⟩ ⟨by decide, by decide⟩ rfl rfl rfl rfl [89, 90, 91, 92, 13, 14, 15, 16] (by decide) in_73 se_73 (adrFW.trans adrFW.symm) rfl (Nat.le_of_ble_eq_true rfl) dX9_keep_21 ⟨Nat.zero_le _, Nat.zero_le _⟩ ?_
        refine r_aload_n C dX9_keep_24 0 rfl rfl ?_
        refine r_get (ci := 6) (CC := RX9) (T := TX9) (N := 12) (v := .ref (ad 93)) C hinX9_keep_X9 0 rfl rfl 10 (by decide) mX9_keep_3 rfl rfl dX9_keep_25 ?_
        refine r_iload_n C dX9_keep_28 1 rfl rfl ?_
        refine r_iconst (v := 1) C dX9_keep_29 ic_1 ?_
        obtain ⟨hu5, h⟩ := ob_if h
        refine r_zast (x1 := 1) (ws1 := (wFW cyI cyZ cyW ad letters length stage rco rcl ron rtubs rpegs rpwi rflags rpco rpcl rphr rpho tubs pegs pwi flags pco pcl phr pho wh lf co wi ho twh tlf tco twi tho first size awh alf aco awi aho sfl sco swt ssz (va_up kwh 1 u4.1) (va_up klf 1 u4.2.1) (va_up kco 1 u4.2.2.1) (va_up kwi 1 u4.2.2.2.1) (va_up kho 1 u4.2.2.2.2) (upd kept (nI 1).toNatClampNeg (1 : Int32)) seed)) C 93 1 rfl rfl rfl (inb_vp hu5) rfl dX9_keep_30 ?_
        refine r_aload_n C dX9_keep_31 0 rfl rfl ?_
        refine r_get (ci := 6) (CC := RX9) (T := TX9) (N := 12) (v := .ref (ad 13)) C hinX9_keep_X9 0 rfl rfl 4 (by decide) mX9_keep_2 rfl rfl dX9_keep_32 ?_
        refine r_get (ci := 5) (CC := RX8) (T := TX8) (N := 6) (v := .int ho) C hinX9_keep_X8 13 rfl rfl 5 (by decide) mX9_keep_4 rfl rfl dX9_keep_35 ?_
        have h9 := Option.some.inj h
        subst h9
        exact r_iret C rfl dX9_keep_38
    · replace h := ob_f h c2
      refine r_iconst (v := -1) C dX9_keep_9 ic_m1 ?_
      have h9 := Option.some.inj h
      subst h9
      exact r_iret C rfl dX9_keep_10

/-! ===== FlagWash.again ===== -/
def fX9_again  (x1 : Int32) (wh : (Nat → Int32)) (lf : (Nat → Int32)) (co : (Nat → Int32)) (wi : Int32) (ho : Int32) (first : Int32) (size : Int32) (kwh : (Nat → Nat → Int32)) (klf : (Nat → Nat → Int32)) (kco : (Nat → Nat → Int32)) (kwi : (Nat → Int32)) (kho : (Nat → Int32)) (kept : (Nat → Int32)) : Option (Int32 × (Nat → Int32) × (Nat → Int32) × (Nat → Int32) × Int32 × Int32 × Int32 × Int32) :=
 (if x1 < 0 then (some ((-1 : Int32), wh, lf, co, wi, ho, first, size))
 else (if x1 < (2 : Int32) then (if inb x1 2 = true then (if (kept x1.toNatClampNeg) = 0 then (some ((-3 : Int32), wh, lf, co, wi, ho, first, size))
 else (if inb x1 2 = true then ((fX8_copyFrom wh lf co (kwh x1.toNatClampNeg) (klf x1.toNatClampNeg) (kco x1.toNatClampNeg) (kwi x1.toNatClampNeg) (kho x1.toNatClampNeg)).bind fun u6 => ((fX0_forgetAll ).bind fun u7 => (some (u6.2.2.2.2, u6.1, u6.2.1, u6.2.2.1, u6.2.2.2.1, u6.2.2.2.2, u7.1, u7.2)))) else none)) else none)
 else (some ((-1 : Int32), wh, lf, co, wi, ho, first, size))))
theorem hinX9_again_X9 : ∀ w ∈ u_ws RX9 TX9 12, w ∈ wsX9_again := fun w h => List.mem_cons_of_mem _ (List.mem_append_left _ (List.mem_append_left _ (List.mem_append_right _ h)))
theorem mX9_again_1 : Cond.fieldLink RX9 70 "FlagWash" "kept" "[Z" ∈ wsX9_again := List.mem_of_getElem? (i := 1) rfl
theorem mX9_again_2 : Cond.fieldLink RX9 36 "FlagWash" "now" "LFlagWash$Wash;" ∈ wsX9_again := List.mem_of_getElem? (i := 2) rfl
theorem mX9_again_3 : Cond.fieldLink RX9 66 "FlagWash" "slots" "[LFlagWash$Wash;" ∈ wsX9_again := List.mem_of_getElem? (i := 3) rfl
theorem mX9_again_4 : Cond.fieldLink RX9 55 "FlagWash" "acts" "LFlagWash$Acts;" ∈ wsX9_again := List.mem_of_getElem? (i := 4) rfl
theorem hinX9_again_X8 : ∀ w ∈ u_ws RX8 TX8 6, w ∈ wsX9_again := fun w h => List.mem_cons_of_mem _ (List.mem_append_left _ (List.mem_append_right _ h))
theorem mX9_again_5 : Cond.fieldLink RX9 249 "FlagWash$Wash" "hour" "I" ∈ wsX9_again := List.mem_of_getElem? (i := 5) rfl
theorem hd_X9_again : yX9_again.cls ≠ "java/lang/invoke/MethodHandle" ∧ yX9_again.cls ≠ "java/lang/invoke/VarHandle" ∧ (parseMethodDescriptor yX9_again.desc).map (fun d => d.parameters.length) = some 1 := by decide +kernel
set_option maxHeartbeats 4000000 in
set_option maxRecDepth 100000 in
theorem kX9_again {l : Launch} {D : va_G} {cyI cyZ cyW : ClassId} {zW zO : Nat} {ad : Nat → Nat} {letters : (Nat → Int32)} {length : Int32} {stage : Int32} {rco : Int32} {rcl : Int32} {ron : Int32} {rtubs : Int32} {rpegs : Int32} {rpwi : Int32} {rflags : Int32} {rpco : (Nat → Int32)} {rpcl : (Nat → Int32)} {rphr : (Nat → Int32)} {rpho : (Nat → Int32)} {tubs : Int32} {pegs : Int32} {pwi : Int32} {flags : Int32} {pco : (Nat → Int32)} {pcl : (Nat → Int32)} {phr : (Nat → Int32)} {pho : (Nat → Int32)} {wh : (Nat → Int32)} {lf : (Nat → Int32)} {co : (Nat → Int32)} {wi : Int32} {ho : Int32} {twh : (Nat → Int32)} {tlf : (Nat → Int32)} {tco : (Nat → Int32)} {twi : Int32} {tho : Int32} {first : Int32} {size : Int32} {awh : (Nat → Nat → Int32)} {alf : (Nat → Nat → Int32)} {aco : (Nat → Nat → Int32)} {awi : (Nat → Int32)} {aho : (Nat → Int32)} {sfl : (Nat → Int32)} {sco : (Nat → Int32)} {swt : (Nat → Int32)} {ssz : Int32} {kwh : (Nat → Nat → Int32)} {klf : (Nat → Nat → Int32)} {kco : (Nat → Nat → Int32)} {kwi : (Nat → Int32)} {kho : (Nat → Int32)} {kept : (Nat → Int32)} {seed : Int64} {x1 : Int32} {res : Int32 × (Nat → Int32) × (Nat → Int32) × (Nat → Int32) × Int32 × Int32 × Int32 × Int32} (h : fX9_again x1 wh lf co wi ho first size kwh klf kco kwi kho kept = some res) : KI l yX9_again wsX9_again ({ frames := 2, cells := 0, slots := 0, locals := 39 } : Room) D (tyA cyI cyZ cyW) zW zO [.ref (ad 0), .int x1] (wFW cyI cyZ cyW ad letters length stage rco rcl ron rtubs rpegs rpwi rflags rpco rpcl rphr rpho tubs pegs pwi flags pco pcl phr pho wh lf co wi ho twh tlf tco twi tho first size awh alf aco awi aho sfl sco swt ssz kwh klf kco kwi kho kept seed) (wFW cyI cyZ cyW ad letters length stage rco rcl ron rtubs rpegs rpwi rflags rpco rpcl rphr rpho tubs pegs pwi flags pco pcl phr pho res.2.1 res.2.2.1 res.2.2.2.1 res.2.2.2.2.1 res.2.2.2.2.2.1 twh tlf tco twi tho res.2.2.2.2.2.2.1 res.2.2.2.2.2.2.2 awh alf aco awi aho sfl sco swt ssz kwh klf kco kwi kho kept seed) res.1 := by
  refine enterI (cc := cX9_again) (nL := 2) (ret := (some .int)) (by decide) rfl (Nat.le_of_ble_eq_true rfl) (fun p e s m below meth c A C => ?_)
  refine r_lv (lv' := [(0, .ref (ad 0)), (1, .int x1)]) [0, 1] rfl ?_
  unfold fX9_again at h
  refine r_iload_n C dX9_again_0 1 rfl rfl ?_
  refine r_if_lt (tgt := 9) C dX9_again_1 (by decide) (fun c1 => ?_) (fun c1 => ?_)
  · replace h := ob_t h c1
    refine r_iconst (v := -1) C dX9_again_9 ic_m1 ?_
    have h9 := Option.some.inj h
    subst h9
    exact r_iret C rfl dX9_again_10
  · replace h := ob_f h c1
    refine r_iload_n C dX9_again_4 1 rfl rfl ?_
    refine r_iconst (v := 2) C dX9_again_5 ic_2 ?_
    refine r_icmp_lt (tgt := 11) C dX9_again_6 (by decide) (fun c2 => ?_) (fun c2 => ?_)
    · replace h := ob_t h c2
      refine r_aload_n C dX9_again_11 0 rfl rfl ?_
      refine r_get (ci := 6) (CC := RX9) (T := TX9) (N := 12) (v := .ref (ad 93)) C hinX9_again_X9 0 rfl rfl 10 (by decide) mX9_again_1 rfl rfl dX9_again_12 ?_
      refine r_iload_n C dX9_again_15 1 rfl rfl ?_
      obtain ⟨hu3, h⟩ := ob_if h
      refine r_zald C 93 1 rfl rfl (inb_vp hu3) dX9_again_16 ?_
      refine r_if_ne (tgt := 23) C dX9_again_17 (by decide) (fun c4 => ?_) (fun c4 => ?_)
      · replace h := ob_f h c4
        refine r_aload_n C dX9_again_23 0 rfl rfl ?_
        refine r_get (ci := 6) (CC := RX9) (T := TX9) (N := 12) (v := .ref (ad 13)) C hinX9_again_X9 0 rfl rfl 4 (by decide) mX9_again_2 rfl rfl dX9_again_24 ?_
        refine r_aload_n C dX9_again_27 0 rfl rfl ?_
        refine r_get (ci := 6) (CC := RX9) (T := TX9) (N := 12) (v := .ref (ad 84)) C hinX9_again_X9 0 rfl rfl 9 (by decide) mX9_again_3 rfl rfl dX9_again_28 ?_
        refine r_iload_n C dX9_again_31 1 rfl rfl ?_
        obtain ⟨hu5, h⟩ := ob_if h
        obtain ⟨j, hj, rfl⟩ := vp_in_of (inb_vp hu5) (by decide)
        simp only [nI_clamp (show j < 2 ^ 31 by omega)] at h
        rcases (show j = 0 ∨ j = 1 by omega) with rfl | rfl
        · refine r_aldq (b := (ad 85)) C 84 2 rfl rfl (inb_vp hu5) rfl dX9_again_32 ?_
          obtain ⟨u6, hu6, h⟩ := ob_bind h
          refine r_callVV (q0 := 0) (As := [.ref (ad 85)]) (rest := []) (ws1 := (wFW cyI cyZ cyW ad letters length stage rco rcl ron rtubs rpegs rpwi rflags rpco rpcl rphr rpho tubs pegs pwi flags pco pcl phr pho u6.1 u6.2.1 u6.2.2.1 u6.2.2.2.1 u6.2.2.2.2 twh tlf tco twi tho first size awh alf aco awi aho sfl sco swt ssz kwh klf kco kwi kho kept seed)) C (kX8_copyFrom (w0 := (ad 13)) (w1 := (ad 14)) (w2 := (ad 15)) (w3 := (ad 16)) (v0 := (ad 85)) (v1 := (ad 86)) (v2 := (ad 87)) (v3 := (ad 88)) (p0 := (ad 8)) (wh := wh) (lf := lf) (co := co) (wi := wi) (ho := ho) (owh := (kwh 0)) (olf := (klf 0)) (oco := (kco 0)) (owi := (kwi 0)) (oho := (kho 0))  hu6) gX9_again_X8_copyFrom rfl rfl rfl ⟨rfl, hd_X8_copyFrom⟩ ⟨by decide, by decide⟩ rfl rfl rfl rfl [13, 14, 15, 16, 85, 86, 87, 88] (by decide) in_74 se_74 (adrFW.trans adrFW.symm) rfl (Nat.le_of_ble_eq_true rfl) dX9_again_33 ⟨Nat.zero_le _, Nat.zero_le _⟩ ?_
          refine r_aload_n C dX9_again_36 0 rfl rfl ?_
          refine r_get (ci := 6) (CC := RX9) (T := TX9) (N := 12) (v := .ref (ad 22)) C hinX9_again_X9 0 rfl rfl 7 (by decide) mX9_again_4 rfl rfl dX9_again_37 ?_
          obtain ⟨u7, hu7, h⟩ := ob_bind h
          refine r_callVV (q0 := 0) (As := []) (rest := []) (ws1 := (wFW cyI cyZ cyW ad letters length stage rco rcl ron rtubs rpegs rpwi rflags rpco rpcl rphr rpho tubs pegs pwi flags pco pcl phr pho u6.1 u6.2.1 u6.2.2.1 u6.2.2.2.1 u6.2.2.2.2 twh tlf tco twi tho u7.1 u7.2 awh alf aco awi aho sfl sco swt ssz kwh klf kco kwi kho kept seed)) C (kX0_forgetAll (a0 := (ad 22)) (a1 := (ad 23)) (first := first) (size := size)  hu7) gX9_again_X0_forgetAll rfl rfl rfl ⟨rfl, hd_X0_forgetAll⟩ ⟨by decide, by decide⟩ rfl rfl rfl rfl [22] (by decide) in_57 se_57 (adrFW.trans adrFW.symm) rfl (Nat.le_of_ble_eq_true rfl) dX9_again_40 ⟨Nat.zero_le _, Nat.zero_le _⟩ ?_
          refine r_aload_n C dX9_again_43 0 rfl rfl ?_
          refine r_get (ci := 6) (CC := RX9) (T := TX9) (N := 12) (v := .ref (ad 13)) C hinX9_again_X9 0 rfl rfl 4 (by decide) mX9_again_2 rfl rfl dX9_again_44 ?_
          refine r_get (ci := 5) (CC := RX8) (T := TX8) (N := 6) (v := .int u6.2.2.2.2) C hinX9_again_X8 13 rfl rfl 5 (by decide) mX9_again_5 rfl rfl dX9_again_47 ?_
          have h9 := Option.some.inj h
          subst h9
          exact r_iret C rfl dX9_again_50
        · refine r_aldq (b := (ad 89)) C 84 2 rfl rfl (inb_vp hu5) rfl dX9_again_32 ?_
          obtain ⟨u6, hu6, h⟩ := ob_bind h
          refine r_callVV (q0 := 0) (As := [.ref (ad 89)]) (rest := []) (ws1 := (wFW cyI cyZ cyW ad letters length stage rco rcl ron rtubs rpegs rpwi rflags rpco rpcl rphr rpho tubs pegs pwi flags pco pcl phr pho u6.1 u6.2.1 u6.2.2.1 u6.2.2.2.1 u6.2.2.2.2 twh tlf tco twi tho first size awh alf aco awi aho sfl sco swt ssz kwh klf kco kwi kho kept seed)) C (kX8_copyFrom (w0 := (ad 13)) (w1 := (ad 14)) (w2 := (ad 15)) (w3 := (ad 16)) (v0 := (ad 89)) (v1 := (ad 90)) (v2 := (ad 91)) (v3 := (ad 92)) (p0 := (ad 8)) (wh := wh) (lf := lf) (co := co) (wi := wi) (ho := ho) (owh := (kwh 1)) (olf := (klf 1)) (oco := (kco 1)) (owi := (kwi 1)) (oho := (kho 1))  hu6) gX9_again_X8_copyFrom rfl rfl rfl ⟨rfl, hd_X8_copyFrom⟩ ⟨by decide, by decide⟩ rfl rfl rfl rfl [13, 14, 15, 16, 89, 90, 91, 92] (by decide) in_75 se_75 (adrFW.trans adrFW.symm) rfl (Nat.le_of_ble_eq_true rfl) dX9_again_33 ⟨Nat.zero_le _, Nat.zero_le _⟩ ?_
          refine r_aload_n C dX9_again_36 0 rfl rfl ?_
          refine r_get (ci := 6) (CC := RX9) (T := TX9) (N := 12) (v := .ref (ad 22)) C hinX9_again_X9 0 rfl rfl 7 (by decide) mX9_again_4 rfl rfl dX9_again_37 ?_
          obtain ⟨u7, hu7, h⟩ := ob_bind h
          refine r_callVV (q0 := 0) (As := []) (rest := []) (ws1 := (wFW cyI cyZ cyW ad letters length stage rco rcl ron rtubs rpegs rpwi rflags rpco rpcl rphr rpho tubs pegs pwi flags pco pcl phr pho u6.1 u6.2.1 u6.2.2.1 u6.2.2.2.1 u6.2.2.2.2 twh tlf tco twi tho u7.1 u7.2 awh alf aco awi aho sfl sco swt ssz kwh klf kco kwi kho kept seed)) C (kX0_forgetAll (a0 := (ad 22)) (a1 := (ad 23)) (first := first) (size := size)  hu7) gX9_again_X0_forgetAll rfl rfl rfl ⟨rfl, hd_X0_forgetAll⟩ ⟨by decide, by decide⟩ rfl rfl rfl rfl [22] (by decide) in_57 se_57 (adrFW.trans adrFW.symm) rfl (Nat.le_of_ble_eq_true rfl) dX9_again_40 ⟨Nat.zero_le _, Nat.zero_le _⟩ ?_
          refine r_aload_n C dX9_again_43 0 rfl rfl ?_
          refine r_get (ci := 6) (CC := RX9) (T := TX9) (N := 12) (v := .ref (ad 13)) C hinX9_again_X9 0 rfl rfl 4 (by decide) mX9_again_2 rfl rfl dX9_again_44 ?_
          refine r_get (ci := 5) (CC := RX8) (T := TX8) (N := 6) (v := .int u6.2.2.2.2) C hinX9_again_X8 13 rfl rfl 5 (by decide) mX9_again_5 rfl rfl dX9_again_47 ?_
          have h9 := Option.some.inj h
          subst h9
          exact r_iret C rfl dX9_again_50
      · replace h := ob_t h c4
        refine r_bipush (v := -3) C dX9_again_20 bp_m3 ?_
        have h9 := Option.some.inj h
        subst h9
        exact r_iret C rfl dX9_again_22
    · replace h := ob_f h c2
      refine r_iconst (v := -1) C dX9_again_9 ic_m1 ?_
      have h9 := Option.some.inj h
      subst h9
      exact r_iret C rfl dX9_again_10
