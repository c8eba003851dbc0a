/-! ===== FlagWash.count ===== -/
def fX9_count  (x1 : Int32) (length : Int32) (tubs : Int32) (pegs : Int32) (flags : Int32) (pho : (Nat → Int32)) (wh : (Nat → Int32)) (wi : Int32) (ho : Int32) (size : Int32) (ssz : Int32) : Option (Int32) :=
 (if x1 = (0 : Int32) then (some length)
 else (if x1 = (1 : Int32) then (some flags)
 else (if x1 = (2 : Int32) then ((fX8_freeTubs wh tubs flags).bind fun u4 => (some u4))
 else (if x1 = (3 : Int32) then ((fX8_freePegs wh pegs flags).bind fun u6 => (some u6))
 else (if x1 = (4 : Int32) then (some wi)
 else (if x1 = (5 : Int32) then ((fX8_homeBits wh flags).bind fun u9 => (some u9))
 else (if x1 = (6 : Int32) then ((fX8_pairsThatMayFight wh flags pho).bind fun u11 => (some u11))
 else (if x1 = (7 : Int32) then (some ho)
 else (if x1 = (8 : Int32) then (some size)
 else (if x1 = (9 : Int32) then (some ssz)
 else (some (-2 : Int32))))))))))))
theorem hinX9_count_X9 : ∀ w ∈ u_ws RX9 TX9 12, w ∈ wsX9_count := fun w h => List.mem_cons_of_mem _ (List.mem_append_left _ (List.mem_append_left _ (List.mem_append_left _ (List.mem_append_left _ (List.mem_append_right _ h)))))
theorem mX9_count_1 : Cond.fieldLink RX9 13 "FlagWash" "length" "I" ∈ wsX9_count := List.mem_of_getElem? (i := 1) rfl
theorem mX9_count_2 : Cond.fieldLink RX9 27 "FlagWash" "plan" "LFlagWash$Plan;" ∈ wsX9_count := List.mem_of_getElem? (i := 2) rfl
theorem hinX9_count_X4 : ∀ w ∈ u_ws RX4 TX4 8, w ∈ wsX9_count := fun w h => List.mem_cons_of_mem _ (List.mem_append_left _ (List.mem_append_left _ (List.mem_append_left _ (List.mem_append_right _ h))))
theorem mX9_count_3 : Cond.fieldLink RX9 92 "FlagWash$Plan" "flags" "I" ∈ wsX9_count := List.mem_of_getElem? (i := 3) rfl
theorem mX9_count_4 : Cond.fieldLink RX9 36 "FlagWash" "now" "LFlagWash$Wash;" ∈ wsX9_count := List.mem_of_getElem? (i := 4) rfl
theorem hinX9_count_X8 : ∀ w ∈ u_ws RX8 TX8 6, w ∈ wsX9_count := fun w h => List.mem_cons_of_mem _ (List.mem_append_left _ (List.mem_append_left _ (List.mem_append_right _ h)))
theorem mX9_count_5 : Cond.fieldLink RX9 140 "FlagWash$Wash" "wind" "I" ∈ wsX9_count := List.mem_of_getElem? (i := 5) rfl
theorem mX9_count_6 : Cond.fieldLink RX9 249 "FlagWash$Wash" "hour" "I" ∈ wsX9_count := List.mem_of_getElem? (i := 6) rfl
theorem mX9_count_7 : Cond.fieldLink RX9 55 "FlagWash" "acts" "LFlagWash$Acts;" ∈ wsX9_count := List.mem_of_getElem? (i := 7) rfl
theorem hinX9_count_X0 : ∀ w ∈ u_ws RX0 TX0 3, w ∈ wsX9_count := fun w h => List.mem_cons_of_mem _ (List.mem_append_left _ (List.mem_append_right _ h))
theorem mX9_count_8 : Cond.fieldLink RX9 147 "FlagWash$Acts" "size" "I" ∈ wsX9_count := List.mem_of_getElem? (i := 8) rfl
theorem mX9_count_9 : Cond.fieldLink RX9 62 "FlagWash" "sightings" "LFlagWash$Sightings;" ∈ wsX9_count := List.mem_of_getElem? (i := 9) rfl
theorem hinX9_count_X7 : ∀ w ∈ u_ws RX7 TX7 4, w ∈ wsX9_count := fun w h => List.mem_cons_of_mem _ (List.mem_append_right _ h)
theorem mX9_count_10 : Cond.fieldLink RX9 194 "FlagWash$Sightings" "size" "I" ∈ wsX9_count := List.mem_of_getElem? (i := 10) rfl
theorem hd_X9_count : yX9_count.cls ≠ "java/lang/invoke/MethodHandle" ∧ yX9_count.cls ≠ "java/lang/invoke/VarHandle" ∧ (parseMethodDescriptor yX9_count.desc).map (fun d => d.parameters.length) = some 1 := by decide +kernel
set_option maxHeartbeats 4000000 in
set_option maxRecDepth 100000 in
theorem kX9_count {l : Launch} {D : va_G} {cyI cyZ cyW : ClassId} {zW zO : Nat} {ad : Nat → Nat} {letters : (Nat → Int32)} {length : Int32} {stage : Int32} {rco : Int32} {rcl : Int32} {ron : Int32} {rtubs : Int32} {rpegs : Int32} {rpwi : Int32} {rflags : Int32} {rpco : (Nat → Int32)} {rpcl : (Nat → Int32)} {rphr : (Nat → Int32)} {rpho : (Nat → Int32)} {tubs : Int32} {pegs : Int32} {pwi : Int32} {flags : Int32} {pco : (Nat → Int32)} {pcl : (Nat → Int32)} {phr : (Nat → Int32)} {pho : (Nat → Int32)} {wh : (Nat → Int32)} {lf : (Nat → Int32)} {co : (Nat → Int32)} {wi : Int32} {ho : Int32} {twh : (Nat → Int32)} {tlf : (Nat → Int32)} {tco : (Nat → Int32)} {twi : Int32} {tho : Int32} {first : Int32} {size : Int32} {awh : (Nat → Nat → Int32)} {alf : (Nat → Nat → Int32)} {aco : (Nat → Nat → Int32)} {awi : (Nat → Int32)} {aho : (Nat → Int32)} {sfl : (Nat → Int32)} {sco : (Nat → Int32)} {swt : (Nat → Int32)} {ssz : Int32} {kwh : (Nat → Nat → Int32)} {klf : (Nat → Nat → Int32)} {kco : (Nat → Nat → Int32)} {kwi : (Nat → Int32)} {kho : (Nat → Int32)} {kept : (Nat → Int32)} {seed : Int64} {x1 : Int32} {res : Int32} (h : fX9_count x1 length tubs pegs flags pho wh wi ho size ssz = some res) : KI l yX9_count wsX9_count ({ frames := 3, cells := 0, slots := 0, locals := 63 } : Room) D (tyA cyI cyZ cyW) zW zO [.ref (ad 0), .int x1] (wFW cyI cyZ cyW ad letters length stage rco rcl ron rtubs rpegs rpwi rflags rpco rpcl rphr rpho tubs pegs pwi flags pco pcl phr pho wh lf co wi ho twh tlf tco twi tho first size awh alf aco awi aho sfl sco swt ssz kwh klf kco kwi kho kept seed) (wFW cyI cyZ cyW ad letters length stage rco rcl ron rtubs rpegs rpwi rflags rpco rpcl rphr rpho tubs pegs pwi flags pco pcl phr pho wh lf co wi ho twh tlf tco twi tho first size awh alf aco awi aho sfl sco swt ssz kwh klf kco kwi kho kept seed) res := by
  refine enterI (cc := cX9_count) (nL := 2) (ret := (some .int)) (by decide) rfl (Nat.le_of_ble_eq_true rfl) (fun p e s m below meth c A C => ?_)
  refine r_lv (lv' := [(0, .ref (ad 0)), (1, .int x1)]) [0, 1] rfl ?_
  unfold fX9_count at h
  refine r_iload_n C dX9_count_0 1 rfl rfl ?_
  by_cases c1 : x1 = (0 : Int32)
  · replace h := ob_t h c1
    refine r_tsAt (tgt := 56) (off := 55) C (0 : Int32) c1 dX9_count_1 (by decide) (by decide) (by decide) (by decide) ?_
    refine r_aload_n C dX9_count_56 0 rfl rfl ?_
    refine r_get (ci := 6) (CC := RX9) (T := TX9) (N := 12) (v := .int length) C hinX9_count_X9 0 rfl rfl 1 (by decide) mX9_count_1 rfl rfl dX9_count_57 ?_
    have h9 := Option.some.inj h
    subst h9
    exact r_iret C rfl dX9_count_60
  replace h := ob_f h c1
  by_cases c2 : x1 = (1 : Int32)
  · replace h := ob_t h c2
    refine r_tsAt (tgt := 61) (off := 60) C (1 : Int32) c2 dX9_count_1 (by decide) (by decide) (by decide) (by decide) ?_
    refine r_aload_n C dX9_count_61 0 rfl rfl ?_
    refine r_get (ci := 6) (CC := RX9) (T := TX9) (N := 12) (v := .ref (ad 8)) C hinX9_count_X9 0 rfl rfl 3 (by decide) mX9_count_2 rfl rfl dX9_count_62 ?_
    refine r_get (ci := 2) (CC := RX4) (T := TX4) (N := 8) (v := .int flags) C hinX9_count_X4 8 rfl rfl 3 (by decide) mX9_count_3 rfl rfl dX9_count_65 ?_
    have h9 := Option.some.inj h
    subst h9
    exact r_iret C rfl dX9_count_68
  replace h := ob_f h c2
  by_cases c3 : x1 = (2 : Int32)
  · replace h := ob_t h c3
    refine r_tsAt (tgt := 69) (off := 68) C (2 : Int32) c3 dX9_count_1 (by decide) (by decide) (by decide) (by decide) ?_
    refine r_aload_n C dX9_count_69 0 rfl rfl ?_
    refine r_get (ci := 6) (CC := RX9) (T := TX9) (N := 12) (v := .ref (ad 13)) C hinX9_count_X9 0 rfl rfl 4 (by decide) mX9_count_4 rfl rfl dX9_count_70 ?_
    obtain ⟨u4, hu4, h⟩ := ob_bind h
    refine r_readVI (q0 := 0) (As := []) (rest := []) C (kX8_freeTubs (w0 := (ad 13)) (w1 := (ad 14)) (w2 := (ad 15)) (w3 := (ad 16)) (p0 := (ad 8)) (p1 := (ad 9)) (p2 := (ad 10)) (p3 := (ad 11)) (p4 := (ad 12)) (wh := wh) (lf := lf) (co := co) (wi := wi) (ho := ho) (tubs := tubs) (pegs := pegs) (pwi := pwi) (flags := flags) (pco := pco) (pcl := pcl) (phr := phr) (pho := pho)  hu4) gX9_count_X8_freeTubs rfl rfl rfl ⟨rfl, hd_X8_freeTubs⟩ ⟨by decide, by decide⟩ rfl rfl rfl rfl [13, 14, 15, 16, 8, 9, 10, 11, 12] (by decide) in_59 rfl (Nat.le_of_ble_eq_true rfl) dX9_count_73 ⟨Nat.zero_le _, Nat.zero_le _⟩ ?_
    have h9 := Option.some.inj h
    subst h9
    exact r_iret C rfl dX9_count_76
  replace h := ob_f h c3
  by_cases c5 : x1 = (3 : Int32)
  · replace h := ob_t h c5
    refine r_tsAt (tgt := 77) (off := 76) C (3 : Int32) c5 dX9_count_1 (by decide) (by decide) (by decide) (by decide) ?_
    refine r_aload_n C dX9_count_77 0 rfl rfl ?_
    refine r_get (ci := 6) (CC := RX9) (T := TX9) (N := 12) (v := .ref (ad 13)) C hinX9_count_X9 0 rfl rfl 4 (by decide) mX9_count_4 rfl rfl dX9_count_78 ?_
    obtain ⟨u6, hu6, h⟩ := ob_bind h
    refine r_readVI (q0 := 0) (As := []) (rest := []) C (kX8_freePegs (w0 := (ad 13)) (w1 := (ad 14)) (w2 := (ad 15)) (w3 := (ad 16)) (p0 := (ad 8)) (p1 := (ad 9)) (p2 := (ad 10)) (p3 := (ad 11)) (p4 := (ad 12)) (wh := wh) (lf := lf) (co := co) (wi := wi) (ho := ho) (tubs := tubs) (pegs := pegs) (pwi := pwi) (flags := flags) (pco := pco) (pcl := pcl) (phr := phr) (pho := pho)  hu6) gX9_count_X8_freePegs rfl rfl rfl ⟨rfl, hd_X8_freePegs⟩ ⟨by decide, by decide⟩ rfl rfl rfl rfl [13, 14, 15, 16, 8, 9, 10, 11, 12] (by decide) in_59 rfl (Nat.le_of_ble_eq_true rfl) dX9_count_81 ⟨Nat.zero_le _, Nat.zero_le _⟩ ?_
    have h9 := Option.some.inj h
    subst h9
    exact r_iret C rfl dX9_count_84
  replace h := ob_f h c5
  by_cases c7 : x1 = (4 : Int32)
  · replace h := ob_t h c7
    refine r_tsAt (tgt := 85) (off := 84) C (4 : Int32) c7 dX9_count_1 (by decide) (by decide) (by decide) (by decide) ?_
    refine r_aload_n C dX9_count_85 0 rfl rfl ?_
    refine r_get (ci := 6) (CC := RX9) (T := TX9) (N := 12) (v := .ref (ad 13)) C hinX9_count_X9 0 rfl rfl 4 (by decide) mX9_count_4 rfl rfl dX9_count_86 ?_
    refine r_get (ci := 5) (CC := RX8) (T := TX8) (N := 6) (v := .int wi) C hinX9_count_X8 13 rfl rfl 4 (by decide) mX9_count_5 rfl rfl dX9_count_89 ?_
    have h9 := Option.some.inj h
    subst h9
    exact r_iret C rfl dX9_count_92
  replace h := ob_f h c7
  by_cases c8 : x1 = (5 : Int32)
  · replace h := ob_t h c8
    refine r_tsAt (tgt := 93) (off := 92) C (5 : Int32) c8 dX9_count_1 (by decide) (by decide) (by decide) (by decide) ?_
    refine r_aload_n C dX9_count_93 0 rfl rfl ?_
    refine r_get (ci := 6) (CC := RX9) (T := TX9) (N := 12) (v := .ref (ad 13)) C hinX9_count_X9 0 rfl rfl 4 (by decide) mX9_count_4 rfl rfl dX9_count_94 ?_
    obtain ⟨u9, hu9, h⟩ := ob_bind h
    refine r_readVI (q0 := 0) (As := []) (rest := []) C (kX8_homeBits (w0 := (ad 13)) (w1 := (ad 14)) (w2 := (ad 15)) (w3 := (ad 16)) (p0 := (ad 8)) (p1 := (ad 9)) (p2 := (ad 10)) (p3 := (ad 11)) (p4 := (ad 12)) (wh := wh) (lf := lf) (co := co) (wi := wi) (ho := ho) (tubs := tubs) (pegs := pegs) (pwi := pwi) (flags := flags) (pco := pco) (pcl := pcl) (phr := phr) (pho := pho)  hu9) gX9_count_X8_homeBits rfl rfl rfl ⟨rfl, hd_X8_homeBits⟩ ⟨by decide, by decide⟩ rfl rfl rfl rfl [13, 14, 15, 16, 8, 9, 10, 11, 12] (by decide) in_59 rfl (Nat.le_of_ble_eq_true rfl) dX9_count_97 ⟨Nat.zero_le _, Nat.zero_le _⟩ ?_
    have h9 := Option.some.inj h
    subst h9
    exact r_iret C rfl dX9_count_100
  replace h := ob_f h c8
  by_cases c10 : x1 = (6 : Int32)
  · replace h := ob_t h c10
    refine r_tsAt (tgt := 101) (off := 100) C (6 : Int32) c10 dX9_count_1 (by decide) (by decide) (by decide) (by decide) ?_
    refine r_aload_n C dX9_count_101 0 rfl rfl ?_
    refine r_get (ci := 6) (CC := RX9) (T := TX9) (N := 12) (v := .ref (ad 13)) C hinX9_count_X9 0 rfl rfl 4 (by decide) mX9_count_4 rfl rfl dX9_count_102 ?_
    obtain ⟨u11, hu11, h⟩ := ob_bind h
    refine r_readVI (q0 := 0) (As := []) (rest := []) C (kX8_pairsThatMayFight (w0 := (ad 13)) (w1 := (ad 14)) (w2 := (ad 15)) (w3 := (ad 16)) (p0 := (ad 8)) (p1 := (ad 9)) (p2 := (ad 10)) (p3 := (ad 11)) (p4 := (ad 12)) (wh := wh) (lf := lf) (co := co) (wi := wi) (ho := ho) (tubs := tubs) (pegs := pegs) (pwi := pwi) (flags := flags) (pco := pco) (pcl := pcl) (phr := phr) (pho := pho)  hu11) gX9_count_X8_pairsThatMayFight rfl rfl rfl ⟨rfl, hd_X8_pairsThatMayFight⟩ ⟨by decide, by decide⟩ rfl rfl rfl rfl [13, 14, 15, 16, 8, 9, 10, 11, 12] (by decide) in_59 rfl (Nat.le_of_ble_eq_true rfl) dX9_count_105 ⟨Nat.zero_le _, Nat.zero_le _⟩ ?_
    have h9 := Option.some.inj h
    subst h9
    exact r_iret C rfl dX9_count_108
  replace h := ob_f h c10
  by_cases c12 : x1 = (7 : Int32)
  · replace h := ob_t h c12
    refine r_tsAt (tgt := 109) (off := 108) C (7 : Int32) c12 dX9_count_1 (by decide) (by decide) (by decide) (by decide) ?_
    refine r_aload_n C dX9_count_109 0 rfl rfl ?_
    refine r_get (ci := 6) (CC := RX9) (T := TX9) (N := 12) (v := .ref (ad 13)) C hinX9_count_X9 0 rfl rfl 4 (by decide) mX9_count_4 rfl rfl dX9_count_110 ?_
    refine r_get (ci := 5) (CC := RX8) (T := TX8) (N := 6) (v := .int ho) C hinX9_count_X8 13 rfl rfl 5 (by decide) mX9_count_6 rfl rfl dX9_count_113 ?_
    have h9 := Option.some.inj h
    subst h9
    exact r_iret C rfl dX9_count_116
  replace h := ob_f h c12
  by_cases c13 : x1 = (8 : Int32)
  · replace h := ob_t h c13
    refine r_tsAt (tgt := 117) (off := 116) C (8 : Int32) c13 dX9_count_1 (by decide) (by decide) (by decide) (by decide) ?_
    refine r_aload_n C dX9_count_117 0 rfl rfl ?_
    refine r_get (ci := 6) (CC := RX9) (T := TX9) (N := 12) (v := .ref (ad 22)) C hinX9_count_X9 0 rfl rfl 7 (by decide) mX9_count_7 rfl rfl dX9_count_118 ?_
    refine r_get (ci := 0) (CC := RX0) (T := TX0) (N := 3) (v := .int size) C hinX9_count_X0 22 rfl rfl 2 (by decide) mX9_count_8 rfl rfl dX9_count_121 ?_
    have h9 := Option.some.inj h
    subst h9
    exact r_iret C rfl dX9_count_124
  replace h := ob_f h c13
  by_cases c14 : x1 = (9 : Int32)
  · replace h := ob_t h c14
    refine r_tsAt (tgt := 125) (off := 124) C (9 : Int32) c14 dX9_count_1 (by decide) (by decide) (by decide) (by decide) ?_
    refine r_aload_n C dX9_count_125 0 rfl rfl ?_
    refine r_get (ci := 6) (CC := RX9) (T := TX9) (N := 12) (v := .ref (ad 80)) C hinX9_count_X9 0 rfl rfl 8 (by decide) mX9_count_9 rfl rfl dX9_count_126 ?_
    refine r_get (ci := 4) (CC := RX7) (T := TX7) (N := 4) (v := .int ssz) C hinX9_count_X7 80 rfl rfl 3 (by decide) mX9_count_10 rfl rfl dX9_count_129 ?_
    have h9 := Option.some.inj h
    subst h9
    exact r_iret C rfl dX9_count_132
  replace h := ob_f h c14
  refine r_tsOut (tgt := 133) C dX9_count_1 (ts_out 0 9 (by decide) (fun k hk1 hk2 => by rcases (show k = 0 ∨ k = 1 ∨ k = 2 ∨ k = 3 ∨ k = 4 ∨ k = 5 ∨ k = 6 ∨ k = 7 ∨ k = 8 ∨ k = 9 by omega) with rfl | rfl | rfl | rfl | rfl | rfl | rfl | rfl | rfl | rfl <;> first | exact c1 | exact c2 | exact c3 | exact c5 | exact c7 | exact c8 | exact c10 | exact c12 | exact c13 | exact c14)) (by decide) ?_
  refine r_bipush (v := -2) C dX9_count_133 bp_m2 ?_
  have h9 := Option.some.inj h
  subst h9
  exact r_iret C rfl dX9_count_135
