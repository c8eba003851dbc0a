def adF (h : Nat) (u : Nat → Nat) : Nat → Nat
  | 0 => h
  | k + 1 => u k
theorem dfX0 : ∀ j, j < 3 → defaultValue (tyX0 j) = vp_V [.null, .int 0, .int 0] j := by
  intro j hj
  rcases (show j = 0 ∨ j = 1 ∨ j = 2 by omega) with rfl | rfl | rfl <;> rfl
theorem dfX2 : ∀ j, j < 1 → defaultValue (tyX2 j) = vp_V [.null] j := by
  intro j hj
  rcases (show j = 0 by omega) with rfl <;> rfl
theorem dfX4 : ∀ j, j < 8 → defaultValue (tyX4 j) = vp_V [.int 0, .int 0, .int 0, .int 0, .null, .null, .null, .null] j := by
  intro j hj
  rcases (show j = 0 ∨ j = 1 ∨ j = 2 ∨ j = 3 ∨ j = 4 ∨ j = 5 ∨ j = 6 ∨ j = 7 by omega) with rfl | rfl | rfl | rfl | rfl | rfl | rfl | rfl <;> rfl
theorem dfX5 : ∀ j, j < 5 → defaultValue (tyX5 j) = vp_V [.null, .int 0, .int 0, .int 0, .int 0] j := by
  intro j hj
  rcases (show j = 0 ∨ j = 1 ∨ j = 2 ∨ j = 3 ∨ j = 4 by omega) with rfl | rfl | rfl | rfl | rfl <;> rfl
theorem dfX7 : ∀ j, j < 4 → defaultValue (tyX7 j) = vp_V [.null, .null, .null, .int 0] j := by
  intro j hj
  rcases (show j = 0 ∨ j = 1 ∨ j = 2 ∨ j = 3 by omega) with rfl | rfl | rfl | rfl <;> rfl
theorem dfX8 : ∀ j, j < 6 → defaultValue (tyX8 j) = vp_V [.null, .null, .null, .null, .int 0, .int 0] j := by
  intro j hj
  rcases (show j = 0 ∨ j = 1 ∨ j = 2 ∨ j = 3 ∨ j = 4 ∨ j = 5 by omega) with rfl | rfl | rfl | rfl | rfl | rfl <;> rfl
theorem dfX9 : ∀ j, j < 12 → defaultValue (tyX9 j) = vp_V [.null, .int 0, .null, .null, .null, .null, .null, .null, .null, .null, .null, .long 0] j := by
  intro j hj
  rcases (show j = 0 ∨ j = 1 ∨ j = 2 ∨ j = 3 ∨ j = 4 ∨ j = 5 ∨ j = 6 ∨ j = 7 ∨ j = 8 ∨ j = 9 ∨ j = 10 ∨ j = 11 by omega) with rfl | rfl | rfl | rfl | rfl | rfl | rfl | rfl | rfl | rfl | rfl | rfl <;> rfl
theorem dfX10 : ∀ j, j < 24 → defaultValue (tyX10 j) = vp_V [.int 0, .int 0, .int 0, .null, .null, .null, .null, .null, .null, .int 0, .null, .int 0, .int 0, .int 0, .int 0, .int 0, .null, .int 0, .null, .null, .null, .long 0, .null, .null] j := by
  intro j hj
  rcases (show j = 0 ∨ j = 1 ∨ j = 2 ∨ j = 3 ∨ j = 4 ∨ j = 5 ∨ j = 6 ∨ j = 7 ∨ j = 8 ∨ j = 9 ∨ j = 10 ∨ j = 11 ∨ j = 12 ∨ j = 13 ∨ j = 14 ∨ j = 15 ∨ j = 16 ∨ j = 17 ∨ j = 18 ∨ j = 19 ∨ j = 20 ∨ j = 21 ∨ j = 22 ∨ j = 23 by omega) with rfl | rfl | rfl | rfl | rfl | rfl | rfl | rfl | rfl | rfl | rfl | rfl | rfl | rfl | rfl | rfl | rfl | rfl | rfl | rfl | rfl | rfl | rfl | rfl <;> rfl
theorem bp_34 : (Int8.ofInt (34)).toInt32 = 34 := by decide
theorem sp_238 : (Int16.ofInt (238)).toInt32 = 238 := by decide
theorem mX4_init_1 : Cond.methodLink RX4 3 objectInit ∈ wsX4_init := List.mem_of_getElem? (i := 1) rfl
theorem mX4_init_2 : Cond.instanceMethod objectInit ∈ wsX4_init := List.mem_of_getElem? (i := 2) rfl
theorem mX4_init_3 : Cond.code objectInit ⟨#[0xb1]⟩ 1 none ∈ wsX4_init := List.mem_of_getElem? (i := 3) rfl
theorem hinX4_init_X4 : ∀ w ∈ u_ws RX4 TX4 8, w ∈ wsX4_init := fun w h => List.mem_cons_of_mem _ (List.mem_append_right _ h)
theorem mX4_init_4 : Cond.fieldLink RX4 9 "FlagWash$Plan" "tubs" "I" ∈ wsX4_init := List.mem_of_getElem? (i := 4) rfl
theorem mX4_init_5 : Cond.fieldLink RX4 15 "FlagWash$Plan" "pegs" "I" ∈ wsX4_init := List.mem_of_getElem? (i := 5) rfl
theorem mX4_init_6 : Cond.fieldLink RX4 18 "FlagWash$Plan" "wind" "I" ∈ wsX4_init := List.mem_of_getElem? (i := 6) rfl
theorem mX4_init_7 : Cond.fieldLink RX4 21 "FlagWash$Plan" "flags" "I" ∈ wsX4_init := List.mem_of_getElem? (i := 7) rfl
theorem mX4_init_8 : Cond.arrayClass .int ∈ wsX4_init := List.mem_of_getElem? (i := 8) rfl
theorem mX4_init_9 : Cond.fieldLink RX4 24 "FlagWash$Plan" "colours" "[I" ∈ wsX4_init := List.mem_of_getElem? (i := 9) rfl
theorem mX4_init_10 : Cond.fieldLink RX4 28 "FlagWash$Plan" "cloth" "[I" ∈ wsX4_init := List.mem_of_getElem? (i := 10) rfl
theorem mX4_init_11 : Cond.fieldLink RX4 31 "FlagWash$Plan" "hours" "[I" ∈ wsX4_init := List.mem_of_getElem? (i := 11) rfl
theorem mX4_init_12 : Cond.fieldLink RX4 34 "FlagWash$Plan" "hostile" "[I" ∈ wsX4_init := List.mem_of_getElem? (i := 12) rfl
theorem hd_X4_init : yX4_init.cls ≠ "java/lang/invoke/MethodHandle" ∧ yX4_init.cls ≠ "java/lang/invoke/VarHandle" ∧ (parseMethodDescriptor yX4_init.desc).map (fun d => d.parameters.length) = some 0 := by decide +kernel
set_option maxHeartbeats 4000000 in
set_option maxRecDepth 100000 in
theorem kcX4_init {l : Launch} {D : va_G} {cyI cyZ cyW : ClassId} {zW zO : Nat} {h0 : Nat}  : KC l yX4_init wsX4_init ({ frames := 1, cells := 4, slots := 20, locals := 12 } : Room) D (tyA cyI cyZ cyW) zW zO [.ref h0] [(h0, .inr (2, [.int 0, .int 0, .int 0, .int 0, .null, .null, .null, .null]))] (fun u => [(h0, .inr (2, [.int (1 : Int32), .int (1 : Int32), .int (0 : Int32), .int (0 : Int32), .ref (u 0), .ref (u 1), .ref (u 2), .ref (u 3)])), ((u 0), .inl (cyI, 5, .inl (fun _ => 0))), ((u 1), .inl (cyI, 5, .inl (fun _ => 0))), ((u 2), .inl (cyI, 5, .inl (fun _ => 0))), ((u 3), .inl (cyI, 5, .inl (fun _ => 0)))]) 4 20 := by
  refine enterC (cc := cX4_init) (nL := 1) (ret := none) (by decide) rfl (Nat.le_of_ble_eq_true rfl) (fun p e s m below meth c A C => ?_)
  refine r_lv (lv' := [(0, .ref h0)]) [0] rfl ?_
  refine r_aload_n C dX4_init_0 0 rfl rfl ?_
  refine r_objInit C mX4_init_1 mX4_init_2 mX4_init_3 (by decide) (Nat.le_of_ble_eq_true rfl) dX4_init_1 ?_
  refine r_aload_n C dX4_init_4 0 rfl rfl ?_
  refine r_iconst (v := 1) C dX4_init_5 ic_1 ?_
  refine r_put (ci := 2) (CC := RX4) (T := TX4) (N := 8) (v := .int (1 : Int32)) (ws1 := [(h0, .inr (2, [.int (1 : Int32), .int 0, .int 0, .int 0, .null, .null, .null, .null]))]) (ty := .int) C hinX4_init_X4 tyX4 tyX4_ok nmX4 0 rfl rfl 0 (by decide) mX4_init_4 rfl rfl rfl rfl rfl (Nat.le_of_ble_eq_true rfl) rfl dX4_init_6 ?_
  refine r_aload_n C dX4_init_9 0 rfl rfl ?_
  refine r_iconst (v := 1) C dX4_init_10 ic_1 ?_
  refine r_put (ci := 2) (CC := RX4) (T := TX4) (N := 8) (v := .int (1 : Int32)) (ws1 := [(h0, .inr (2, [.int (1 : Int32), .int (1 : Int32), .int 0, .int 0, .null, .null, .null, .null]))]) (ty := .int) C hinX4_init_X4 tyX4 tyX4_ok nmX4 0 rfl rfl 1 (by decide) mX4_init_5 rfl rfl rfl rfl rfl (Nat.le_of_ble_eq_true rfl) rfl dX4_init_11 ?_
  refine r_aload_n C dX4_init_14 0 rfl rfl ?_
  refine r_iconst (v := 0) C dX4_init_15 ic_0 ?_
  refine r_put (ci := 2) (CC := RX4) (T := TX4) (N := 8) (v := .int (0 : Int32)) (ws1 := [(h0, .inr (2, [.int (1 : Int32), .int (1 : Int32), .int (0 : Int32), .int 0, .null, .null, .null, .null]))]) (ty := .int) C hinX4_init_X4 tyX4 tyX4_ok nmX4 0 rfl rfl 2 (by decide) mX4_init_6 rfl rfl rfl rfl rfl (Nat.le_of_ble_eq_true rfl) rfl dX4_init_16 ?_
  refine r_aload_n C dX4_init_19 0 rfl rfl ?_
  refine r_iconst (v := 0) C dX4_init_20 ic_0 ?_
  refine r_put (ci := 2) (CC := RX4) (T := TX4) (N := 8) (v := .int (0 : Int32)) (ws1 := [(h0, .inr (2, [.int (1 : Int32), .int (1 : Int32), .int (0 : Int32), .int (0 : Int32), .null, .null, .null, .null]))]) (ty := .int) C hinX4_init_X4 tyX4 tyX4_ok nmX4 0 rfl rfl 3 (by decide) mX4_init_7 rfl rfl rfl rfl rfl (Nat.le_of_ble_eq_true rfl) rfl dX4_init_21 ?_
  refine r_aload_n C dX4_init_24 0 rfl rfl ?_
  refine r_iconst (v := 5) C dX4_init_25 ic_5 ?_
  refine r_newa (atype := .int) (ty := .int) (cA := cyI) (a0 := (5, .inl (fun _ => 0))) (N' := 5) C mX4_init_8 rfl 0 rfl rfl (fun _ => rfl) (by decide) (by decide) (by decide) (by decide) (by decide) dX4_init_26 (fun q1 => ?_)
  refine r_eqw (ws1 := [(h0, .inr (2, [.int (1 : Int32), .int (1 : Int32), .int (0 : Int32), .int (0 : Int32), .null, .null, .null, .null])), (q1, .inl (cyI, 5, .inl (fun _ => 0)))]) rfl ?_
  refine r_putF (ci := 2) (CC := RX4) (T := TX4) (N := 8) (v := .ref q1) (ws1 := [(h0, .inr (2, [.int (1 : Int32), .int (1 : Int32), .int (0 : Int32), .int (0 : Int32), .ref q1, .null, .null, .null])), (q1, .inl (cyI, 5, .inl (fun _ => 0)))]) (ty := .array .int) C hinX4_init_X4 tyX4 tyX4_ok nmX4 0 rfl rfl 4 (by decide) mX4_init_9 rfl rfl rfl rfl rfl rfl rfl (Nat.le_of_ble_eq_true rfl) rfl dX4_init_28 ?_
  refine r_aload_n C dX4_init_31 0 rfl rfl ?_
  refine r_iconst (v := 5) C dX4_init_32 ic_5 ?_
  refine r_newa (atype := .int) (ty := .int) (cA := cyI) (a0 := (5, .inl (fun _ => 0))) (N' := 5) C mX4_init_8 rfl 0 rfl rfl (fun _ => rfl) (by decide) (by decide) (by decide) (by decide) (by decide) dX4_init_33 (fun q2 => ?_)
  refine r_eqw (ws1 := [(h0, .inr (2, [.int (1 : Int32), .int (1 : Int32), .int (0 : Int32), .int (0 : Int32), .ref q1, .null, .null, .null])), (q1, .inl (cyI, 5, .inl (fun _ => 0))), (q2, .inl (cyI, 5, .inl (fun _ => 0)))]) rfl ?_
  refine r_putF (ci := 2) (CC := RX4) (T := TX4) (N := 8) (v := .ref q2) (ws1 := [(h0, .inr (2, [.int (1 : Int32), .int (1 : Int32), .int (0 : Int32), .int (0 : Int32), .ref q1, .ref q2, .null, .null])), (q1, .inl (cyI, 5, .inl (fun _ => 0))), (q2, .inl (cyI, 5, .inl (fun _ => 0)))]) (ty := .array .int) C hinX4_init_X4 tyX4 tyX4_ok nmX4 0 rfl rfl 5 (by decide) mX4_init_10 rfl rfl rfl rfl rfl rfl rfl (Nat.le_of_ble_eq_true rfl) rfl dX4_init_35 ?_
  refine r_aload_n C dX4_init_38 0 rfl rfl ?_
  refine r_iconst (v := 5) C dX4_init_39 ic_5 ?_
  refine r_newa (atype := .int) (ty := .int) (cA := cyI) (a0 := (5, .inl (fun _ => 0))) (N' := 5) C mX4_init_8 rfl 0 rfl rfl (fun _ => rfl) (by decide) (by decide) (by decide) (by decide) (by decide) dX4_init_40 (fun q3 => ?_)
  refine r_eqw (ws1 := [(h0, .inr (2, [.int (1 : Int32), .int (1 : Int32), .int (0 : Int32), .int (0 : Int32), .ref q1, .ref q2, .null, .null])), (q1, .inl (cyI, 5, .inl (fun _ => 0))), (q2, .inl (cyI, 5, .inl (fun _ => 0))), (q3, .inl (cyI, 5, .inl (fun _ => 0)))]) rfl ?_
  refine r_putF (ci := 2) (CC := RX4) (T := TX4) (N := 8) (v := .ref q3) (ws1 := [(h0, .inr (2, [.int (1 : Int32), .int (1 : Int32), .int (0 : Int32), .int (0 : Int32), .ref q1, .ref q2, .ref q3, .null])), (q1, .inl (cyI, 5, .inl (fun _ => 0))), (q2, .inl (cyI, 5, .inl (fun _ => 0))), (q3, .inl (cyI, 5, .inl (fun _ => 0)))]) (ty := .array .int) C hinX4_init_X4 tyX4 tyX4_ok nmX4 0 rfl rfl 6 (by decide) mX4_init_11 rfl rfl rfl rfl rfl rfl rfl (Nat.le_of_ble_eq_true rfl) rfl dX4_init_42 ?_
  refine r_aload_n C dX4_init_45 0 rfl rfl ?_
  refine r_iconst (v := 5) C dX4_init_46 ic_5 ?_
  refine r_newa (atype := .int) (ty := .int) (cA := cyI) (a0 := (5, .inl (fun _ => 0))) (N' := 5) C mX4_init_8 rfl 0 rfl rfl (fun _ => rfl) (by decide) (by decide) (by decide) (by decide) (by decide) dX4_init_47 (fun q4 => ?_)
  refine r_eqw (ws1 := [(h0, .inr (2, [.int (1 : Int32), .int (1 : Int32), .int (0 : Int32), .int (0 : Int32), .ref q1, .ref q2, .ref q3, .null])), (q1, .inl (cyI, 5, .inl (fun _ => 0))), (q2, .inl (cyI, 5, .inl (fun _ => 0))), (q3, .inl (cyI, 5, .inl (fun _ => 0))), (q4, .inl (cyI, 5, .inl (fun _ => 0)))]) rfl ?_
  refine r_putF (ci := 2) (CC := RX4) (T := TX4) (N := 8) (v := .ref q4) (ws1 := [(h0, .inr (2, [.int (1 : Int32), .int (1 : Int32), .int (0 : Int32), .int (0 : Int32), .ref q1, .ref q2, .ref q3, .ref q4])), (q1, .inl (cyI, 5, .inl (fun _ => 0))), (q2, .inl (cyI, 5, .inl (fun _ => 0))), (q3, .inl (cyI, 5, .inl (fun _ => 0))), (q4, .inl (cyI, 5, .inl (fun _ => 0)))]) (ty := .array .int) C hinX4_init_X4 tyX4 tyX4_ok nmX4 0 rfl rfl 7 (by decide) mX4_init_12 rfl rfl rfl rfl rfl rfl rfl (Nat.le_of_ble_eq_true rfl) rfl dX4_init_49 ?_
  exact r_cret C (fun k => [q1, q2, q3, q4].getD k 0) rfl rfl dX4_init_52

theorem mX8_init_1 : Cond.methodLink RX8 3 objectInit ∈ wsX8_init := List.mem_of_getElem? (i := 1) rfl
theorem mX8_init_2 : Cond.instanceMethod objectInit ∈ wsX8_init := List.mem_of_getElem? (i := 2) rfl
theorem mX8_init_3 : Cond.code objectInit ⟨#[0xb1]⟩ 1 none ∈ wsX8_init := List.mem_of_getElem? (i := 3) rfl
theorem mX8_init_4 : Cond.arrayClass .int ∈ wsX8_init := List.mem_of_getElem? (i := 4) rfl
theorem hinX8_init_X8 : ∀ w ∈ u_ws RX8 TX8 6, w ∈ wsX8_init := fun w h => List.mem_cons_of_mem _ (List.mem_append_right _ h)
theorem mX8_init_5 : Cond.fieldLink RX8 9 "FlagWash$Wash" "where" "[I" ∈ wsX8_init := List.mem_of_getElem? (i := 5) rfl
theorem mX8_init_6 : Cond.fieldLink RX8 15 "FlagWash$Wash" "left" "[I" ∈ wsX8_init := List.mem_of_getElem? (i := 6) rfl
theorem mX8_init_7 : Cond.fieldLink RX8 18 "FlagWash$Wash" "colours" "[I" ∈ wsX8_init := List.mem_of_getElem? (i := 7) rfl
theorem mX8_init_8 : Cond.fieldLink RX8 21 "FlagWash$Wash" "wind" "I" ∈ wsX8_init := List.mem_of_getElem? (i := 8) rfl
theorem mX8_init_9 : Cond.fieldLink RX8 25 "FlagWash$Wash" "hour" "I" ∈ wsX8_init := List.mem_of_getElem? (i := 9) rfl
theorem mX8_init_10 : Cond.fieldLink RX8 28 "FlagWash$Wash" "plan" "LFlagWash$Plan;" ∈ wsX8_init := List.mem_of_getElem? (i := 10) rfl
theorem hd_X8_init : yX8_init.cls ≠ "java/lang/invoke/MethodHandle" ∧ yX8_init.cls ≠ "java/lang/invoke/VarHandle" ∧ (parseMethodDescriptor yX8_init.desc).map (fun d => d.parameters.length) = some 1 := by decide +kernel
set_option maxHeartbeats 4000000 in
set_option maxRecDepth 100000 in
theorem kcX8_init {l : Launch} {D : va_G} {cyI cyZ cyW : ClassId} {zW zO : Nat} {h0 : Nat} {b1 : Nat} : KC l yX8_init wsX8_init ({ frames := 1, cells := 3, slots := 15, locals := 12 } : Room) D (tyA cyI cyZ cyW) zW zO [.ref h0, .ref b1] [(h0, .inr (5, [.null, .null, .null, .null, .int 0, .int 0]))] (fun u => [(h0, .inr (5, [.ref b1, .ref (u 0), .ref (u 1), .ref (u 2), .int (0 : Int32), .int (0 : Int32)])), ((u 0), .inl (cyI, 5, .inl (fun _ => 0))), ((u 1), .inl (cyI, 5, .inl (fun _ => 0))), ((u 2), .inl (cyI, 5, .inl (fun _ => 0)))]) 3 15 := by
  refine enterC (cc := cX8_init) (nL := 2) (ret := none) (by decide) rfl (Nat.le_of_ble_eq_true rfl) (fun p e s m below meth c A C => ?_)
  refine r_lv (lv' := [(0, .ref h0), (1, .ref b1)]) [0, 1] rfl ?_
  refine r_aload_n C dX8_init_0 0 rfl rfl ?_
  refine r_objInit C mX8_init_1 mX8_init_2 mX8_init_3 (by decide) (Nat.le_of_ble_eq_true rfl) dX8_init_1 ?_
  refine r_aload_n C dX8_init_4 0 rfl rfl ?_
  refine r_iconst (v := 5) C dX8_init_5 ic_5 ?_
  refine r_newa (atype := .int) (ty := .int) (cA := cyI) (a0 := (5, .inl (fun _ => 0))) (N' := 5) C mX8_init_4 rfl 0 rfl rfl (fun _ => rfl) (by decide) (by decide) (by decide) (by decide) (by decide) dX8_init_6 (fun q1 => ?_)
  refine r_eqw (ws1 := [(h0, .inr (5, [.null, .null, .null, .null, .int 0, .int 0])), (q1, .inl (cyI, 5, .inl (fun _ => 0)))]) rfl ?_
  refine r_putF (ci := 5) (CC := RX8) (T := TX8) (N := 6) (v := .ref q1) (ws1 := [(h0, .inr (5, [.null, .ref q1, .null, .null, .int 0, .int 0])), (q1, .inl (cyI, 5, .inl (fun _ => 0)))]) (ty := .array .int) C hinX8_init_X8 tyX8 tyX8_ok nmX8 0 rfl rfl 1 (by decide) mX8_init_5 rfl rfl rfl rfl rfl rfl rfl (Nat.le_of_ble_eq_true rfl) rfl dX8_init_8 ?_
  refine r_aload_n C dX8_init_11 0 rfl rfl ?_
  refine r_iconst (v := 5) C dX8_init_12 ic_5 ?_
  refine r_newa (atype := .int) (ty := .int) (cA := cyI) (a0 := (5, .inl (fun _ => 0))) (N' := 5) C mX8_init_4 rfl 0 rfl rfl (fun _ => rfl) (by decide) (by decide) (by decide) (by decide) (by decide) dX8_init_13 (fun q2 => ?_)
  refine r_eqw (ws1 := [(h0, .inr (5, [.null, .ref q1, .null, .null, .int 0, .int 0])), (q1, .inl (cyI, 5, .inl (fun _ => 0))), (q2, .inl (cyI, 5, .inl (fun _ => 0)))]) rfl ?_
  refine r_putF (ci := 5) (CC := RX8) (T := TX8) (N := 6) (v := .ref q2) (ws1 := [(h0, .inr (5, [.null, .ref q1, .ref q2, .null, .int 0, .int 0])), (q1, .inl (cyI, 5, .inl (fun _ => 0))), (q2, .inl (cyI, 5, .inl (fun _ => 0)))]) (ty := .array .int) C hinX8_init_X8 tyX8 tyX8_ok nmX8 0 rfl rfl 2 (by decide) mX8_init_6 rfl rfl rfl rfl rfl rfl rfl (Nat.le_of_ble_eq_true rfl) rfl dX8_init_15 ?_
  refine r_aload_n C dX8_init_18 0 rfl rfl ?_
  refine r_iconst (v := 5) C dX8_init_19 ic_5 ?_
  refine r_newa (atype := .int) (ty := .int) (cA := cyI) (a0 := (5, .inl (fun _ => 0))) (N' := 5) C mX8_init_4 rfl 0 rfl rfl (fun _ => rfl) (by decide) (by decide) (by decide) (by decide) (by decide) dX8_init_20 (fun q3 => ?_)
  refine r_eqw (ws1 := [(h0, .inr (5, [.null, .ref q1, .ref q2, .null, .int 0, .int 0])), (q1, .inl (cyI, 5, .inl (fun _ => 0))), (q2, .inl (cyI, 5, .inl (fun _ => 0))), (q3, .inl (cyI, 5, .inl (fun _ => 0)))]) rfl ?_
  refine r_putF (ci := 5) (CC := RX8) (T := TX8) (N := 6) (v := .ref q3) (ws1 := [(h0, .inr (5, [.null, .ref q1, .ref q2, .ref q3, .int 0, .int 0])), (q1, .inl (cyI, 5, .inl (fun _ => 0))), (q2, .inl (cyI, 5, .inl (fun _ => 0))), (q3, .inl (cyI, 5, .inl (fun _ => 0)))]) (ty := .array .int) C hinX8_init_X8 tyX8 tyX8_ok nmX8 0 rfl rfl 3 (by decide) mX8_init_7 rfl rfl rfl rfl rfl rfl rfl (Nat.le_of_ble_eq_true rfl) rfl dX8_init_22 ?_
  refine r_aload_n C dX8_init_25 0 rfl rfl ?_
  refine r_iconst (v := 0) C dX8_init_26 ic_0 ?_
  refine r_put (ci := 5) (CC := RX8) (T := TX8) (N := 6) (v := .int (0 : Int32)) (ws1 := [(h0, .inr (5, [.null, .ref q1, .ref q2, .ref q3, .int (0 : Int32), .int 0])), (q1, .inl (cyI, 5, .inl (fun _ => 0))), (q2, .inl (cyI, 5, .inl (fun _ => 0))), (q3, .inl (cyI, 5, .inl (fun _ => 0)))]) (ty := .int) C hinX8_init_X8 tyX8 tyX8_ok nmX8 0 rfl rfl 4 (by decide) mX8_init_8 rfl rfl rfl rfl rfl (Nat.le_of_ble_eq_true rfl) rfl dX8_init_27 ?_
  refine r_aload_n C dX8_init_30 0 rfl rfl ?_
  refine r_iconst (v := 0) C dX8_init_31 ic_0 ?_
  refine r_put (ci := 5) (CC := RX8) (T := TX8) (N := 6) (v := .int (0 : Int32)) (ws1 := [(h0, .inr (5, [.null, .ref q1, .ref q2, .ref q3, .int (0 : Int32), .int (0 : Int32)])), (q1, .inl (cyI, 5, .inl (fun _ => 0))), (q2, .inl (cyI, 5, .inl (fun _ => 0))), (q3, .inl (cyI, 5, .inl (fun _ => 0)))]) (ty := .int) C hinX8_init_X8 tyX8 tyX8_ok nmX8 0 rfl rfl 5 (by decide) mX8_init_9 rfl rfl rfl rfl rfl (Nat.le_of_ble_eq_true rfl) rfl dX8_init_32 ?_
  refine r_aload_n C dX8_init_35 0 rfl rfl ?_
  refine r_aload_n C dX8_init_36 1 rfl rfl ?_
  refine r_putF (ci := 5) (CC := RX8) (T := TX8) (N := 6) (v := .ref b1) (ws1 := [(h0, .inr (5, [.ref b1, .ref q1, .ref q2, .ref q3, .int (0 : Int32), .int (0 : Int32)])), (q1, .inl (cyI, 5, .inl (fun _ => 0))), (q2, .inl (cyI, 5, .inl (fun _ => 0))), (q3, .inl (cyI, 5, .inl (fun _ => 0)))]) (ty := .object "FlagWash$Plan") C hinX8_init_X8 tyX8 tyX8_ok nmX8 0 rfl rfl 0 (by decide) mX8_init_10 rfl rfl rfl rfl rfl rfl rfl (Nat.le_of_ble_eq_true rfl) rfl dX8_init_37 ?_
  exact r_cret C (fun k => [q1, q2, q3].getD k 0) rfl rfl dX8_init_40

theorem mX2_init_1 : Cond.methodLink RX2 3 objectInit ∈ wsX2_init := List.mem_of_getElem? (i := 1) rfl
theorem mX2_init_2 : Cond.instanceMethod objectInit ∈ wsX2_init := List.mem_of_getElem? (i := 2) rfl
theorem mX2_init_3 : Cond.code objectInit ⟨#[0xb1]⟩ 1 none ∈ wsX2_init := List.mem_of_getElem? (i := 3) rfl
theorem hinX2_init_X2 : ∀ w ∈ u_ws RX2 TX2 1, w ∈ wsX2_init := fun w h => List.mem_cons_of_mem _ (List.mem_append_right _ h)
theorem mX2_init_4 : Cond.fieldLink RX2 9 "FlagWash$Forecast" "ahead" "LFlagWash$Wash;" ∈ wsX2_init := List.mem_of_getElem? (i := 4) rfl
theorem hd_X2_init : yX2_init.cls ≠ "java/lang/invoke/MethodHandle" ∧ yX2_init.cls ≠ "java/lang/invoke/VarHandle" ∧ (parseMethodDescriptor yX2_init.desc).map (fun d => d.parameters.length) = some 1 := by decide +kernel
set_option maxHeartbeats 4000000 in
set_option maxRecDepth 100000 in
theorem kcX2_init {l : Launch} {D : va_G} {cyI cyZ cyW : ClassId} {zW zO : Nat} {h0 : Nat} {b1 : Nat} : KC l yX2_init wsX2_init ({ frames := 1, cells := 0, slots := 0, locals := 12 } : Room) D (tyA cyI cyZ cyW) zW zO [.ref h0, .ref b1] [(h0, .inr (1, [.null]))] (fun u => [(h0, .inr (1, [.ref b1]))]) 0 0 := by
  refine enterC (cc := cX2_init) (nL := 2) (ret := none) (by decide) rfl (Nat.le_of_ble_eq_true rfl) (fun p e s m below meth c A C => ?_)
  refine r_lv (lv' := [(0, .ref h0), (1, .ref b1)]) [0, 1] rfl ?_
  refine r_aload_n C dX2_init_0 0 rfl rfl ?_
  refine r_objInit C mX2_init_1 mX2_init_2 mX2_init_3 (by decide) (Nat.le_of_ble_eq_true rfl) dX2_init_1 ?_
  refine r_aload_n C dX2_init_4 0 rfl rfl ?_
  refine r_aload_n C dX2_init_5 1 rfl rfl ?_
  refine r_putF (ci := 1) (CC := RX2) (T := TX2) (N := 1) (v := .ref b1) (ws1 := [(h0, .inr (1, [.ref b1]))]) (ty := .object "FlagWash$Wash") C hinX2_init_X2 tyX2 tyX2_ok nmX2 0 rfl rfl 0 (by decide) mX2_init_4 rfl rfl rfl rfl rfl rfl rfl (Nat.le_of_ble_eq_true rfl) rfl dX2_init_6 ?_
  exact r_cret C (fun k => [].getD k 0) rfl rfl dX2_init_9

theorem mX7_init_1 : Cond.methodLink RX7 3 objectInit ∈ wsX7_init := List.mem_of_getElem? (i := 1) rfl
theorem mX7_init_2 : Cond.instanceMethod objectInit ∈ wsX7_init := List.mem_of_getElem? (i := 2) rfl
theorem mX7_init_3 : Cond.code objectInit ⟨#[0xb1]⟩ 1 none ∈ wsX7_init := List.mem_of_getElem? (i := 3) rfl
theorem mX7_init_4 : Cond.arrayClass .int ∈ wsX7_init := List.mem_of_getElem? (i := 4) rfl
theorem hinX7_init_X7 : ∀ w ∈ u_ws RX7 TX7 4, w ∈ wsX7_init := fun w h => List.mem_cons_of_mem _ (List.mem_append_right _ h)
theorem mX7_init_5 : Cond.fieldLink RX7 9 "FlagWash$Sightings" "flag" "[I" ∈ wsX7_init := List.mem_of_getElem? (i := 5) rfl
theorem mX7_init_6 : Cond.fieldLink RX7 15 "FlagWash$Sightings" "colours" "[I" ∈ wsX7_init := List.mem_of_getElem? (i := 6) rfl
theorem mX7_init_7 : Cond.fieldLink RX7 18 "FlagWash$Sightings" "with" "[I" ∈ wsX7_init := List.mem_of_getElem? (i := 7) rfl
theorem mX7_init_8 : Cond.fieldLink RX7 21 "FlagWash$Sightings" "size" "I" ∈ wsX7_init := List.mem_of_getElem? (i := 8) rfl
theorem hd_X7_init : yX7_init.cls ≠ "java/lang/invoke/MethodHandle" ∧ yX7_init.cls ≠ "java/lang/invoke/VarHandle" ∧ (parseMethodDescriptor yX7_init.desc).map (fun d => d.parameters.length) = some 0 := by decide +kernel
set_option maxHeartbeats 4000000 in
set_option maxRecDepth 100000 in
theorem kcX7_init {l : Launch} {D : va_G} {cyI cyZ cyW : ClassId} {zW zO : Nat} {h0 : Nat}  : KC l yX7_init wsX7_init ({ frames := 1, cells := 3, slots := 18, locals := 12 } : Room) D (tyA cyI cyZ cyW) zW zO [.ref h0] [(h0, .inr (4, [.null, .null, .null, .int 0]))] (fun u => [(h0, .inr (4, [.ref (u 0), .ref (u 1), .ref (u 2), .int (0 : Int32)])), ((u 0), .inl (cyI, 6, .inl (fun _ => 0))), ((u 1), .inl (cyI, 6, .inl (fun _ => 0))), ((u 2), .inl (cyI, 6, .inl (fun _ => 0)))]) 3 18 := by
  refine enterC (cc := cX7_init) (nL := 1) (ret := none) (by decide) rfl (Nat.le_of_ble_eq_true rfl) (fun p e s m below meth c A C => ?_)
  refine r_lv (lv' := [(0, .ref h0)]) [0] rfl ?_
  refine r_aload_n C dX7_init_0 0 rfl rfl ?_
  refine r_objInit C mX7_init_1 mX7_init_2 mX7_init_3 (by decide) (Nat.le_of_ble_eq_true rfl) dX7_init_1 ?_
  refine r_aload_n C dX7_init_4 0 rfl rfl ?_
  refine r_bipush (v := 6) C dX7_init_5 bp_6 ?_
  refine r_newa (atype := .int) (ty := .int) (cA := cyI) (a0 := (6, .inl (fun _ => 0))) (N' := 6) C mX7_init_4 rfl 0 rfl rfl (fun _ => rfl) (by decide) (by decide) (by decide) (by decide) (by decide) dX7_init_7 (fun q1 => ?_)
  refine r_eqw (ws1 := [(h0, .inr (4, [.null, .null, .null, .int 0])), (q1, .inl (cyI, 6, .inl (fun _ => 0)))]) rfl ?_
  refine r_putF (ci := 4) (CC := RX7) (T := TX7) (N := 4) (v := .ref q1) (ws1 := [(h0, .inr (4, [.ref q1, .null, .null, .int 0])), (q1, .inl (cyI, 6, .inl (fun _ => 0)))]) (ty := .array .int) C hinX7_init_X7 tyX7 tyX7_ok nmX7 0 rfl rfl 0 (by decide) mX7_init_5 rfl rfl rfl rfl rfl rfl rfl (Nat.le_of_ble_eq_true rfl) rfl dX7_init_9 ?_
  refine r_aload_n C dX7_init_12 0 rfl rfl ?_
  refine r_bipush (v := 6) C dX7_init_13 bp_6 ?_
  refine r_newa (atype := .int) (ty := .int) (cA := cyI) (a0 := (6, .inl (fun _ => 0))) (N' := 6) C mX7_init_4 rfl 0 rfl rfl (fun _ => rfl) (by decide) (by decide) (by decide) (by decide) (by decide) dX7_init_15 (fun q2 => ?_)
  refine r_eqw (ws1 := [(h0, .inr (4, [.ref q1, .null, .null, .int 0])), (q1, .inl (cyI, 6, .inl (fun _ => 0))), (q2, .inl (cyI, 6, .inl (fun _ => 0)))]) rfl ?_
  refine r_putF (ci := 4) (CC := RX7) (T := TX7) (N := 4) (v := .ref q2) (ws1 := [(h0, .inr (4, [.ref q1, .ref q2, .null, .int 0])), (q1, .inl (cyI, 6, .inl (fun _ => 0))), (q2, .inl (cyI, 6, .inl (fun _ => 0)))]) (ty := .array .int) C hinX7_init_X7 tyX7 tyX7_ok nmX7 0 rfl rfl 1 (by decide) mX7_init_6 rfl rfl rfl rfl rfl rfl rfl (Nat.le_of_ble_eq_true rfl) rfl dX7_init_17 ?_
  refine r_aload_n C dX7_init_20 0 rfl rfl ?_
  refine r_bipush (v := 6) C dX7_init_21 bp_6 ?_
  refine r_newa (atype := .int) (ty := .int) (cA := cyI) (a0 := (6, .inl (fun _ => 0))) (N' := 6) C mX7_init_4 rfl 0 rfl rfl (fun _ => rfl) (by decide) (by decide) (by decide) (by decide) (by decide) dX7_init_23 (fun q3 => ?_)
  refine r_eqw (ws1 := [(h0, .inr (4, [.ref q1, .ref q2, .null, .int 0])), (q1, .inl (cyI, 6, .inl (fun _ => 0))), (q2, .inl (cyI, 6, .inl (fun _ => 0))), (q3, .inl (cyI, 6, .inl (fun _ => 0)))]) rfl ?_
  refine r_putF (ci := 4) (CC := RX7) (T := TX7) (N := 4) (v := .ref q3) (ws1 := [(h0, .inr (4, [.ref q1, .ref q2, .ref q3, .int 0])), (q1, .inl (cyI, 6, .inl (fun _ => 0))), (q2, .inl (cyI, 6, .inl (fun _ => 0))), (q3, .inl (cyI, 6, .inl (fun _ => 0)))]) (ty := .array .int) C hinX7_init_X7 tyX7 tyX7_ok nmX7 0 rfl rfl 2 (by decide) mX7_init_7 rfl rfl rfl rfl rfl rfl rfl (Nat.le_of_ble_eq_true rfl) rfl dX7_init_25 ?_
  refine r_aload_n C dX7_init_28 0 rfl rfl ?_
  refine r_iconst (v := 0) C dX7_init_29 ic_0 ?_
  refine r_put (ci := 4) (CC := RX7) (T := TX7) (N := 4) (v := .int (0 : Int32)) (ws1 := [(h0, .inr (4, [.ref q1, .ref q2, .ref q3, .int (0 : Int32)])), (q1, .inl (cyI, 6, .inl (fun _ => 0))), (q2, .inl (cyI, 6, .inl (fun _ => 0))), (q3, .inl (cyI, 6, .inl (fun _ => 0)))]) (ty := .int) C hinX7_init_X7 tyX7 tyX7_ok nmX7 0 rfl rfl 3 (by decide) mX7_init_8 rfl rfl rfl rfl rfl (Nat.le_of_ble_eq_true rfl) rfl dX7_init_30 ?_
  exact r_cret C (fun k => [q1, q2, q3].getD k 0) rfl rfl dX7_init_33

theorem mX5_init_1 : Cond.methodLink RX5 3 objectInit ∈ wsX5_init := List.mem_of_getElem? (i := 1) rfl
theorem mX5_init_2 : Cond.instanceMethod objectInit ∈ wsX5_init := List.mem_of_getElem? (i := 2) rfl
theorem mX5_init_3 : Cond.code objectInit ⟨#[0xb1]⟩ 1 none ∈ wsX5_init := List.mem_of_getElem? (i := 3) rfl
theorem hinX5_init_X4 : ∀ w ∈ u_ws RX4 TX4 8, w ∈ wsX5_init := fun w h => List.mem_cons_of_mem _ (List.mem_append_left _ (List.mem_append_right _ h))
theorem mX5_init_4 : Cond.classLink RX5 9 RX4 ∈ wsX5_init := List.mem_of_getElem? (i := 4) rfl
theorem mX5_init_5 : Cond.instantiable RX4 8 ∈ wsX5_init := List.mem_of_getElem? (i := 5) rfl
theorem mX5_init_6 : Cond.initialized RX4 ∈ wsX5_init := List.mem_of_getElem? (i := 6) rfl
theorem mX5_init_12 : Cond.instanceMethod yX4_init ∈ wsX5_init := List.mem_of_getElem? (i := 12) rfl
theorem hinX5_init_X5 : ∀ w ∈ u_ws RX5 TX5 5, w ∈ wsX5_init := fun w h => List.mem_cons_of_mem _ (List.mem_append_right _ h)
theorem mX5_init_7 : Cond.fieldLink RX5 12 "FlagWash$Reader" "plan" "LFlagWash$Plan;" ∈ wsX5_init := List.mem_of_getElem? (i := 7) rfl
theorem mX5_init_8 : Cond.fieldLink RX5 18 "FlagWash$Reader" "stage" "I" ∈ wsX5_init := List.mem_of_getElem? (i := 8) rfl
theorem mX5_init_9 : Cond.fieldLink RX5 22 "FlagWash$Reader" "colours" "I" ∈ wsX5_init := List.mem_of_getElem? (i := 9) rfl
theorem mX5_init_10 : Cond.fieldLink RX5 25 "FlagWash$Reader" "cloth" "I" ∈ wsX5_init := List.mem_of_getElem? (i := 10) rfl
theorem mX5_init_11 : Cond.fieldLink RX5 28 "FlagWash$Reader" "one" "I" ∈ wsX5_init := List.mem_of_getElem? (i := 11) rfl
theorem hd_X5_init : yX5_init.cls ≠ "java/lang/invoke/MethodHandle" ∧ yX5_init.cls ≠ "java/lang/invoke/VarHandle" ∧ (parseMethodDescriptor yX5_init.desc).map (fun d => d.parameters.length) = some 0 := by decide +kernel
set_option maxHeartbeats 4000000 in
set_option maxRecDepth 100000 in
theorem kcX5_init {l : Launch} {D : va_G} {cyI cyZ cyW : ClassId} {zW zO : Nat} {h0 : Nat}  : KC l yX5_init wsX5_init ({ frames := 2, cells := 5, slots := 28, locals := 32 } : Room) D (tyA cyI cyZ cyW) zW zO [.ref h0] [(h0, .inr (3, [.null, .int 0, .int 0, .int 0, .int 0]))] (fun u => [(h0, .inr (3, [.ref (u 0), .int (0 : Int32), .int (0 : Int32), .int (0 : Int32), .int (0 : Int32)])), ((u 0), .inr (2, [.int (1 : Int32), .int (1 : Int32), .int (0 : Int32), .int (0 : Int32), .ref (u 1), .ref (u 2), .ref (u 3), .ref (u 4)])), ((u 1), .inl (cyI, 5, .inl (fun _ => 0))), ((u 2), .inl (cyI, 5, .inl (fun _ => 0))), ((u 3), .inl (cyI, 5, .inl (fun _ => 0))), ((u 4), .inl (cyI, 5, .inl (fun _ => 0)))]) 5 28 := by
  refine enterC (cc := cX5_init) (nL := 1) (ret := none) (by decide) rfl (Nat.le_of_ble_eq_true rfl) (fun p e s m below meth c A C => ?_)
  refine r_lv (lv' := [(0, .ref h0)]) [0] rfl ?_
  refine r_aload_n C dX5_init_0 0 rfl rfl ?_
  refine r_objInit C mX5_init_1 mX5_init_2 mX5_init_3 (by decide) (Nat.le_of_ble_eq_true rfl) dX5_init_1 ?_
  refine r_aload_n C dX5_init_4 0 rfl rfl ?_
  refine r_new (ci := 2) (fs := [.int 0, .int 0, .int 0, .int 0, .null, .null, .null, .null]) (CC := RX4) (T := TX4) (N := 8) C hinX5_init_X4 tyX4 tyX4_ok mX5_init_4 mX5_init_5 mX5_init_6 rfl dfX4 (by decide) (by decide) dX5_init_5 (fun q1 => ?_)
  refine r_eqw (ws1 := [(h0, .inr (3, [.null, .int 0, .int 0, .int 0, .int 0])), (q1, .inr (2, [.int 0, .int 0, .int 0, .int 0, .null, .null, .null, .null]))]) rfl ?_
  refine r_dup C dX5_init_8 rfl ?_
  refine r_callINC (host := RX9) (As := []) (rest := [.ref q1, .ref h0]) (W0 := [(q1, .inr (2, [.int 0, .int 0, .int 0, .int 0, .null, .null, .null, .null]))]) (Wr := [(h0, .inr (3, [.null, .int 0, .int 0, .int 0, .int 0]))]) (wsn := fun u2 => [(h0, .inr (3, [.null, .int 0, .int 0, .int 0, .int 0])), (q1, .inr (2, [.int (1 : Int32), .int (1 : Int32), .int (0 : Int32), .int (0 : Int32), .ref (u2 0), .ref (u2 1), .ref (u2 2), .ref (u2 3)])), ((u2 0), .inl (cyI, 5, .inl (fun _ => 0))), ((u2 1), .inl (cyI, 5, .inl (fun _ => 0))), ((u2 2), .inl (cyI, 5, .inl (fun _ => 0))), ((u2 3), .inl (cyI, 5, .inl (fun _ => 0)))]) C (kcX4_init (h0 := q1) ) gX5_init_X4_init_n11 rfl rfl rfl (by decide +kernel) mX5_init_6 mX5_init_12 rfl hd_X4_init ⟨by decide, by decide⟩ rfl [1] [0] [0, 1, 2, 3, 4, 5] (by decide) (by decide) (by decide) (by decide) rfl rfl (fun _ => rfl) rfl (Nat.le_of_ble_eq_true rfl) dX5_init_9 ⟨by decide, by decide⟩ (fun u2 => ?_)
  refine r_eqw (ws1 := [(h0, .inr (3, [.null, .int 0, .int 0, .int 0, .int 0])), (q1, .inr (2, [.int (1 : Int32), .int (1 : Int32), .int (0 : Int32), .int (0 : Int32), .ref (u2 0), .ref (u2 1), .ref (u2 2), .ref (u2 3)])), ((u2 0), .inl (cyI, 5, .inl (fun _ => 0))), ((u2 1), .inl (cyI, 5, .inl (fun _ => 0))), ((u2 2), .inl (cyI, 5, .inl (fun _ => 0))), ((u2 3), .inl (cyI, 5, .inl (fun _ => 0)))]) rfl ?_
  refine r_putF (ci := 3) (CC := RX5) (T := TX5) (N := 5) (v := .ref q1) (ws1 := [(h0, .inr (3, [.ref q1, .int 0, .int 0, .int 0, .int 0])), (q1, .inr (2, [.int (1 : Int32), .int (1 : Int32), .int (0 : Int32), .int (0 : Int32), .ref (u2 0), .ref (u2 1), .ref (u2 2), .ref (u2 3)])), ((u2 0), .inl (cyI, 5, .inl (fun _ => 0))), ((u2 1), .inl (cyI, 5, .inl (fun _ => 0))), ((u2 2), .inl (cyI, 5, .inl (fun _ => 0))), ((u2 3), .inl (cyI, 5, .inl (fun _ => 0)))]) (ty := .object "FlagWash$Plan") C hinX5_init_X5 tyX5 tyX5_ok nmX5 0 rfl rfl 0 (by decide) mX5_init_7 rfl rfl rfl rfl rfl rfl rfl (Nat.le_of_ble_eq_true rfl) rfl dX5_init_12 ?_
  refine r_aload_n C dX5_init_15 0 rfl rfl ?_
  refine r_iconst (v := 0) C dX5_init_16 ic_0 ?_
  refine r_put (ci := 3) (CC := RX5) (T := TX5) (N := 5) (v := .int (0 : Int32)) (ws1 := [(h0, .inr (3, [.ref q1, .int (0 : Int32), .int 0, .int 0, .int 0])), (q1, .inr (2, [.int (1 : Int32), .int (1 : Int32), .int (0 : Int32), .int (0 : Int32), .ref (u2 0), .ref (u2 1), .ref (u2 2), .ref (u2 3)])), ((u2 0), .inl (cyI, 5, .inl (fun _ => 0))), ((u2 1), .inl (cyI, 5, .inl (fun _ => 0))), ((u2 2), .inl (cyI, 5, .inl (fun _ => 0))), ((u2 3), .inl (cyI, 5, .inl (fun _ => 0)))]) (ty := .int) C hinX5_init_X5 tyX5 tyX5_ok nmX5 0 rfl rfl 1 (by decide) mX5_init_8 rfl rfl rfl rfl rfl (Nat.le_of_ble_eq_true rfl) rfl dX5_init_17 ?_
  refine r_aload_n C dX5_init_20 0 rfl rfl ?_
  refine r_iconst (v := 0) C dX5_init_21 ic_0 ?_
  refine r_put (ci := 3) (CC := RX5) (T := TX5) (N := 5) (v := .int (0 : Int32)) (ws1 := [(h0, .inr (3, [.ref q1, .int (0 : Int32), .int (0 : Int32), .int 0, .int 0])), (q1, .inr (2, [.int (1 : Int32), .int (1 : Int32), .int (0 : Int32), .int (0 : Int32), .ref (u2 0), .ref (u2 1), .ref (u2 2), .ref (u2 3)])), ((u2 0), .inl (cyI, 5, .inl (fun _ => 0))), ((u2 1), .inl (cyI, 5, .inl (fun _ => 0))), ((u2 2), .inl (cyI, 5, .inl (fun _ => 0))), ((u2 3), .inl (cyI, 5, .inl (fun _ => 0)))]) (ty := .int) C hinX5_init_X5 tyX5 tyX5_ok nmX5 0 rfl rfl 2 (by decide) mX5_init_9 rfl rfl rfl rfl rfl (Nat.le_of_ble_eq_true rfl) rfl dX5_init_22 ?_
  refine r_aload_n C dX5_init_25 0 rfl rfl ?_
  refine r_iconst (v := 0) C dX5_init_26 ic_0 ?_
  refine r_put (ci := 3) (CC := RX5) (T := TX5) (N := 5) (v := .int (0 : Int32)) (ws1 := [(h0, .inr (3, [.ref q1, .int (0 : Int32), .int (0 : Int32), .int (0 : Int32), .int 0])), (q1, .inr (2, [.int (1 : Int32), .int (1 : Int32), .int (0 : Int32), .int (0 : Int32), .ref (u2 0), .ref (u2 1), .ref (u2 2), .ref (u2 3)])), ((u2 0), .inl (cyI, 5, .inl (fun _ => 0))), ((u2 1), .inl (cyI, 5, .inl (fun _ => 0))), ((u2 2), .inl (cyI, 5, .inl (fun _ => 0))), ((u2 3), .inl (cyI, 5, .inl (fun _ => 0)))]) (ty := .int) C hinX5_init_X5 tyX5 tyX5_ok nmX5 0 rfl rfl 3 (by decide) mX5_init_10 rfl rfl rfl rfl rfl (Nat.le_of_ble_eq_true rfl) rfl dX5_init_27 ?_
  refine r_aload_n C dX5_init_30 0 rfl rfl ?_
  refine r_iconst (v := 0) C dX5_init_31 ic_0 ?_
  refine r_put (ci := 3) (CC := RX5) (T := TX5) (N := 5) (v := .int (0 : Int32)) (ws1 := [(h0, .inr (3, [.ref q1, .int (0 : Int32), .int (0 : Int32), .int (0 : Int32), .int (0 : Int32)])), (q1, .inr (2, [.int (1 : Int32), .int (1 : Int32), .int (0 : Int32), .int (0 : Int32), .ref (u2 0), .ref (u2 1), .ref (u2 2), .ref (u2 3)])), ((u2 0), .inl (cyI, 5, .inl (fun _ => 0))), ((u2 1), .inl (cyI, 5, .inl (fun _ => 0))), ((u2 2), .inl (cyI, 5, .inl (fun _ => 0))), ((u2 3), .inl (cyI, 5, .inl (fun _ => 0)))]) (ty := .int) C hinX5_init_X5 tyX5 tyX5_ok nmX5 0 rfl rfl 4 (by decide) mX5_init_11 rfl rfl rfl rfl rfl (Nat.le_of_ble_eq_true rfl) rfl dX5_init_32 ?_
  exact r_cret C (fun k => [q1, (u2 0), (u2 1), (u2 2), (u2 3)].getD k 0) rfl rfl dX5_init_35
