theorem lw_arr {ty : FieldType} {args : Array Value} {s : State} (h : (Cond.arrayClass ty).before args s = true) : ∃ cA : ClassId, ArrOfT s cA ty ∧ s.vm.findClass ("[" ++ ty.toString) = some cA := by
  obtain ⟨c, k, comp, h1, h2, h3⟩ := Cond.arrayClass_spec (show (Cond.arrayClass ty).holds args s none s [] = true from h)
  exact ⟨c, fun n z => ⟨(fun k h => by cases h), k, h2, comp, h3⟩, h1⟩

theorem lw_arrW {args : Array Value} {s : State} (h : (Cond.arrayOver (.object "FlagWash$Wash")).before args s = true) : ∃ cA : ClassId, ArrOfT s cA (.object "FlagWash$Wash") ∧ va_RA s cA (.object "FlagWash$Wash") := by
  obtain ⟨comp, c, k, h1, -, h2, h3, h4⟩ := Cond.arrayOver_spec (show (Cond.arrayOver (.object "FlagWash$Wash")).holds args s none s [] = true from h)
  exact ⟨c, fun n z => ⟨(fun k h => by cases h), k, h2, comp, h3⟩, k, comp, h2, h3, h1, h4⟩

def lw_A (s : State) : Nat → Prop := fun q => s.heap.size ≤ q

set_option maxRecDepth 100000 in
set_option maxHeartbeats 4000000 in
theorem lw_know {s : State} {b : Nat} (hts : ∀ w ∈ lw_tbl, w.before #[Value.ref b] s = true) : ∃ (D : va_G) (cyI cyZ cyW : ClassId), va_K D vwCl (tyA cyI cyZ cyW) s := by
  obtain ⟨c0, iS0, hKn0⟩ := u_known (C := RX0) (T := TX0) (N := 3) (n := 3) hts inc_wsX00 (hts _ (List.mem_of_getElem? (i := 177) rfl : Cond.instantiable RX0 3 ∈ lw_tbl))
  obtain ⟨c1, iS1, hKn1⟩ := u_known (C := RX2) (T := TX2) (N := 1) (n := 1) hts inc_wsX20 (hts _ (List.mem_of_getElem? (i := 167) rfl : Cond.instantiable RX2 1 ∈ lw_tbl))
  obtain ⟨c2, iS2, hKn2⟩ := u_known (C := RX4) (T := TX4) (N := 8) (n := 8) hts inc_wsX40 (hts _ (List.mem_of_getElem? (i := 66) rfl : Cond.instantiable RX4 8 ∈ lw_tbl))
  obtain ⟨c3, iS3, hKn3⟩ := u_known (C := RX5) (T := TX5) (N := 5) (n := 5) hts inc_wsX50 (hts _ (List.mem_of_getElem? (i := 60) rfl : Cond.instantiable RX5 5 ∈ lw_tbl))
  obtain ⟨c4, iS4, hKn4⟩ := u_known (C := RX7) (T := TX7) (N := 4) (n := 4) hts inc_wsX70 (hts _ (List.mem_of_getElem? (i := 197) rfl : Cond.instantiable RX7 4 ∈ lw_tbl))
  obtain ⟨c5, iS5, hKn5⟩ := u_known (C := RX8) (T := TX8) (N := 6) (n := 6) hts inc_wsX80 (hts _ (List.mem_of_getElem? (i := 135) rfl : Cond.instantiable RX8 6 ∈ lw_tbl))
  obtain ⟨c6, iS6, hKn6⟩ := u_known (C := RX9) (T := TX9) (N := 12) (n := 12) hts inc_wsX90 (hts _ (List.mem_of_getElem? (i := 52) rfl : Cond.instantiable RX9 12 ∈ lw_tbl))
  obtain ⟨c7, iS7, hKn7⟩ := u_known (C := RX10) (T := TX10) (N := 24) (n := 24) hts inc_wsX100 (hts _ (List.mem_of_getElem? (i := 656) rfl : Cond.instantiable RX10 24 ∈ lw_tbl))
  obtain ⟨cI, aI, nI_⟩ := lw_arr (hts _ (List.mem_of_getElem? (i := 114) rfl : Cond.arrayClass .int ∈ lw_tbl))
  obtain ⟨cZ, aZ, nZ_⟩ := lw_arr (hts _ (List.mem_of_getElem? (i := 253) rfl : Cond.arrayClass .boolean ∈ lw_tbl))
  obtain ⟨cW, aW, rW⟩ := lw_arrW (hts _ (List.mem_of_getElem? (i := 183) rfl : Cond.arrayOver (.object "FlagWash$Wash") ∈ lw_tbl))
  refine ⟨(fun k => [c0, c1, c2, c3, c4, c5, c6, c7].getD k c0, fun k => [iS0, iS1, iS2, iS3, iS4, iS5, iS6, iS7].getD k iS0), cI, cZ, cW, ?_, ?_⟩
  · intro k q hq
    match k, hq with
    | 0, hq => cases hq; exact hKn0
    | 1, hq => cases hq; exact hKn1
    | 2, hq => cases hq; exact hKn2
    | 3, hq => cases hq; exact hKn3
    | 4, hq => cases hq; exact hKn4
    | 5, hq => cases hq; exact hKn5
    | 6, hq => cases hq; exact hKn6
    | 7, hq => cases hq; exact hKn7
    | k + 8, hq => simp [vwCl] at hq
  · intro k q hq
    match k, hq with
    | 0, hq => cases hq; exact ⟨aI, nI_⟩
    | 1, hq => cases hq; exact ⟨aZ, nZ_⟩
    | 2, hq => cases hq; exact ⟨aW, rW⟩
    | k + 3, hq => simp [tyA] at hq

set_option maxRecDepth 100000 in
set_option maxHeartbeats 4000000 in
theorem lw_stat {s : State} {b : Nat} (hts : ∀ w ∈ lw_tbl, w.before #[Value.ref b] s = true) (hgv : (Jvm.Cond.and given_1 narrow_1).before #[Value.ref b] s = true) : ∃ zW zO : Nat, ZF zW zO (lw_A s) s s.heap := by
  have hf := flat_of_before _ hgv
  have hA : ∀ a : Nat, a < s.heap.size → ¬ lw_A s a := fun a h h2 => absurd h (Nat.not_lt.mpr h2)
  obtain ⟨zW, eW, tW⟩ := va_Tof (tm := (Term.static "FlagWash$Wash" "WET" "[I")) (ty := .int) (N := 4) (f := fun j => .int (wetT j)) (A := lw_A s) (by decide) (hf (Cond.arrayOf (Term.static "FlagWash$Wash" "WET" "[I") .int) (by decide +kernel)) (va_eqt (z := 4) (hf (Cond.eq (.length (Term.static "FlagWash$Wash" "WET" "[I")) (.int 4)) (by decide +kernel))) (fun j hj => by
    rcases (show j = 0 ∨ j = 1 ∨ j = 2 ∨ j = 3 by omega) with rfl | rfl | rfl | rfl
    · exact va_eqt (z := 4) (hf (Cond.eq (.elem (Term.static "FlagWash$Wash" "WET" "[I") (.int 0)) (.int 4)) (by decide +kernel))
    · exact va_eqt (z := 6) (hf (Cond.eq (.elem (Term.static "FlagWash$Wash" "WET" "[I") (.int 1)) (.int 6)) (by decide +kernel))
    · exact va_eqt (z := 2) (hf (Cond.eq (.elem (Term.static "FlagWash$Wash" "WET" "[I") (.int 2)) (.int 2)) (by decide +kernel))
    · exact va_eqt (z := 4) (hf (Cond.eq (.elem (Term.static "FlagWash$Wash" "WET" "[I") (.int 3)) (.int 4)) (by decide +kernel))) hA
  have qW := va_Zof (hts _ (List.mem_of_getElem? (i := 429) rfl : Cond.laysStatic "FlagWash$Wash" "WET" "[I" ∈ lw_tbl)) (hts _ (List.mem_of_getElem? (i := 41) rfl : Cond.initialized "FlagWash$Wash" ∈ lw_tbl)) eW hA
  obtain ⟨zO, eO, tO⟩ := va_Tof (tm := (Term.static "FlagWash$Shares" "ORDERS" "[I")) (ty := .int) (N := 6) (f := fun j => .int (ordT j)) (A := lw_A s) (by decide) (hf (Cond.arrayOf (Term.static "FlagWash$Shares" "ORDERS" "[I") .int) (by decide +kernel)) (va_eqt (z := 6) (hf (Cond.eq (.length (Term.static "FlagWash$Shares" "ORDERS" "[I")) (.int 6)) (by decide +kernel))) (fun j hj => by
    rcases (show j = 0 ∨ j = 1 ∨ j = 2 ∨ j = 3 ∨ j = 4 ∨ j = 5 by omega) with rfl | rfl | rfl | rfl | rfl | rfl
    · exact va_eqt (z := 1) (hf (Cond.eq (.elem (Term.static "FlagWash$Shares" "ORDERS" "[I") (.int 0)) (.int 1)) (by decide +kernel))
    · exact va_eqt (z := 1) (hf (Cond.eq (.elem (Term.static "FlagWash$Shares" "ORDERS" "[I") (.int 1)) (.int 1)) (by decide +kernel))
    · exact va_eqt (z := 2) (hf (Cond.eq (.elem (Term.static "FlagWash$Shares" "ORDERS" "[I") (.int 2)) (.int 2)) (by decide +kernel))
    · exact va_eqt (z := 6) (hf (Cond.eq (.elem (Term.static "FlagWash$Shares" "ORDERS" "[I") (.int 3)) (.int 6)) (by decide +kernel))
    · exact va_eqt (z := 24) (hf (Cond.eq (.elem (Term.static "FlagWash$Shares" "ORDERS" "[I") (.int 4)) (.int 24)) (by decide +kernel))
    · exact va_eqt (z := 120) (hf (Cond.eq (.elem (Term.static "FlagWash$Shares" "ORDERS" "[I") (.int 5)) (.int 120)) (by decide +kernel))) hA
  have qO := va_Zof (hts _ (List.mem_of_getElem? (i := 578) rfl : Cond.laysStatic "FlagWash$Shares" "ORDERS" "[I" ∈ lw_tbl)) (hts _ (List.mem_of_getElem? (i := 48) rfl : Cond.initialized "FlagWash$Shares" ∈ lw_tbl)) eO hA
  exact ⟨zW, zO, qW, tW, qO, tO⟩

set_option maxRecDepth 100000 in
set_option maxHeartbeats 4000000 in
theorem lw_nest {s : State} {b : Nat} (hts : ∀ w ∈ lw_tbl, w.before #[Value.ref b] s = true) : NF s := by
  refine ⟨fun w hw => ?_, va_AO.of (hts _ (List.mem_of_getElem? (i := 183) rfl : Cond.arrayOver (.object "FlagWash$Wash") ∈ lw_tbl))⟩
  have hw2 : w = (RX9, 19, yX5_init, RX9) ∨ w = (RX9, 26, yX4_init, RX9) ∨ w = (RX9, 61, yX7_init, RX9) ∨ w = (RX2, 45, yX9_isWithin, RX9) ∨ w = (RX2, 58, yX9_isFewer, RX9) ∨ w = (RX5, 11, yX4_init, RX9) ∨ w = (RX5, 67, yX9_areColours, RX9) ∨ w = (RX6, 21, yX9_isWithin, RX9) ∨ w = (RX7, 41, yX9_isWithin, RX9) := by simpa [nestL] using hw
  rcases hw2 with rfl | rfl | rfl | rfl | rfl | rfl | rfl | rfl | rfl
  · exact va_Nw.of rfl (hts _ (List.mem_of_getElem? (i := 61) rfl : Cond.methodLinkNest RX9 19 yX5_init RX9 ∈ lw_tbl))
  · exact va_Nw.of rfl (hts _ (List.mem_of_getElem? (i := 133) rfl : Cond.methodLinkNest RX9 26 yX4_init RX9 ∈ lw_tbl))
  · exact va_Nw.of rfl (hts _ (List.mem_of_getElem? (i := 198) rfl : Cond.methodLinkNest RX9 61 yX7_init RX9 ∈ lw_tbl))
  · exact va_Nw.of rfl (hts _ (List.mem_of_getElem? (i := 475) rfl : Cond.methodLinkNest RX2 45 yX9_isWithin RX9 ∈ lw_tbl))
  · exact va_Nw.of rfl (hts _ (List.mem_of_getElem? (i := 480) rfl : Cond.methodLinkNest RX2 58 yX9_isFewer RX9 ∈ lw_tbl))
  · exact va_Nw.of rfl (hts _ (List.mem_of_getElem? (i := 67) rfl : Cond.methodLinkNest RX5 11 yX4_init RX9 ∈ lw_tbl))
  · exact va_Nw.of rfl (hts _ (List.mem_of_getElem? (i := 302) rfl : Cond.methodLinkNest RX5 67 yX9_areColours RX9 ∈ lw_tbl))
  · exact va_Nw.of rfl (hts _ (List.mem_of_getElem? (i := 569) rfl : Cond.methodLinkNest RX6 21 yX9_isWithin RX9 ∈ lw_tbl))
  · exact va_Nw.of rfl (hts _ (List.mem_of_getElem? (i := 551) rfl : Cond.methodLinkNest RX7 41 yX9_isWithin RX9 ∈ lw_tbl))
/-- what holds at the law's entry: the machine, the code, the tables' words (any of lw_tbl by 'hts w (by decide +kernel)'), the script of L ints xs at the cell b, what the Statement gives of the start (any of its parts by flat_of_before) -/
def lw_At (p : Program) (s : State) (m : MethodId) (meth : Method) (c : Code) (b L : Nat) (xs : Nat → Int32) : Prop :=
  p.tables.exec = Jvm.exec ∧ c.code = code ∧ meth.sig.returnType = ret ∧ c.maxLocals = 4 ∧ s.vm.findClass R_law = some m.cls ∧ (∀ w ∈ lw_tbl, w.before #[Value.ref b] s = true) ∧ va_X b L xs s s.heap ∧ b < s.heap.size ∧ meth.locks = false ∧ (Jvm.Cond.and given_1 narrow_1).before #[Value.ref b] s = true
set_option maxRecDepth 100000 in
theorem mlw_0 : Cond.classLink RL 7 RX9 ∈ wsL_law := List.mem_of_getElem? (i := 0) rfl
set_option maxRecDepth 100000 in
theorem mlw_1 : Cond.instantiable RX9 12 ∈ wsL_law := List.mem_of_getElem? (i := 1) rfl
set_option maxRecDepth 100000 in
theorem mlw_2 : Cond.initialized RX9 ∈ wsL_law := List.mem_of_getElem? (i := 2) rfl
set_option maxRecDepth 100000 in
theorem mlw_3 : Cond.classLink RL 10 RX10 ∈ wsL_law := List.mem_of_getElem? (i := 3) rfl
set_option maxRecDepth 100000 in
theorem mlw_4 : Cond.instantiable RX10 24 ∈ wsL_law := List.mem_of_getElem? (i := 4) rfl
set_option maxRecDepth 100000 in
theorem mlw_5 : Cond.initialized RX10 ∈ wsL_law := List.mem_of_getElem? (i := 5) rfl
set_option maxRecDepth 100000 in
theorem mlw_7 : Cond.methodLink RL 9 yX9_init ∈ wsL_law := List.mem_of_getElem? (i := 7) rfl
set_option maxRecDepth 100000 in
theorem mlw_8 : Cond.instanceMethod yX9_init ∈ wsL_law := List.mem_of_getElem? (i := 8) rfl
set_option maxRecDepth 100000 in
theorem mlw_96 : Cond.methodLink RL 12 yX10_init ∈ wsL_law := List.mem_of_getElem? (i := 96) rfl
set_option maxRecDepth 100000 in
theorem mlw_97 : Cond.instanceMethod yX10_init ∈ wsL_law := List.mem_of_getElem? (i := 97) rfl
theorem inL_X9 : ∀ w ∈ u_ws RX9 TX9 12, w ∈ wsL_law := fun w h => List.mem_append_left _ (List.mem_append_left _ (List.mem_append_left _ (List.mem_append_left _ (List.mem_append_left _ (List.mem_append_left _ (List.mem_append_left _ (List.mem_append_left _ (List.mem_append_right _ h))))))))
theorem inL_X10 : ∀ w ∈ u_ws RX10 TX10 24, w ∈ wsL_law := fun w h => List.mem_append_left _ (List.mem_append_left _ (List.mem_append_left _ (List.mem_append_left _ (List.mem_append_left _ (List.mem_append_left _ (List.mem_append_left _ (List.mem_append_right _ h)))))))
set_option maxRecDepth 100000 in
set_option maxHeartbeats 4000000 in
/-- from the entry to the loop -/
theorem whole_open {p : Program} {e : Env} {s : State} {m : MethodId} {below : List Frame} {meth : Method} {c : Code} (l : Launch) {b L : Nat} {xs : Nat → Int32} (hpure : fL_law_18 L xs FU (0 : Int32) ((fun _ => 0) : (Nat → Int32)) (0 : Int32) (0 : Int32) (0 : Int32) (0 : Int32) (1 : Int32) (1 : Int32) (0 : Int32) ((fun _ => 0) : (Nat → Int32)) ((fun _ => 0) : (Nat → Int32)) ((fun _ => 0) : (Nat → Int32)) ((fun _ => 0) : (Nat → Int32)) (1 : Int32) (1 : Int32) (0 : Int32) (0 : Int32) ((fun _ => 0) : (Nat → Int32)) ((fun _ => 0) : (Nat → Int32)) ((fun _ => 0) : (Nat → Int32)) ((fun _ => 0) : (Nat → Int32)) ((fun _ => 0) : (Nat → Int32)) ((fun _ => 0) : (Nat → Int32)) ((fun _ => 0) : (Nat → Int32)) (0 : Int32) (0 : Int32) ((fun _ => 0) : (Nat → Int32)) ((fun _ => 0) : (Nat → Int32)) ((fun _ => 0) : (Nat → Int32)) (0 : Int32) (0 : Int32) (0 : Int32) (0 : Int32) ((fun _ _ => 0) : (Nat → Nat → Int32)) ((fun _ _ => 0) : (Nat → Nat → Int32)) ((fun _ _ => 0) : (Nat → Nat → Int32)) ((fun _ => 0) : (Nat → Int32)) ((fun _ => 0) : (Nat → Int32)) ((fun _ => 0) : (Nat → Int32)) ((fun _ => 0) : (Nat → Int32)) ((fun _ => 0) : (Nat → Int32)) (0 : Int32) ((fun _ _ => 0) : (Nat → Nat → Int32)) ((fun _ _ => 0) : (Nat → Nat → Int32)) ((fun _ _ => 0) : (Nat → Nat → Int32)) ((fun _ => 0) : (Nat → Int32)) ((fun _ => 0) : (Nat → Int32)) ((fun _ => 0) : (Nat → Int32)) (0 : Int64) (0 : Int32) (1 : Int32) (1 : Int32) ((fun _ => 0) : (Nat → Int32)) ((fun _ => 0) : (Nat → Int32)) ((fun _ => 0) : (Nat → Int32)) ((fun _ => 0) : (Nat → Int32)) ((fun _ => 0) : (Nat → Int32)) ((fun _ => 0) : (Nat → Int32)) ((fun _ => 0) : (Nat → Int32)) (0 : Int32) (0 : Int32) (0 : Int32) ((fun _ => 0) : (Nat → Int32)) (0 : Int32) ((fun _ => 0) : (Nat → Int32)) ((fun _ => 0) : (Nat → Int32)) ((fun _ => 0) : (Nat → Int32)) (0 : Int64) ((fun _ => 0) : (Nat → Int32)) ((fun _ => 0) : (Nat → Int32)) = some true) (C0 : lw_At p s m meth c b L xs) : W p l e room_1 s m #[Value.ref b] below meth c s.heap [] 0 0 (lw_Z below #[Value.ref b] s) (entryFrame m ([Value.ref b] : List Value).toArray 4) := by
  obtain ⟨hx, hb, hr, hml, hown, hts, hX, hbl, hlocks, hgv⟩ := id C0
  obtain ⟨D, cyI, cyZ, cyW, hK⟩ := lw_know hts
  obtain ⟨zW, zO, hZ⟩ := lw_stat hts hgv
  have hN := lw_nest hts
  have hA : ∀ q : Nat, s.heap.size ≤ q → lw_A s q := fun _ h => h
  have hAq : ∀ q : Nat, lw_A s q → s.heap.size ≤ q := fun _ h => h
  have hbA : ¬ lw_A s b := Nat.not_le.mpr hbl
  have C : Cx p s m #[Value.ref b] meth c cL_law RL meth.name wsL_law ret 4 D (tyA cyI cyZ cyW) zW zO (lw_A s) := ⟨hx, hb, hr, hml, hown, fun w h => hts w (wsL_law_in w h), hlocks, hA, hK, hZ, hN, rfl⟩
  have hl := lv_entry ([.ref b]) (n := 4) (Nat.le_of_ble_eq_true rfl)
  rw [lg_entry_eq]
  generalize (lg_sl ([.ref b]) ++ List.replicate (4 - (lg_sl ([.ref b])).length) Slot.unset).toArray = ls at hl ⊢
  have hl : lv_has ls 4 [(0, .ref b)] := hl
  have hP : va_P D vwCl [] s.heap := fun k q h => by simp at h
  have hD : va_D (lw_A s) [] := ⟨fun i j p q h => by simp at h, fun k q h => by simp at h⟩
  have key : Mx p l e room_1 s m #[Value.ref b] below meth c (lw_Z below #[Value.ref b] s) 4 D (lw_A s) 0 0 [] 0 [(0, .ref b)] [] := by
    refine r_new (ci := 6) (fs := [.null, .int 0, .null, .null, .null, .null, .null, .null, .null, .null, .null, .long 0]) (CC := RX9) (T := TX9) (N := 12) C inL_X9 tyX9 tyX9_ok mlw_0 mlw_1 mlw_2 rfl dfX9 (by decide) (by decide) dL_law_0 (fun q1 => ?_)
    refine r_eqw (ws1 := [(q1, .inr (6, [.null, .int 0, .null, .null, .null, .null, .null, .null, .null, .null, .null, .long 0]))]) rfl ?_
    refine r_dup C dL_law_3 rfl ?_
    refine r_callIC (As := []) (rest := [.ref q1]) (W0 := [(q1, .inr (6, [.null, .int 0, .null, .null, .null, .null, .null, .null, .null, .null, .null, .long 0]))]) (Wr := []) (wsn := fun u => (wFW cyI cyZ cyW (adF q1 u) (fun _ => 0) 0 0 0 0 0 1 1 0 0 (fun _ => 0) (fun _ => 0) (fun _ => 0) (fun _ => 0) 1 1 0 0 (fun _ => 0) (fun _ => 0) (fun _ => 0) (fun _ => 0) (fun _ => 0) (fun _ => 0) (fun _ => 0) 0 0 (fun _ => 0) (fun _ => 0) (fun _ => 0) 0 0 0 0 (fun _ _ => 0) (fun _ _ => 0) (fun _ _ => 0) (fun _ => 0) (fun _ => 0) (fun _ => 0) (fun _ => 0) (fun _ => 0) 0 (fun _ _ => 0) (fun _ _ => 0) (fun _ _ => 0) (fun _ => 0) (fun _ => 0) (fun _ => 0) 0)) C (kcX9_init (h0 := q1)) gL_law_X9_init rfl rfl rfl mlw_2 mlw_7 mlw_8 rfl hd_X9_init ⟨by decide, by decide⟩ rfl [0] [] [0, 1, 2, 3, 4, 5, 6, 7, 8, 9, 10, 11, 12, 13, 14, 15, 16, 17, 18, 19, 20, 21, 22, 23, 24, 25, 26, 27, 28, 29, 30, 31, 32, 33, 34, 35, 36, 37, 38, 39, 40, 41, 42, 43, 44, 45, 46, 47, 48, 49, 50, 51, 52, 53, 54, 55, 56, 57, 58, 59, 60, 61, 62, 63, 64, 65, 66, 67, 68, 69, 70, 71, 72, 73, 74, 75, 76, 77, 78, 79, 80, 81, 82, 83, 84, 85, 86, 87, 88, 89, 90, 91, 92, 93] (by decide) (by decide) (by decide) (by decide) rfl rfl (fun _ => rfl) rfl (Nat.le_of_ble_eq_true rfl) dL_law_4 ⟨by decide, by decide⟩ (fun u => ?_)
    refine r_astore_n (lv' := [(1, .ref q1), (0, .ref b)]) C dL_law_7 rfl (by decide) rfl ?_
    refine r_new (ci := 7) (fs := [.int 0, .int 0, .int 0, .null, .null, .null, .null, .null, .null, .int 0, .null, .int 0, .int 0, .int 0, .int 0, .int 0, .null, .int 0, .null, .null, .null, .long 0, .null, .null]) (CC := RX10) (T := TX10) (N := 24) C inL_X10 tyX10 tyX10_ok mlw_3 mlw_4 mlw_5 rfl dfX10 (by decide) (by decide) dL_law_8 (fun q2 => ?_)
    refine r_dup C dL_law_11 rfl ?_
    refine r_callIC (As := []) (rest := [.ref q2]) (W0 := [(q2, .inr (7, [.int 0, .int 0, .int 0, .null, .null, .null, .null, .null, .null, .int 0, .null, .int 0, .int 0, .int 0, .int 0, .int 0, .null, .int 0, .null, .null, .null, .long 0, .null, .null]))]) (Wr := (wFW cyI cyZ cyW (adF q1 u) (fun _ => 0) 0 0 0 0 0 1 1 0 0 (fun _ => 0) (fun _ => 0) (fun _ => 0) (fun _ => 0) 1 1 0 0 (fun _ => 0) (fun _ => 0) (fun _ => 0) (fun _ => 0) (fun _ => 0) (fun _ => 0) (fun _ => 0) 0 0 (fun _ => 0) (fun _ => 0) (fun _ => 0) 0 0 0 0 (fun _ _ => 0) (fun _ _ => 0) (fun _ _ => 0) (fun _ => 0) (fun _ => 0) (fun _ => 0) (fun _ => 0) (fun _ => 0) 0 (fun _ _ => 0) (fun _ _ => 0) (fun _ _ => 0) (fun _ => 0) (fun _ => 0) (fun _ => 0) 0)) (wsn := fun v => (wLW cyI cyZ cyW (adF q1 u) (adF q2 v) (fun _ => 0) 0 0 0 0 0 1 1 0 0 (fun _ => 0) (fun _ => 0) (fun _ => 0) (fun _ => 0) 1 1 0 0 (fun _ => 0) (fun _ => 0) (fun _ => 0) (fun _ => 0) (fun _ => 0) (fun _ => 0) (fun _ => 0) 0 0 (fun _ => 0) (fun _ => 0) (fun _ => 0) 0 0 0 0 (fun _ _ => 0) (fun _ _ => 0) (fun _ _ => 0) (fun _ => 0) (fun _ => 0) (fun _ => 0) (fun _ => 0) (fun _ => 0) 0 (fun _ _ => 0) (fun _ _ => 0) (fun _ _ => 0) (fun _ => 0) (fun _ => 0) (fun _ => 0) 0 0 1 1 (fun _ => 0) (fun _ => 0) (fun _ => 0) (fun _ => 0) (fun _ => 0) (fun _ => 0) 0 (fun _ => 0) 0 0 0 0 0 (fun _ => 0) 0 (fun _ => 0) (fun _ => 0) (fun _ => 0) 0 (fun _ => 0) (fun _ => 0))) C (kcX10_init (h0 := q2)) gL_law_X10_init rfl rfl rfl mlw_5 mlw_96 mlw_97 rfl hd_X10_init ⟨by decide, by decide⟩ rfl [94] [0, 1, 2, 3, 4, 5, 6, 7, 8, 9, 10, 11, 12, 13, 14, 15, 16, 17, 18, 19, 20, 21, 22, 23, 24, 25, 26, 27, 28, 29, 30, 31, 32, 33, 34, 35, 36, 37, 38, 39, 40, 41, 42, 43, 44, 45, 46, 47, 48, 49, 50, 51, 52, 53, 54, 55, 56, 57, 58, 59, 60, 61, 62, 63, 64, 65, 66, 67, 68, 69, 70, 71, 72, 73, 74, 75, 76, 77, 78, 79, 80, 81, 82, 83, 84, 85, 86, 87, 88, 89, 90, 91, 92, 93] [0, 1, 2, 3, 4, 5, 6, 7, 8, 9, 10, 11, 12, 13, 14, 15, 16, 17, 18, 19, 20, 21, 22, 23, 24, 25, 26, 27, 28, 29, 30, 31, 32, 33, 34, 35, 36, 37, 38, 39, 40, 41, 42, 43, 44, 45, 46, 47, 48, 49, 50, 51, 52, 53, 54, 55, 56, 57, 58, 59, 60, 61, 62, 63, 64, 65, 66, 67, 68, 69, 70, 71, 72, 73, 74, 75, 76, 77, 78, 79, 80, 81, 82, 83, 84, 85, 86, 87, 88, 89, 90, 91, 92, 93, 94, 95, 96, 97, 98, 99, 100, 101, 102, 103, 104, 105, 106, 107] (by decide) (by decide) (by decide) (by decide) rfl rfl (fun _ => rfl) rfl (Nat.le_of_ble_eq_true rfl) dL_law_12 ⟨by decide, by decide⟩ (fun v => ?_)
    refine r_astore_n (lv' := [(2, .ref q2), (1, .ref q1), (0, .ref b)]) C dL_law_15 rfl (by decide) rfl ?_
    refine r_iconst (v := 0) C dL_law_16 ic_0 ?_
    refine r_istore_n (lv' := [(3, .int (0 : Int32)), (2, .ref q2), (1, .ref q1), (0, .ref b)]) C dL_law_17 rfl (by decide) rfl ?_
    refine r_lv (lv' := [(0, .ref b), (1, .ref q1), (2, .ref q2), (3, .int (0 : Int32))]) [3, 2, 1, 0] rfl ?_
    exact LL_law_18 (ad := adF q1 u) (md := adF q2 v) C hX hbl hbA hAq  FU (0 : Int32) ((fun _ => 0) : (Nat → Int32)) (0 : Int32) (0 : Int32) (0 : Int32) (0 : Int32) (0 : Int32) (1 : Int32) (1 : Int32) (0 : Int32) (0 : Int32) ((fun _ => 0) : (Nat → Int32)) ((fun _ => 0) : (Nat → Int32)) ((fun _ => 0) : (Nat → Int32)) ((fun _ => 0) : (Nat → Int32)) (1 : Int32) (1 : Int32) (0 : Int32) (0 : Int32) ((fun _ => 0) : (Nat → Int32)) ((fun _ => 0) : (Nat → Int32)) ((fun _ => 0) : (Nat → Int32)) ((fun _ => 0) : (Nat → Int32)) ((fun _ => 0) : (Nat → Int32)) ((fun _ => 0) : (Nat → Int32)) ((fun _ => 0) : (Nat → Int32)) (0 : Int32) (0 : Int32) ((fun _ => 0) : (Nat → Int32)) ((fun _ => 0) : (Nat → Int32)) ((fun _ => 0) : (Nat → Int32)) (0 : Int32) (0 : Int32) (0 : Int32) (0 : Int32) ((fun _ _ => 0) : (Nat → Nat → Int32)) ((fun _ _ => 0) : (Nat → Nat → Int32)) ((fun _ _ => 0) : (Nat → Nat → Int32)) ((fun _ => 0) : (Nat → Int32)) ((fun _ => 0) : (Nat → Int32)) ((fun _ => 0) : (Nat → Int32)) ((fun _ => 0) : (Nat → Int32)) ((fun _ => 0) : (Nat → Int32)) (0 : Int32) ((fun _ _ => 0) : (Nat → Nat → Int32)) ((fun _ _ => 0) : (Nat → Nat → Int32)) ((fun _ _ => 0) : (Nat → Nat → Int32)) ((fun _ => 0) : (Nat → Int32)) ((fun _ => 0) : (Nat → Int32)) ((fun _ => 0) : (Nat → Int32)) (0 : Int64) (0 : Int32) (1 : Int32) (1 : Int32) ((fun _ => 0) : (Nat → Int32)) ((fun _ => 0) : (Nat → Int32)) ((fun _ => 0) : (Nat → Int32)) ((fun _ => 0) : (Nat → Int32)) ((fun _ => 0) : (Nat → Int32)) ((fun _ => 0) : (Nat → Int32)) (0 : Int32) ((fun _ => 0) : (Nat → Int32)) (0 : Int32) (0 : Int32) (0 : Int32) (0 : Int32) (0 : Int32) ((fun _ => 0) : (Nat → Int32)) (0 : Int32) ((fun _ => 0) : (Nat → Int32)) ((fun _ => 0) : (Nat → Int32)) ((fun _ => 0) : (Nat → Int32)) (0 : Int64) ((fun _ => 0) : (Nat → Int32)) ((fun _ => 0) : (Nat → Int32)) hpure
  exact key s.heap [] ls hP hD va_S.rf hl
