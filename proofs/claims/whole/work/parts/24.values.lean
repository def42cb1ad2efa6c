theorem ndX4_notANumber : yX4_notANumber.cls ≠ "java/lang/invoke/MethodHandle" ∧ yX4_notANumber.cls ≠ "java/lang/invoke/VarHandle" ∧ (parseMethodDescriptor yX4_notANumber.desc).map (fun d => d.parameters.length) = some 0 := by decide +kernel
def fm_X4_notANumber  : fw_V := (fm_X4_init_0 true false 0 0 0, fm_X4_init_1 true false 0 0 0, fm_X4_init_2 true false 0 0 0, fm_X4_init_3 true false 0 0 0, fm_X4_init_4 true false 0 0 0)
set_option maxHeartbeats 4000000 in
set_option maxRecDepth 100000 in
theorem k_X4_notANumber (l : Launch) (dC : Nat → ClassId) (dI : Nat → Nat → Nat) (sz : Nat)  : Met l yX4_notANumber wsX4_notANumber { frames := 2, cells := 1, slots := 5, locals := 40 } (fw_RZ (dC, dI) vwCl [] sz []) (fw_G (dC, dI) vwCl 1 (fw_vl (fm_X4_notANumber))) 1 5 (fun q => sz ≤ q) := by
  refine Met.ofW (cc := cX4_notANumber) (maxL := 0) (ret := (some (.object "FloatCircuits$Value"))) (by decide) rfl ?_
  intro p e s m args below meth c s₁ B hml hv
  obtain ⟨rfl, hsz, hP0, hK⟩ := hv
  subst hsz
  have hx := B.exec
  have hb := B.bytes
  have hr := B.returns
  have hts := atoms_spec (ws := wsX4_notANumber) B.pre
  have htf : ∀ w ∈ fc_all, w.before _ s = true := fun w h => hts w (List.mem_cons_of_mem _ h)
  have hown : s.vm.findClass RX4 = some m.cls := findClass_of_methodNamed B.named
  have hlocks := B.notSynchronized
  have hP0 : va_P (dC, dI) vwCl [] s.heap := hP0
  have hP := hP0
  have hS : va_S (fun q => s.heap.size ≤ q) s.heap s.heap [] := va_S.rf
  have hA : ∀ q : Nat, s.heap.size ≤ q → (fun q : Nat => s.heap.size ≤ q) q := fun _ h => h
  have hl := lv_entry ([]) (n := 0) (Nat.le_of_ble_eq_true rfl)
  rw [lg_entry_eq]
  generalize (lg_sl ([]) ++ List.replicate (0 - (lg_sl ([])).length) Slot.unset).toArray = ls at hl ⊢
  have hl : lv_has ls 0 [] := hl
  refine va_new (ci := 1) (fs := [.int 0, .int 0, .long 0, .long 0, .long 0]) (C := RX4) (T := TX4) (N := 5) hx hb htf hiX4 tyX4 tyX4_ok hown (htf _ wk128) (htf _ wk129) (htf _ wk9) hK fw_nilP fw_nilD hS hA rfl (fun j hj => by rcases (show j = 0 ∨ j = 1 ∨ j = 2 ∨ j = 3 ∨ j = 4 by omega) with rfl | rfl | rfl | rfl | rfl <;> rfl) (Nat.le_of_ble_eq_true rfl) (Nat.le_of_ble_eq_true rfl) dX4_notANumber_0 (fun q1 H hn hDn hS => ?_)
  have hP : va_P (dC, dI) vwCl [(q1, .inr (1, [.int 0, .int 0, .long 0, .long 0, .long 0]))] H := (fw_old hP0 hS).app hn
  have hqA : s.heap.size ≤ q1 := hDn.2 0 _ rfl
  refine lv_dup hx hb dX4_notANumber_3 rfl ?_
  refine lv_iconst (v := 1) hx hb dX4_notANumber_4 (by decide) ?_
  refine lv_iconst (v := 0) hx hb dX4_notANumber_5 (by decide) ?_
  refine lv_lconst (v := 0) hx hb dX4_notANumber_6 (by decide) ?_
  refine lv_lconst (v := 0) hx hb dX4_notANumber_7 (by decide) ?_
  refine lv_lconst (v := 0) hx hb dX4_notANumber_8 (by decide) ?_
  refine fw_callM (va_runI (As := [.int (jb true), .int (jb false), .long 0, .long 0, .long 0]) (rest := [.ref q1]) ⟨hx, hb, hml, hown, htf⟩ (k_X4_init l dC dI q1 true false 0 0 0) (cwI 5 htf (gd_I wk132) rfl rfl rfl (htf _ wk9) (htf _ wk130) (htf _ wk131) rfl ndX4_init ⟨Nat.le_of_ble_eq_true rfl, Nat.le_of_ble_eq_true rfl⟩) (fw_RS (hP.sub (ws' := [(q1, .inr (1, [.int 0, .int 0, .long 0, .long 0, .long 0]))]) [0] rfl) hK) rfl rfl hl.1 rfl (lv_room (Nat.le_of_ble_eq_true rfl)) dX4_notANumber_9 ⟨Nat.le_of_ble_eq_true rfl, Nat.le_of_ble_eq_true rfl⟩) hS hqA (fun H locs hn _ _ hS => ?_)
  have hP : va_P (dC, dI) vwCl [(q1, .inr (1, [.int (jb (fm_X4_init_0 true false 0 0 0)), .int (jb (fm_X4_init_1 true false 0 0 0)), .long (fm_X4_init_2 true false 0 0 0), .long (fm_X4_init_3 true false 0 0 0), .long (fm_X4_init_4 true false 0 0 0)]))] H := (fw_old hP0 hS).app hn
  refine W.widen (k := 1) (n := 5) (Nat.le_of_ble_eq_true rfl) (Nat.le_of_ble_eq_true rfl) ?_
  exact W.aret (v := .ref q1) hx hb hr (Or.inl ⟨_, rfl⟩) (Or.inr ⟨_, rfl⟩) (fun t ht hW => ⟨q1, rfl, by rw [ht, show fm_X4_notANumber = (fm_X4_init_0 true false 0 0 0, fm_X4_init_1 true false 0 0 0, fm_X4_init_2 true false 0 0 0, fm_X4_init_3 true false 0 0 0, fm_X4_init_4 true false 0 0 0) from by rfl]; exact hP.sub [0] rfl, by rw [ht]; exact fw_S_pre hS⟩) hS.2.2 dX4_notANumber_12
theorem ndX4_infinity : yX4_infinity.cls ≠ "java/lang/invoke/MethodHandle" ∧ yX4_infinity.cls ≠ "java/lang/invoke/VarHandle" ∧ (parseMethodDescriptor yX4_infinity.desc).map (fun d => d.parameters.length) = some 1 := by decide +kernel
def fm_X4_infinity (p0 : Int64) : fw_V := (fm_X4_init_0 false true p0 0 0, fm_X4_init_1 false true p0 0 0, fm_X4_init_2 false true p0 0 0, fm_X4_init_3 false true p0 0 0, fm_X4_init_4 false true p0 0 0)
set_option maxHeartbeats 4000000 in
set_option maxRecDepth 100000 in
theorem k_X4_infinity (l : Launch) (dC : Nat → ClassId) (dI : Nat → Nat → Nat) (sz : Nat) (p0 : Int64) : Met l yX4_infinity wsX4_infinity { frames := 2, cells := 1, slots := 5, locals := 40 } (fw_RZ (dC, dI) vwCl [] sz [.long p0]) (fw_G (dC, dI) vwCl 1 (fw_vl (fm_X4_infinity p0))) 1 5 (fun q => sz ≤ q) := by
  refine Met.ofW (cc := cX4_infinity) (maxL := 2) (ret := (some (.object "FloatCircuits$Value"))) (by decide) rfl ?_
  intro p e s m args below meth c s₁ B hml hv
  obtain ⟨rfl, hsz, hP0, hK⟩ := hv
  subst hsz
  have hx := B.exec
  have hb := B.bytes
  have hr := B.returns
  have hts := atoms_spec (ws := wsX4_infinity) B.pre
  have htf : ∀ w ∈ fc_all, w.before _ s = true := fun w h => hts w (List.mem_cons_of_mem _ h)
  have hown : s.vm.findClass RX4 = some m.cls := findClass_of_methodNamed B.named
  have hlocks := B.notSynchronized
  have hP0 : va_P (dC, dI) vwCl [] s.heap := hP0
  have hP := hP0
  have hS : va_S (fun q => s.heap.size ≤ q) s.heap s.heap [] := va_S.rf
  have hA : ∀ q : Nat, s.heap.size ≤ q → (fun q : Nat => s.heap.size ≤ q) q := fun _ h => h
  have hl := lv_entry ([.long p0]) (n := 2) (Nat.le_of_ble_eq_true rfl)
  rw [lg_entry_eq]
  generalize (lg_sl ([.long p0]) ++ List.replicate (2 - (lg_sl ([.long p0])).length) Slot.unset).toArray = ls at hl ⊢
  have hl : lv_has ls 2 [(0, .long p0)] := hl
  refine va_new (ci := 1) (fs := [.int 0, .int 0, .long 0, .long 0, .long 0]) (C := RX4) (T := TX4) (N := 5) hx hb htf hiX4 tyX4 tyX4_ok hown (htf _ wk128) (htf _ wk129) (htf _ wk9) hK fw_nilP fw_nilD hS hA rfl (fun j hj => by rcases (show j = 0 ∨ j = 1 ∨ j = 2 ∨ j = 3 ∨ j = 4 by omega) with rfl | rfl | rfl | rfl | rfl <;> rfl) (Nat.le_of_ble_eq_true rfl) (Nat.le_of_ble_eq_true rfl) dX4_infinity_0 (fun q1 H hn hDn hS => ?_)
  have hP : va_P (dC, dI) vwCl [(q1, .inr (1, [.int 0, .int 0, .long 0, .long 0, .long 0]))] H := (fw_old hP0 hS).app hn
  have hqA : s.heap.size ≤ q1 := hDn.2 0 _ rfl
  refine lv_dup hx hb dX4_infinity_3 rfl ?_
  refine lv_iconst (v := 0) hx hb dX4_infinity_4 (by decide) ?_
  refine lv_iconst (v := 1) hx hb dX4_infinity_5 (by decide) ?_
  refine lv_lload_n hx hb dX4_infinity_6 rfl (lv_at hl 0 rfl) ?_
  refine lv_lconst (v := 0) hx hb dX4_infinity_7 (by decide) ?_
  refine lv_lconst (v := 0) hx hb dX4_infinity_8 (by decide) ?_
  refine fw_callM (va_runI (As := [.int (jb false), .int (jb true), .long p0, .long 0, .long 0]) (rest := [.ref q1]) ⟨hx, hb, hml, hown, htf⟩ (k_X4_init l dC dI q1 false true p0 0 0) (cwI 5 htf (gd_I wk132) rfl rfl rfl (htf _ wk9) (htf _ wk130) (htf _ wk131) rfl ndX4_init ⟨Nat.le_of_ble_eq_true rfl, Nat.le_of_ble_eq_true rfl⟩) (fw_RS (hP.sub (ws' := [(q1, .inr (1, [.int 0, .int 0, .long 0, .long 0, .long 0]))]) [0] rfl) hK) rfl rfl hl.1 rfl (lv_room (Nat.le_of_ble_eq_true rfl)) dX4_infinity_9 ⟨Nat.le_of_ble_eq_true rfl, Nat.le_of_ble_eq_true rfl⟩) hS hqA (fun H locs hn _ _ hS => ?_)
  have hP : va_P (dC, dI) vwCl [(q1, .inr (1, [.int (jb (fm_X4_init_0 false true p0 0 0)), .int (jb (fm_X4_init_1 false true p0 0 0)), .long (fm_X4_init_2 false true p0 0 0), .long (fm_X4_init_3 false true p0 0 0), .long (fm_X4_init_4 false true p0 0 0)]))] H := (fw_old hP0 hS).app hn
  refine W.widen (k := 1) (n := 5) (Nat.le_of_ble_eq_true rfl) (Nat.le_of_ble_eq_true rfl) ?_
  exact W.aret (v := .ref q1) hx hb hr (Or.inl ⟨_, rfl⟩) (Or.inr ⟨_, rfl⟩) (fun t ht hW => ⟨q1, rfl, by rw [ht, show fm_X4_infinity p0 = (fm_X4_init_0 false true p0 0 0, fm_X4_init_1 false true p0 0 0, fm_X4_init_2 false true p0 0 0, fm_X4_init_3 false true p0 0 0, fm_X4_init_4 false true p0 0 0) from by rfl]; exact hP.sub [0] rfl, by rw [ht]; exact fw_S_pre hS⟩) hS.2.2 dX4_infinity_12
theorem ndX4_finite : yX4_finite.cls ≠ "java/lang/invoke/MethodHandle" ∧ yX4_finite.cls ≠ "java/lang/invoke/VarHandle" ∧ (parseMethodDescriptor yX4_finite.desc).map (fun d => d.parameters.length) = some 3 := by decide +kernel
def fm_X4_finite (p0 : Int64) (p1 : Int64) (p2 : Int64) : fw_V := (fm_X4_init_0 false false p0 p1 p2, fm_X4_init_1 false false p0 p1 p2, fm_X4_init_2 false false p0 p1 p2, fm_X4_init_3 false false p0 p1 p2, fm_X4_init_4 false false p0 p1 p2)
set_option maxHeartbeats 4000000 in
set_option maxRecDepth 100000 in
theorem k_X4_finite (l : Launch) (dC : Nat → ClassId) (dI : Nat → Nat → Nat) (sz : Nat) (p0 : Int64) (p1 : Int64) (p2 : Int64) : Met l yX4_finite wsX4_finite { frames := 2, cells := 1, slots := 5, locals := 40 } (fw_RZ (dC, dI) vwCl [] sz [.long p0, .long p1, .long p2]) (fw_G (dC, dI) vwCl 1 (fw_vl (fm_X4_finite p0 p1 p2))) 1 5 (fun q => sz ≤ q) := by
  refine Met.ofW (cc := cX4_finite) (maxL := 6) (ret := (some (.object "FloatCircuits$Value"))) (by decide) rfl ?_
  intro p e s m args below meth c s₁ B hml hv
  obtain ⟨rfl, hsz, hP0, hK⟩ := hv
  subst hsz
  have hx := B.exec
  have hb := B.bytes
  have hr := B.returns
  have hts := atoms_spec (ws := wsX4_finite) B.pre
  have htf : ∀ w ∈ fc_all, w.before _ s = true := fun w h => hts w (List.mem_cons_of_mem _ h)
  have hown : s.vm.findClass RX4 = some m.cls := findClass_of_methodNamed B.named
  have hlocks := B.notSynchronized
  have hP0 : va_P (dC, dI) vwCl [] s.heap := hP0
  have hP := hP0
  have hS : va_S (fun q => s.heap.size ≤ q) s.heap s.heap [] := va_S.rf
  have hA : ∀ q : Nat, s.heap.size ≤ q → (fun q : Nat => s.heap.size ≤ q) q := fun _ h => h
  have hl := lv_entry ([.long p0, .long p1, .long p2]) (n := 6) (Nat.le_of_ble_eq_true rfl)
  rw [lg_entry_eq]
  generalize (lg_sl ([.long p0, .long p1, .long p2]) ++ List.replicate (6 - (lg_sl ([.long p0, .long p1, .long p2])).length) Slot.unset).toArray = ls at hl ⊢
  have hl : lv_has ls 6 [(0, .long p0), (2, .long p1), (4, .long p2)] := hl
  refine va_new (ci := 1) (fs := [.int 0, .int 0, .long 0, .long 0, .long 0]) (C := RX4) (T := TX4) (N := 5) hx hb htf hiX4 tyX4 tyX4_ok hown (htf _ wk128) (htf _ wk129) (htf _ wk9) hK fw_nilP fw_nilD hS hA rfl (fun j hj => by rcases (show j = 0 ∨ j = 1 ∨ j = 2 ∨ j = 3 ∨ j = 4 by omega) with rfl | rfl | rfl | rfl | rfl <;> rfl) (Nat.le_of_ble_eq_true rfl) (Nat.le_of_ble_eq_true rfl) dX4_finite_0 (fun q1 H hn hDn hS => ?_)
  have hP : va_P (dC, dI) vwCl [(q1, .inr (1, [.int 0, .int 0, .long 0, .long 0, .long 0]))] H := (fw_old hP0 hS).app hn
  have hqA : s.heap.size ≤ q1 := hDn.2 0 _ rfl
  refine lv_dup hx hb dX4_finite_3 rfl ?_
  refine lv_iconst (v := 0) hx hb dX4_finite_4 (by decide) ?_
  refine lv_iconst (v := 0) hx hb dX4_finite_5 (by decide) ?_
  refine lv_lload_n hx hb dX4_finite_6 rfl (lv_at hl 0 rfl) ?_
  refine lv_lload_n hx hb dX4_finite_7 rfl (lv_at hl 1 rfl) ?_
  refine lv_lload hx hb dX4_finite_8 (lv_at hl 2 rfl) ?_
  refine fw_callM (va_runI (As := [.int (jb false), .int (jb false), .long p0, .long p1, .long p2]) (rest := [.ref q1]) ⟨hx, hb, hml, hown, htf⟩ (k_X4_init l dC dI q1 false false p0 p1 p2) (cwI 5 htf (gd_I wk132) rfl rfl rfl (htf _ wk9) (htf _ wk130) (htf _ wk131) rfl ndX4_init ⟨Nat.le_of_ble_eq_true rfl, Nat.le_of_ble_eq_true rfl⟩) (fw_RS (hP.sub (ws' := [(q1, .inr (1, [.int 0, .int 0, .long 0, .long 0, .long 0]))]) [0] rfl) hK) rfl rfl hl.1 rfl (lv_room (Nat.le_of_ble_eq_true rfl)) dX4_finite_10 ⟨Nat.le_of_ble_eq_true rfl, Nat.le_of_ble_eq_true rfl⟩) hS hqA (fun H locs hn _ _ hS => ?_)
  have hP : va_P (dC, dI) vwCl [(q1, .inr (1, [.int (jb (fm_X4_init_0 false false p0 p1 p2)), .int (jb (fm_X4_init_1 false false p0 p1 p2)), .long (fm_X4_init_2 false false p0 p1 p2), .long (fm_X4_init_3 false false p0 p1 p2), .long (fm_X4_init_4 false false p0 p1 p2)]))] H := (fw_old hP0 hS).app hn
  refine W.widen (k := 1) (n := 5) (Nat.le_of_ble_eq_true rfl) (Nat.le_of_ble_eq_true rfl) ?_
  exact W.aret (v := .ref q1) hx hb hr (Or.inl ⟨_, rfl⟩) (Or.inr ⟨_, rfl⟩) (fun t ht hW => ⟨q1, rfl, by rw [ht, show fm_X4_finite p0 p1 p2 = (fm_X4_init_0 false false p0 p1 p2, fm_X4_init_1 false false p0 p1 p2, fm_X4_init_2 false false p0 p1 p2, fm_X4_init_3 false false p0 p1 p2, fm_X4_init_4 false false p0 p1 p2) from by rfl]; exact hP.sub [0] rfl, by rw [ht]; exact fw_S_pre hS⟩) hS.2.2 dX4_finite_13
theorem ndX4_opposite : yX4_opposite.cls = RX4 ∧ yX4_opposite.cls ≠ "java/lang/invoke/MethodHandle" ∧ yX4_opposite.cls ≠ "java/lang/invoke/VarHandle" ∧ (parseMethodDescriptor yX4_opposite.desc).map (fun d => d.parameters.length) = some 0 := by decide +kernel
def fm_X4_opposite (h0_nan : Bool) (h0_infinite : Bool) (h0_sign : Int64) (h0_exponent : Int64) (h0_magnitude : Int64) : fw_V := (fm_X4_init_0 h0_nan h0_infinite (h0_sign ^^^ 1) h0_exponent h0_magnitude, fm_X4_init_1 h0_nan h0_infinite (h0_sign ^^^ 1) h0_exponent h0_magnitude, fm_X4_init_2 h0_nan h0_infinite (h0_sign ^^^ 1) h0_exponent h0_magnitude, fm_X4_init_3 h0_nan h0_infinite (h0_sign ^^^ 1) h0_exponent h0_magnitude, fm_X4_init_4 h0_nan h0_infinite (h0_sign ^^^ 1) h0_exponent h0_magnitude)
set_option maxHeartbeats 4000000 in
set_option maxRecDepth 100000 in
theorem k_X4_opposite (l : Launch) (dC : Nat → ClassId) (dI : Nat → Nat → Nat) (sz : Nat) (h0 : Nat) (h0_nan : Bool) (h0_infinite : Bool) (h0_sign : Int64) (h0_exponent : Int64) (h0_magnitude : Int64) : Met l yX4_opposite wsX4_opposite { frames := 2, cells := 1, slots := 5, locals := 40 } (fw_RZ (dC, dI) vwCl [(h0, .inr (1, [.int (jb h0_nan), .int (jb h0_infinite), .long h0_sign, .long h0_exponent, .long h0_magnitude]))] sz [.ref h0]) (fw_G (dC, dI) vwCl 1 (fw_vl (fm_X4_opposite h0_nan h0_infinite h0_sign h0_exponent h0_magnitude))) 1 5 (fun q => sz ≤ q) := by
  refine Met.ofW (cc := cX4_opposite) (maxL := 1) (ret := (some (.object "FloatCircuits$Value"))) (by decide) rfl ?_
  intro p e s m args below meth c s₁ B hml hv
  obtain ⟨rfl, hsz, hP0, hK⟩ := hv
  subst hsz
  have hx := B.exec
  have hb := B.bytes
  have hr := B.returns
  have hts := atoms_spec (ws := wsX4_opposite) B.pre
  have htf : ∀ w ∈ fc_all, w.before _ s = true := fun w h => hts w (List.mem_cons_of_mem _ h)
  have hown : s.vm.findClass RX4 = some m.cls := findClass_of_methodNamed B.named
  have hlocks := B.notSynchronized
  have hP0 : va_P (dC, dI) vwCl [(h0, .inr (1, [.int (jb h0_nan), .int (jb h0_infinite), .long h0_sign, .long h0_exponent, .long h0_magnitude]))] s.heap := hP0
  have hP := hP0
  have hS : va_S (fun q => s.heap.size ≤ q) s.heap s.heap [] := va_S.rf
  have hA : ∀ q : Nat, s.heap.size ≤ q → (fun q : Nat => s.heap.size ≤ q) q := fun _ h => h
  have hl := lv_entry ([.ref h0]) (n := 1) (Nat.le_of_ble_eq_true rfl)
  rw [lg_entry_eq]
  generalize (lg_sl ([.ref h0]) ++ List.replicate (1 - (lg_sl ([.ref h0])).length) Slot.unset).toArray = ls at hl ⊢
  have hl : lv_has ls 1 [(0, .ref h0)] := hl
  refine va_new (ci := 1) (fs := [.int 0, .int 0, .long 0, .long 0, .long 0]) (C := RX4) (T := TX4) (N := 5) hx hb htf hiX4 tyX4 tyX4_ok hown (htf _ wk128) (htf _ wk129) (htf _ wk9) hK fw_nilP fw_nilD hS hA rfl (fun j hj => by rcases (show j = 0 ∨ j = 1 ∨ j = 2 ∨ j = 3 ∨ j = 4 by omega) with rfl | rfl | rfl | rfl | rfl <;> rfl) (Nat.le_of_ble_eq_true rfl) (Nat.le_of_ble_eq_true rfl) dX4_opposite_0 (fun q1 H hn hDn hS => ?_)
  have hP : va_P (dC, dI) vwCl [(h0, .inr (1, [.int (jb h0_nan), .int (jb h0_infinite), .long h0_sign, .long h0_exponent, .long h0_magnitude])), (q1, .inr (1, [.int 0, .int 0, .long 0, .long 0, .long 0]))] H := (fw_old hP0 hS).app hn
  have hqA : s.heap.size ≤ q1 := hDn.2 0 _ rfl
  refine lv_dup hx hb dX4_opposite_3 rfl ?_
  refine lv_aload_n hx hb dX4_opposite_4 rfl (lv_at hl 0 rfl) ?_
  refine va_get (D := (dC, dI)) (ci := 1) (v := .int (jb h0_nan)) (C := RX4) (T := TX4) (N := 5) hx hb htf hiX4 hown hK hP 0 rfl rfl 0 (by decide) (htf _ wk134) (fun _ h9 => h9) rfl dX4_opposite_5 ?_
  refine lv_aload_n hx hb dX4_opposite_8 rfl (lv_at hl 0 rfl) ?_
  refine va_get (D := (dC, dI)) (ci := 1) (v := .int (jb h0_infinite)) (C := RX4) (T := TX4) (N := 5) hx hb htf hiX4 hown hK hP 0 rfl rfl 1 (by decide) (htf _ wk138) (fun _ h9 => h9) rfl dX4_opposite_9 ?_
  refine lv_aload_n hx hb dX4_opposite_12 rfl (lv_at hl 0 rfl) ?_
  refine va_get (D := (dC, dI)) (ci := 1) (v := .long h0_sign) (C := RX4) (T := TX4) (N := 5) hx hb htf hiX4 hown hK hP 0 rfl rfl 2 (by decide) (htf _ wk142) (fun _ h9 => h9) rfl dX4_opposite_13 ?_
  refine lv_lconst (v := 1) hx hb dX4_opposite_16 (by decide) ?_
  refine lv_lxor hx hb dX4_opposite_17 ?_
  refine lv_aload_n hx hb dX4_opposite_18 rfl (lv_at hl 0 rfl) ?_
  refine va_get (D := (dC, dI)) (ci := 1) (v := .long h0_exponent) (C := RX4) (T := TX4) (N := 5) hx hb htf hiX4 hown hK hP 0 rfl rfl 3 (by decide) (htf _ wk147) (fun _ h9 => h9) rfl dX4_opposite_19 ?_
  refine lv_aload_n hx hb dX4_opposite_22 rfl (lv_at hl 0 rfl) ?_
  refine va_get (D := (dC, dI)) (ci := 1) (v := .long h0_magnitude) (C := RX4) (T := TX4) (N := 5) hx hb htf hiX4 hown hK hP 0 rfl rfl 4 (by decide) (htf _ wk151) (fun _ h9 => h9) rfl dX4_opposite_23 ?_
  refine fw_callM (va_runI (As := [.int (jb h0_nan), .int (jb h0_infinite), .long (h0_sign ^^^ 1), .long h0_exponent, .long h0_magnitude]) (rest := [.ref q1]) ⟨hx, hb, hml, hown, htf⟩ (k_X4_init l dC dI q1 h0_nan h0_infinite (h0_sign ^^^ 1) h0_exponent h0_magnitude) (cwI 5 htf (gd_I wk132) rfl rfl rfl (htf _ wk9) (htf _ wk130) (htf _ wk131) rfl ndX4_init ⟨Nat.le_of_ble_eq_true rfl, Nat.le_of_ble_eq_true rfl⟩) (fw_RS (hP.sub (ws' := [(q1, .inr (1, [.int 0, .int 0, .long 0, .long 0, .long 0]))]) [1] rfl) hK) rfl rfl hl.1 rfl (lv_room (Nat.le_of_ble_eq_true rfl)) dX4_opposite_26 ⟨Nat.le_of_ble_eq_true rfl, Nat.le_of_ble_eq_true rfl⟩) hS hqA (fun H locs hn _ _ hS => ?_)
  have hP : va_P (dC, dI) vwCl [(h0, .inr (1, [.int (jb h0_nan), .int (jb h0_infinite), .long h0_sign, .long h0_exponent, .long h0_magnitude])), (q1, .inr (1, [.int (jb (fm_X4_init_0 h0_nan h0_infinite (h0_sign ^^^ 1) h0_exponent h0_magnitude)), .int (jb (fm_X4_init_1 h0_nan h0_infinite (h0_sign ^^^ 1) h0_exponent h0_magnitude)), .long (fm_X4_init_2 h0_nan h0_infinite (h0_sign ^^^ 1) h0_exponent h0_magnitude), .long (fm_X4_init_3 h0_nan h0_infinite (h0_sign ^^^ 1) h0_exponent h0_magnitude), .long (fm_X4_init_4 h0_nan h0_infinite (h0_sign ^^^ 1) h0_exponent h0_magnitude)]))] H := (fw_old hP0 hS).app hn
  refine W.widen (k := 1) (n := 5) (Nat.le_of_ble_eq_true rfl) (Nat.le_of_ble_eq_true rfl) ?_
  exact W.aret (v := .ref q1) hx hb hr (Or.inl ⟨_, rfl⟩) (Or.inr ⟨_, rfl⟩) (fun t ht hW => ⟨q1, rfl, by rw [ht, show fm_X4_opposite h0_nan h0_infinite h0_sign h0_exponent h0_magnitude = (fm_X4_init_0 h0_nan h0_infinite (h0_sign ^^^ 1) h0_exponent h0_magnitude, fm_X4_init_1 h0_nan h0_infinite (h0_sign ^^^ 1) h0_exponent h0_magnitude, fm_X4_init_2 h0_nan h0_infinite (h0_sign ^^^ 1) h0_exponent h0_magnitude, fm_X4_init_3 h0_nan h0_infinite (h0_sign ^^^ 1) h0_exponent h0_magnitude, fm_X4_init_4 h0_nan h0_infinite (h0_sign ^^^ 1) h0_exponent h0_magnitude) from by rfl]; exact hP.sub [1] rfl, by rw [ht]; exact fw_S_pre hS⟩) hS.2.2 dX4_opposite_29
theorem ndX0_unpack : yX0_unpack.cls = RX0 ∧ yX0_unpack.cls ≠ "java/lang/invoke/MethodHandle" ∧ yX0_unpack.cls ≠ "java/lang/invoke/VarHandle" ∧ (parseMethodDescriptor yX0_unpack.desc).map (fun d => d.parameters.length) = some 1 := by decide +kernel
def fm_X0_unpack (h0_width : Int32) (h0_fractionBits : Int32) (h0_signBit : Int32) (h0_infinity : Int32) (h0_nan : Int32) (h0_finest : Int32) (p1 : Int32) : fw_V := let x1 := fm_X0_signOf h0_width h0_fractionBits h0_signBit h0_infinity h0_nan h0_finest p1; if (jb (fm_X0_isNan h0_width h0_fractionBits h0_signBit h0_infinity h0_nan h0_finest p1)) = 0 then (if (lg_cmp (fg_any ((fm_X0_unsigned h0_width h0_fractionBits h0_signBit h0_infinity h0_nan h0_finest p1) ^^^ h0_infinity.toInt64)) 0) = 0 then (((fm_X4_infinity x1).1, (fm_X4_infinity x1).2.1, (fm_X4_infinity x1).2.2.1, (fm_X4_infinity x1).2.2.2.1, (fm_X4_infinity x1).2.2.2.2)) else (let x4 := fc_ushr (fm_X0_unsigned h0_width h0_fractionBits h0_signBit h0_infinity h0_nan h0_finest p1) h0_fractionBits; let x5 := fg_any x4; let x6 := p1.toInt64 &&& (fg_ones h0_fractionBits); let x7 := fg_diff x4 x5; ((fm_X4_finite x1 (fg_sum h0_finest.toInt64 x7) (x6 ||| (fc_shl x5 h0_fractionBits))).1, (fm_X4_finite x1 (fg_sum h0_finest.toInt64 x7) (x6 ||| (fc_shl x5 h0_fractionBits))).2.1, (fm_X4_finite x1 (fg_sum h0_finest.toInt64 x7) (x6 ||| (fc_shl x5 h0_fractionBits))).2.2.1, (fm_X4_finite x1 (fg_sum h0_finest.toInt64 x7) (x6 ||| (fc_shl x5 h0_fractionBits))).2.2.2.1, (fm_X4_finite x1 (fg_sum h0_finest.toInt64 x7) (x6 ||| (fc_shl x5 h0_fractionBits))).2.2.2.2))) else (((fm_X4_notANumber).1, (fm_X4_notANumber).2.1, (fm_X4_notANumber).2.2.1, (fm_X4_notANumber).2.2.2.1, (fm_X4_notANumber).2.2.2.2))
set_option maxHeartbeats 4000000 in
set_option maxRecDepth 100000 in
theorem k_X0_unpack (l : Launch) (dC : Nat → ClassId) (dI : Nat → Nat → Nat) (sz : Nat) (h0 : Nat) (h0_width : Int32) (h0_fractionBits : Int32) (h0_signBit : Int32) (h0_infinity : Int32) (h0_nan : Int32) (h0_finest : Int32) (p1 : Int32) : Met l yX0_unpack wsX0_unpack { frames := 4, cells := 1, slots := 5, locals := 99 } (fw_RZ (dC, dI) vwCl [(h0, .inr (0, [.int h0_width, .int h0_fractionBits, .int h0_signBit, .int h0_infinity, .int h0_nan, .int h0_finest]))] sz [.ref h0, .int p1]) (fw_G (dC, dI) vwCl 1 (fw_vl (fm_X0_unpack h0_width h0_fractionBits h0_signBit h0_infinity h0_nan h0_finest p1))) 1 5 (fun q => sz ≤ q) := by
  refine Met.ofW (cc := cX0_unpack) (maxL := 12) (ret := (some (.object "FloatCircuits$Value"))) (by decide) rfl ?_
  intro p e s m args below meth c s₁ B hml hv
  obtain ⟨rfl, hsz, hP0, hK⟩ := hv
  subst hsz
  have hx := B.exec
  have hb := B.bytes
  have hr := B.returns
  have hts := atoms_spec (ws := wsX0_unpack) B.pre
  have htf : ∀ w ∈ fc_all, w.before _ s = true := fun w h => hts w (List.mem_cons_of_mem _ h)
  have hown : s.vm.findClass RX0 = some m.cls := findClass_of_methodNamed B.named
  have hlocks := B.notSynchronized
  have hP0 : va_P (dC, dI) vwCl [(h0, .inr (0, [.int h0_width, .int h0_fractionBits, .int h0_signBit, .int h0_infinity, .int h0_nan, .int h0_finest]))] s.heap := hP0
  have hP := hP0
  have hS : va_S (fun q => s.heap.size ≤ q) s.heap s.heap [] := va_S.rf
  have hA : ∀ q : Nat, s.heap.size ≤ q → (fun q : Nat => s.heap.size ≤ q) q := fun _ h => h
  have hl := lv_entry ([.ref h0, .int p1]) (n := 12) (Nat.le_of_ble_eq_true rfl)
  rw [lg_entry_eq]
  generalize (lg_sl ([.ref h0, .int p1]) ++ List.replicate (12 - (lg_sl ([.ref h0, .int p1])).length) Slot.unset).toArray = ls at hl ⊢
  have hl : lv_has ls 12 [(0, .ref h0), (1, .int p1)] := hl
  refine lv_aload_n hx hb dX0_unpack_0 rfl (lv_at hl 0 rfl) ?_
  refine lv_iload_n hx hb dX0_unpack_1 rfl (lv_at hl 1 rfl) ?_
  refine fw_call (va_runV (As := [.int p1]) (rest := []) ⟨hx, hb, hml, hown, htf⟩ (k_X0_signOf l dC dI h0 h0_width h0_fractionBits h0_signBit h0_infinity h0_nan h0_finest p1) (cwV 1 htf (gd_V wk102 wk103 ws1 wk2 wk104) rfl rfl rfl ndX0_signOf ⟨Nat.le_of_ble_eq_true rfl, Nat.le_of_ble_eq_true rfl⟩) (fw_RV (va_recv hK hP (ci := 0) (q0 := 0) rfl rfl) (hP.sub (ws' := [(h0, .inr (0, [.int h0_width, .int h0_fractionBits, .int h0_signBit, .int h0_infinity, .int h0_nan, .int h0_finest]))]) [0] rfl) hK) rfl rfl hl.1 rfl (lv_room (Nat.le_of_ble_eq_true rfl)) dX0_unpack_2 ⟨Nat.le_of_ble_eq_true rfl, Nat.le_of_ble_eq_true rfl⟩) ?_
  refine lv_topl (fun x1 ex1 => ?_)
  refine lv_lstore_n (lv' := [(2, .long x1), (0, .ref h0), (1, .int p1)]) hx hb dX0_unpack_5 rfl hl (by decide) rfl (fun ls hl => ?_)
  refine lv_aload_n hx hb dX0_unpack_6 rfl (lv_at hl 1 rfl) ?_
  refine lv_iload_n hx hb dX0_unpack_7 rfl (lv_at hl 2 rfl) ?_
  refine fw_call (va_runV (As := [.int p1]) (rest := []) ⟨hx, hb, hml, hown, htf⟩ (k_X0_isNan l dC dI h0 h0_width h0_fractionBits h0_signBit h0_infinity h0_nan h0_finest p1) (cwV 1 htf (gd_V wk105 wk106 wk107 wk2 wk108) rfl rfl rfl ndX0_isNan ⟨Nat.le_of_ble_eq_true rfl, Nat.le_of_ble_eq_true rfl⟩) (fw_RV (va_recv hK hP (ci := 0) (q0 := 0) rfl rfl) (hP.sub (ws' := [(h0, .inr (0, [.int h0_width, .int h0_fractionBits, .int h0_signBit, .int h0_infinity, .int h0_nan, .int h0_finest]))]) [0] rfl) hK) rfl rfl hl.1 rfl (lv_room (Nat.le_of_ble_eq_true rfl)) dX0_unpack_8 ⟨Nat.le_of_ble_eq_true rfl, Nat.le_of_ble_eq_true rfl⟩) ?_
  refine lv_if_eq (tgt := 18) hx hb dX0_unpack_11 (by decide) (fun c2 => ?_) (fun c2 => ?_)
  · refine lv_aload_n hx hb dX0_unpack_18 rfl (lv_at hl 1 rfl) ?_
    refine lv_iload_n hx hb dX0_unpack_19 rfl (lv_at hl 2 rfl) ?_
    refine fw_call (va_runV (As := [.int p1]) (rest := []) ⟨hx, hb, hml, hown, htf⟩ (k_X0_unsigned l dC dI h0 h0_width h0_fractionBits h0_signBit h0_infinity h0_nan h0_finest p1) (cwV 1 htf (gd_V wk109 wk110 ws2 wk2 wk111) rfl rfl rfl ndX0_unsigned ⟨Nat.le_of_ble_eq_true rfl, Nat.le_of_ble_eq_true rfl⟩) (fw_RV (va_recv hK hP (ci := 0) (q0 := 0) rfl rfl) (hP.sub (ws' := [(h0, .inr (0, [.int h0_width, .int h0_fractionBits, .int h0_signBit, .int h0_infinity, .int h0_nan, .int h0_finest]))]) [0] rfl) hK) rfl rfl hl.1 rfl (lv_room (Nat.le_of_ble_eq_true rfl)) dX0_unpack_20 ⟨Nat.le_of_ble_eq_true rfl, Nat.le_of_ble_eq_true rfl⟩) ?_
    refine lv_aload_n hx hb dX0_unpack_23 rfl (lv_at hl 1 rfl) ?_
    refine va_get (D := (dC, dI)) (ci := 0) (v := .int h0_infinity) (C := RX0) (T := TX0) (N := 6) hx hb htf hiX0 hown hK hP 0 rfl rfl 3 (by decide) (htf _ wk33) (fun _ h9 => h9) rfl dX0_unpack_24 ?_
    refine lv_i2l (v := h0_infinity.toInt64) hx hb dX0_unpack_27 rfl ?_
    refine lv_lxor hx hb dX0_unpack_28 ?_
    refine fw_call (va_runS (As := [.long ((fm_X0_unsigned h0_width h0_fractionBits h0_signBit h0_infinity h0_nan h0_finest p1) ^^^ h0_infinity.toInt64)]) (rest := []) ⟨hx, hb, hml, hown, htf⟩ (k_X1_any l ((fm_X0_unsigned h0_width h0_fractionBits h0_signBit h0_infinity h0_nan h0_finest p1) ^^^ h0_infinity.toInt64)) (va_cwS 1 htf (gd_S wk156 wk157 wk8 wk158) rfl rfl rfl ndX1_any ⟨Nat.le_of_ble_eq_true rfl, Nat.le_of_ble_eq_true rfl⟩) fw_PS rfl rfl hl.1 rfl (lv_room (Nat.le_of_ble_eq_true rfl)) dX0_unpack_29 ⟨Nat.le_of_ble_eq_true rfl, Nat.le_of_ble_eq_true rfl⟩) ?_
    refine lv_lconst (v := 0) hx hb dX0_unpack_32 (by decide) ?_
    refine W.lcmp hx hb dX0_unpack_33 ?_
    refine lv_if_ne (tgt := 42) hx hb dX0_unpack_34 (by decide) (fun c3 => ?_) (fun c3 => ?_)
    · refine lv_aload_n hx hb dX0_unpack_42 rfl (lv_at hl 1 rfl) ?_
      refine lv_iload_n hx hb dX0_unpack_43 rfl (lv_at hl 2 rfl) ?_
      refine fw_call (va_runV (As := [.int p1]) (rest := []) ⟨hx, hb, hml, hown, htf⟩ (k_X0_unsigned l dC dI h0 h0_width h0_fractionBits h0_signBit h0_infinity h0_nan h0_finest p1) (cwV 1 htf (gd_V wk109 wk110 ws2 wk2 wk111) rfl rfl rfl ndX0_unsigned ⟨Nat.le_of_ble_eq_true rfl, Nat.le_of_ble_eq_true rfl⟩) (fw_RV (va_recv hK hP (ci := 0) (q0 := 0) rfl rfl) (hP.sub (ws' := [(h0, .inr (0, [.int h0_width, .int h0_fractionBits, .int h0_signBit, .int h0_infinity, .int h0_nan, .int h0_finest]))]) [0] rfl) hK) rfl rfl hl.1 rfl (lv_room (Nat.le_of_ble_eq_true rfl)) dX0_unpack_44 ⟨Nat.le_of_ble_eq_true rfl, Nat.le_of_ble_eq_true rfl⟩) ?_
      refine lv_aload_n hx hb dX0_unpack_47 rfl (lv_at hl 1 rfl) ?_
      refine va_get (D := (dC, dI)) (ci := 0) (v := .int h0_fractionBits) (C := RX0) (T := TX0) (N := 6) hx hb htf hiX0 hown hK hP 0 rfl rfl 1 (by decide) (htf _ wk30) (fun _ h9 => h9) rfl dX0_unpack_48 ?_
      refine lv_lushr (v := fc_ushr (fm_X0_unsigned h0_width h0_fractionBits h0_signBit h0_infinity h0_nan h0_finest p1) h0_fractionBits) hx hb dX0_unpack_51 rfl ?_
      refine lv_topl (fun x4 ex4 => ?_)
      refine lv_lstore (lv' := [(4, .long x4), (2, .long x1), (0, .ref h0), (1, .int p1)]) hx hb dX0_unpack_52 hl (by decide) rfl (fun ls hl => ?_)
      refine lv_lload hx hb dX0_unpack_54 (lv_at hl 0 rfl) ?_
      refine fw_call (va_runS (As := [.long x4]) (rest := []) ⟨hx, hb, hml, hown, htf⟩ (k_X1_any l x4) (va_cwS 1 htf (gd_S wk156 wk157 wk8 wk158) rfl rfl rfl ndX1_any ⟨Nat.le_of_ble_eq_true rfl, Nat.le_of_ble_eq_true rfl⟩) fw_PS rfl rfl hl.1 rfl (lv_room (Nat.le_of_ble_eq_true rfl)) dX0_unpack_56 ⟨Nat.le_of_ble_eq_true rfl, Nat.le_of_ble_eq_true rfl⟩) ?_
      refine lv_topl (fun x5 ex5 => ?_)
      refine lv_lstore (lv' := [(6, .long x5), (4, .long x4), (2, .long x1), (0, .ref h0), (1, .int p1)]) hx hb dX0_unpack_59 hl (by decide) rfl (fun ls hl => ?_)
      refine lv_iload_n hx hb dX0_unpack_61 rfl (lv_at hl 4 rfl) ?_
      refine lv_i2l (v := p1.toInt64) hx hb dX0_unpack_62 rfl ?_
      refine lv_aload_n hx hb dX0_unpack_63 rfl (lv_at hl 3 rfl) ?_
      refine va_get (D := (dC, dI)) (ci := 0) (v := .int h0_fractionBits) (C := RX0) (T := TX0) (N := 6) hx hb htf hiX0 hown hK hP 0 rfl rfl 1 (by decide) (htf _ wk30) (fun _ h9 => h9) rfl dX0_unpack_64 ?_
      refine fw_call (va_runS (As := [.int h0_fractionBits]) (rest := [.long p1.toInt64]) ⟨hx, hb, hml, hown, htf⟩ (k_X1_ones l h0_fractionBits) (va_cwS 1 htf (gd_S wk162 wk163 wk8 wk164) rfl rfl rfl ndX1_ones ⟨Nat.le_of_ble_eq_true rfl, Nat.le_of_ble_eq_true rfl⟩) fw_PS rfl rfl hl.1 rfl (lv_room (Nat.le_of_ble_eq_true rfl)) dX0_unpack_67 ⟨Nat.le_of_ble_eq_true rfl, Nat.le_of_ble_eq_true rfl⟩) ?_
      refine lv_land hx hb dX0_unpack_70 ?_
      refine lv_topl (fun x6 ex6 => ?_)
      refine lv_lstore (lv' := [(8, .long x6), (6, .long x5), (4, .long x4), (2, .long x1), (0, .ref h0), (1, .int p1)]) hx hb dX0_unpack_71 hl (by decide) rfl (fun ls hl => ?_)
      refine lv_lload hx hb dX0_unpack_73 (lv_at hl 2 rfl) ?_
      refine lv_lload hx hb dX0_unpack_75 (lv_at hl 1 rfl) ?_
      refine fw_call (va_runS (As := [.long x4, .long x5]) (rest := []) ⟨hx, hb, hml, hown, htf⟩ (k_X1_difference l x4 x5) (va_cwS 2 htf (gd_S wk165 wk116 wk8 wk117) rfl rfl rfl ndX1_difference ⟨Nat.le_of_ble_eq_true rfl, Nat.le_of_ble_eq_true rfl⟩) fw_PS rfl rfl hl.1 rfl (lv_room (Nat.le_of_ble_eq_true rfl)) dX0_unpack_77 ⟨Nat.le_of_ble_eq_true rfl, Nat.le_of_ble_eq_true rfl⟩) ?_
      refine lv_topl (fun x7 ex7 => ?_)
      refine lv_lstore (lv' := [(10, .long x7), (8, .long x6), (6, .long x5), (4, .long x4), (2, .long x1), (0, .ref h0), (1, .int p1)]) hx hb dX0_unpack_80 hl (by decide) rfl (fun ls hl => ?_)
      refine lv_lload_n hx hb dX0_unpack_82 rfl (lv_at hl 4 rfl) ?_
      refine lv_aload_n hx hb dX0_unpack_83 rfl (lv_at hl 5 rfl) ?_
      refine va_get (D := (dC, dI)) (ci := 0) (v := .int h0_finest) (C := RX0) (T := TX0) (N := 6) hx hb htf hiX0 hown hK hP 0 rfl rfl 5 (by decide) (htf _ wk36) (fun _ h9 => h9) rfl dX0_unpack_84 ?_
      refine lv_i2l (v := h0_finest.toInt64) hx hb dX0_unpack_87 rfl ?_
      refine lv_lload hx hb dX0_unpack_88 (lv_at hl 0 rfl) ?_
      refine fw_call (va_runS (As := [.long h0_finest.toInt64, .long x7]) (rest := [.long x1]) ⟨hx, hb, hml, hown, htf⟩ (k_X1_sum l h0_finest.toInt64 x7) (va_cwS 2 htf (gd_S wk166 wk167 wk8 wk168) rfl rfl rfl ndX1_sum ⟨Nat.le_of_ble_eq_true rfl, Nat.le_of_ble_eq_true rfl⟩) fw_PS rfl rfl hl.1 rfl (lv_room (Nat.le_of_ble_eq_true rfl)) dX0_unpack_90 ⟨Nat.le_of_ble_eq_true rfl, Nat.le_of_ble_eq_true rfl⟩) ?_
      refine lv_lload hx hb dX0_unpack_93 (lv_at hl 1 rfl) ?_
      refine lv_lload hx hb dX0_unpack_95 (lv_at hl 2 rfl) ?_
      refine lv_aload_n hx hb dX0_unpack_97 rfl (lv_at hl 5 rfl) ?_
      refine va_get (D := (dC, dI)) (ci := 0) (v := .int h0_fractionBits) (C := RX0) (T := TX0) (N := 6) hx hb htf hiX0 hown hK hP 0 rfl rfl 1 (by decide) (htf _ wk30) (fun _ h9 => h9) rfl dX0_unpack_98 ?_
      refine lv_lshl (v := fc_shl x5 h0_fractionBits) hx hb dX0_unpack_101 rfl ?_
      refine lv_lor hx hb dX0_unpack_102 ?_
      refine fw_callG (va_runS (As := [.long x1, .long (fg_sum h0_finest.toInt64 x7), .long (x6 ||| (fc_shl x5 h0_fractionBits))]) (rest := []) ⟨hx, hb, hml, hown, htf⟩ (k_X4_finite l dC dI s.heap.size x1 (fg_sum h0_finest.toInt64 x7) (x6 ||| (fc_shl x5 h0_fractionBits))) (va_cwS 3 htf (gd_S wk169 wk170 wk9 wk171) rfl rfl rfl ndX4_finite ⟨Nat.le_of_ble_eq_true rfl, Nat.le_of_ble_eq_true rfl⟩) (fw_RZS (hP.sub (ws' := []) [] rfl) hK) rfl rfl hl.1 rfl (lv_room (Nat.le_of_ble_eq_true rfl)) dX0_unpack_103 ⟨Nat.le_of_ble_eq_true rfl, Nat.le_of_ble_eq_true rfl⟩) hS hA (fun q8 H locs hn hg hS => ?_)
      have hP : va_P (dC, dI) vwCl [(h0, .inr (0, [.int h0_width, .int h0_fractionBits, .int h0_signBit, .int h0_infinity, .int h0_nan, .int h0_finest])), (q8, .inr (1, [.int (jb ((fm_X4_finite x1 (fg_sum h0_finest.toInt64 x7) (x6 ||| (fc_shl x5 h0_fractionBits))).1)), .int (jb ((fm_X4_finite x1 (fg_sum h0_finest.toInt64 x7) (x6 ||| (fc_shl x5 h0_fractionBits))).2.1)), .long ((fm_X4_finite x1 (fg_sum h0_finest.toInt64 x7) (x6 ||| (fc_shl x5 h0_fractionBits))).2.2.1), .long ((fm_X4_finite x1 (fg_sum h0_finest.toInt64 x7) (x6 ||| (fc_shl x5 h0_fractionBits))).2.2.2.1), .long ((fm_X4_finite x1 (fg_sum h0_finest.toInt64 x7) (x6 ||| (fc_shl x5 h0_fractionBits))).2.2.2.2)]))] H := (hg.P hP).app hn
      refine W.widen (k := 1) (n := 5) (Nat.le_of_ble_eq_true rfl) (Nat.le_of_ble_eq_true rfl) ?_
      exact W.aret (v := .ref q8) hx hb hr (Or.inl ⟨_, rfl⟩) (Or.inr ⟨_, rfl⟩) (fun t ht hW => ⟨q8, rfl, by rw [ht, show fm_X0_unpack h0_width h0_fractionBits h0_signBit h0_infinity h0_nan h0_finest p1 = ((fm_X4_finite x1 (fg_sum h0_finest.toInt64 x7) (x6 ||| (fc_shl x5 h0_fractionBits))).1, (fm_X4_finite x1 (fg_sum h0_finest.toInt64 x7) (x6 ||| (fc_shl x5 h0_fractionBits))).2.1, (fm_X4_finite x1 (fg_sum h0_finest.toInt64 x7) (x6 ||| (fc_shl x5 h0_fractionBits))).2.2.1, (fm_X4_finite x1 (fg_sum h0_finest.toInt64 x7) (x6 ||| (fc_shl x5 h0_fractionBits))).2.2.2.1, (fm_X4_finite x1 (fg_sum h0_finest.toInt64 x7) (x6 ||| (fc_shl x5 h0_fractionBits))).2.2.2.2) from by subst ex7 ex6 ex5 ex4 ex1; first | (simp only [fm_X0_unpack, if_pos c2, if_neg c3]; done) | contradiction]; exact hP.sub [1] rfl, by rw [ht]; exact fw_S_pre hS⟩) hS.2.2 dX0_unpack_106
    · refine lv_lload_n hx hb dX0_unpack_37 rfl (lv_at hl 0 rfl) ?_
      refine fw_callG (va_runS (As := [.long x1]) (rest := []) ⟨hx, hb, hml, hown, htf⟩ (k_X4_infinity l dC dI s.heap.size x1) (va_cwS 1 htf (gd_S wk159 wk160 wk9 wk161) rfl rfl rfl ndX4_infinity ⟨Nat.le_of_ble_eq_true rfl, Nat.le_of_ble_eq_true rfl⟩) (fw_RZS (hP.sub (ws' := []) [] rfl) hK) rfl rfl hl.1 rfl (lv_room (Nat.le_of_ble_eq_true rfl)) dX0_unpack_38 ⟨Nat.le_of_ble_eq_true rfl, Nat.le_of_ble_eq_true rfl⟩) hS hA (fun q9 H locs hn hg hS => ?_)
      have hP : va_P (dC, dI) vwCl [(h0, .inr (0, [.int h0_width, .int h0_fractionBits, .int h0_signBit, .int h0_infinity, .int h0_nan, .int h0_finest])), (q9, .inr (1, [.int (jb ((fm_X4_infinity x1).1)), .int (jb ((fm_X4_infinity x1).2.1)), .long ((fm_X4_infinity x1).2.2.1), .long ((fm_X4_infinity x1).2.2.2.1), .long ((fm_X4_infinity x1).2.2.2.2)]))] H := (hg.P hP).app hn
      refine W.widen (k := 1) (n := 5) (Nat.le_of_ble_eq_true rfl) (Nat.le_of_ble_eq_true rfl) ?_
      exact W.aret (v := .ref q9) hx hb hr (Or.inl ⟨_, rfl⟩) (Or.inr ⟨_, rfl⟩) (fun t ht hW => ⟨q9, rfl, by rw [ht, show fm_X0_unpack h0_width h0_fractionBits h0_signBit h0_infinity h0_nan h0_finest p1 = ((fm_X4_infinity x1).1, (fm_X4_infinity x1).2.1, (fm_X4_infinity x1).2.2.1, (fm_X4_infinity x1).2.2.2.1, (fm_X4_infinity x1).2.2.2.2) from by subst ex1; first | (simp only [fm_X0_unpack, if_pos c2, if_pos c3]; done) | contradiction]; exact hP.sub [1] rfl, by rw [ht]; exact fw_S_pre hS⟩) hS.2.2 dX0_unpack_41
  · refine fw_callG (va_runS (As := []) (rest := []) ⟨hx, hb, hml, hown, htf⟩ (k_X4_notANumber l dC dI s.heap.size ) (va_cwS 0 htf (gd_S wk125 wk126 wk9 wk127) rfl rfl rfl ndX4_notANumber ⟨Nat.le_of_ble_eq_true rfl, Nat.le_of_ble_eq_true rfl⟩) (fw_RZS (hP.sub (ws' := []) [] rfl) hK) rfl rfl hl.1 rfl (lv_room (Nat.le_of_ble_eq_true rfl)) dX0_unpack_14 ⟨Nat.le_of_ble_eq_true rfl, Nat.le_of_ble_eq_true rfl⟩) hS hA (fun q10 H locs hn hg hS => ?_)
    have hP : va_P (dC, dI) vwCl [(h0, .inr (0, [.int h0_width, .int h0_fractionBits, .int h0_signBit, .int h0_infinity, .int h0_nan, .int h0_finest])), (q10, .inr (1, [.int (jb ((fm_X4_notANumber).1)), .int (jb ((fm_X4_notANumber).2.1)), .long ((fm_X4_notANumber).2.2.1), .long ((fm_X4_notANumber).2.2.2.1), .long ((fm_X4_notANumber).2.2.2.2)]))] H := (hg.P hP).app hn
    refine W.widen (k := 1) (n := 5) (Nat.le_of_ble_eq_true rfl) (Nat.le_of_ble_eq_true rfl) ?_
    exact W.aret (v := .ref q10) hx hb hr (Or.inl ⟨_, rfl⟩) (Or.inr ⟨_, rfl⟩) (fun t ht hW => ⟨q10, rfl, by rw [ht, show fm_X0_unpack h0_width h0_fractionBits h0_signBit h0_infinity h0_nan h0_finest p1 = ((fm_X4_notANumber).1, (fm_X4_notANumber).2.1, (fm_X4_notANumber).2.2.1, (fm_X4_notANumber).2.2.2.1, (fm_X4_notANumber).2.2.2.2) from by subst ex1; first | (simp only [fm_X0_unpack, if_neg c2]; done) | contradiction]; exact hP.sub [1] rfl, by rw [ht]; exact fw_S_pre hS⟩) hS.2.2 dX0_unpack_17
