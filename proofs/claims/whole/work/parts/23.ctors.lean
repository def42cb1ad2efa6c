theorem ndX4_init : yX4_init.cls ≠ "java/lang/invoke/MethodHandle" ∧ yX4_init.cls ≠ "java/lang/invoke/VarHandle" ∧ (parseMethodDescriptor yX4_init.desc).map (fun d => d.parameters.length) = some 5 := by decide +kernel
def fm_X4_init_0 (p1 : Bool) (p2 : Bool) (p3 : Int64) (p4 : Int64) (p5 : Int64) : Bool := p1
def fm_X4_init_1 (p1 : Bool) (p2 : Bool) (p3 : Int64) (p4 : Int64) (p5 : Int64) : Bool := p2
def fm_X4_init_2 (p1 : Bool) (p2 : Bool) (p3 : Int64) (p4 : Int64) (p5 : Int64) : Int64 := p3
def fm_X4_init_3 (p1 : Bool) (p2 : Bool) (p3 : Int64) (p4 : Int64) (p5 : Int64) : Int64 := p4
def fm_X4_init_4 (p1 : Bool) (p2 : Bool) (p3 : Int64) (p4 : Int64) (p5 : Int64) : Int64 := p5
set_option maxHeartbeats 4000000 in
set_option maxRecDepth 100000 in
theorem k_X4_init (l : Launch) (dC : Nat → ClassId) (dI : Nat → Nat → Nat) (h0 : Nat) (p1 : Bool) (p2 : Bool) (p3 : Int64) (p4 : Int64) (p5 : Int64) : Met l yX4_init wsX4_init { frames := 1, cells := 0, slots := 0, locals := 12 } (fw_R (dC, dI) vwCl [(h0, .inr (1, [.int 0, .int 0, .long 0, .long 0, .long 0]))] [.ref h0, .int (jb p1), .int (jb p2), .long p3, .long p4, .long p5]) (fw_M (dC, dI) vwCl h0 1 [.int (jb (fm_X4_init_0 p1 p2 p3 p4 p5)), .int (jb (fm_X4_init_1 p1 p2 p3 p4 p5)), .long (fm_X4_init_2 p1 p2 p3 p4 p5), .long (fm_X4_init_3 p1 p2 p3 p4 p5), .long (fm_X4_init_4 p1 p2 p3 p4 p5)] none) 0 0 (fun q => q = h0) := by
  refine Met.ofW (cc := cX4_init) (maxL := 9) (ret := none) (by decide) rfl ?_
  intro p e s m args below meth c s₁ B hml hv
  obtain ⟨rfl, hP, hK⟩ := hv
  have hx := B.exec
  have hb := B.bytes
  have hr := B.returns
  have hts := atoms_spec (ws := wsX4_init) B.pre
  have htf : ∀ w ∈ fc_all, w.before _ s = true := fun w h => hts w (List.mem_cons_of_mem _ h)
  have hown : s.vm.findClass RX4 = some m.cls := findClass_of_methodNamed B.named
  have hlocks := B.notSynchronized
  have hin : meth.name = "<init>" := (name_of_methodNamed B.named B.method).1
  have hP : va_P (dC, dI) vwCl [(h0, .inr (1, [.int 0, .int 0, .long 0, .long 0, .long 0]))] s.heap := hP
  have hD : va_D (fun q => q = h0) [(h0, .inr (1, [.int 0, .int 0, .long 0, .long 0, .long 0]))] := fw_D1 rfl
  have hS : va_S (fun q => q = h0) s.heap s.heap [] := va_S.rf
  have hl := lv_entry ([.ref h0, .int (jb p1), .int (jb p2), .long p3, .long p4, .long p5]) (n := 9) (Nat.le_of_ble_eq_true rfl)
  rw [lg_entry_eq]
  generalize (lg_sl ([.ref h0, .int (jb p1), .int (jb p2), .long p3, .long p4, .long p5]) ++ List.replicate (9 - (lg_sl ([.ref h0, .int (jb p1), .int (jb p2), .long p3, .long p4, .long p5])).length) Slot.unset).toArray = ls at hl ⊢
  have hl : lv_has ls 9 [(0, .ref h0), (1, .int (jb p1)), (2, .int (jb p2)), (3, .long p3), (5, .long p4), (7, .long p5)] := hl
  refine lv_aload_n hx hb dX4_init_0 rfl (lv_at hl 0 rfl) ?_
  refine W.objInit hx hb hown (htf _ wk133) (htf _ wk20) (htf _ wk21) rfl (by rw [hml]; exact hl.1) rfl dX4_init_1 (Nat.le_of_ble_eq_true rfl) (Nat.le_of_ble_eq_true rfl) ?_
  refine W.eq (g2 := F0 m 4 ls []) rfl ?_
  refine lv_aload_n hx hb dX4_init_4 rfl (lv_at hl 0 rfl) ?_
  refine lv_iload_n hx hb dX4_init_5 rfl (lv_at hl 1 rfl) ?_
  refine va_putF (D := (dC, dI)) (ci := 1) (v := .int (jb p1)) (ty := .boolean) (C := RX4) (T := TX4) (N := 5) hx hb htf hiX4 tyX4 tyX4_ok nmX4 hown hK hP hD hS 0 rfl rfl 0 (by decide) (htf _ wk134) (fun _ h9 => h9) rfl hin rfl (by decide +kernel) (jb_n _) (jb_f _) (Nat.le_of_ble_eq_true rfl) dX4_init_6 (fun H locs hP hD hS => ?_)
  have hP : va_P (dC, dI) vwCl [(h0, .inr (1, [.int (jb p1), .int 0, .long 0, .long 0, .long 0]))] H := hP
  have hD : va_D (fun q => q = h0) [(h0, .inr (1, [.int (jb p1), .int 0, .long 0, .long 0, .long 0]))] := hD
  refine lv_aload_n hx hb dX4_init_9 rfl (lv_at hl 0 rfl) ?_
  refine lv_iload_n hx hb dX4_init_10 rfl (lv_at hl 2 rfl) ?_
  refine va_putF (D := (dC, dI)) (ci := 1) (v := .int (jb p2)) (ty := .boolean) (C := RX4) (T := TX4) (N := 5) hx hb htf hiX4 tyX4 tyX4_ok nmX4 hown hK hP hD hS 0 rfl rfl 1 (by decide) (htf _ wk138) (fun _ h9 => h9) rfl hin rfl (by decide +kernel) (jb_n _) (jb_f _) (Nat.le_of_ble_eq_true rfl) dX4_init_11 (fun H locs hP hD hS => ?_)
  have hP : va_P (dC, dI) vwCl [(h0, .inr (1, [.int (jb p1), .int (jb p2), .long 0, .long 0, .long 0]))] H := hP
  have hD : va_D (fun q => q = h0) [(h0, .inr (1, [.int (jb p1), .int (jb p2), .long 0, .long 0, .long 0]))] := hD
  refine lv_aload_n hx hb dX4_init_14 rfl (lv_at hl 0 rfl) ?_
  refine lv_lload_n hx hb dX4_init_15 rfl (lv_at hl 3 rfl) ?_
  refine va_putF (D := (dC, dI)) (ci := 1) (v := .long p3) (ty := .long) (C := RX4) (T := TX4) (N := 5) hx hb htf hiX4 tyX4 tyX4_ok nmX4 hown hK hP hD hS 0 rfl rfl 2 (by decide) (htf _ wk142) (fun _ h9 => h9) rfl hin rfl (by decide +kernel) rfl rfl (Nat.le_of_ble_eq_true rfl) dX4_init_16 (fun H locs hP hD hS => ?_)
  have hP : va_P (dC, dI) vwCl [(h0, .inr (1, [.int (jb p1), .int (jb p2), .long p3, .long 0, .long 0]))] H := hP
  have hD : va_D (fun q => q = h0) [(h0, .inr (1, [.int (jb p1), .int (jb p2), .long p3, .long 0, .long 0]))] := hD
  refine lv_aload_n hx hb dX4_init_19 rfl (lv_at hl 0 rfl) ?_
  refine lv_lload hx hb dX4_init_20 (lv_at hl 4 rfl) ?_
  refine va_putF (D := (dC, dI)) (ci := 1) (v := .long p4) (ty := .long) (C := RX4) (T := TX4) (N := 5) hx hb htf hiX4 tyX4 tyX4_ok nmX4 hown hK hP hD hS 0 rfl rfl 3 (by decide) (htf _ wk147) (fun _ h9 => h9) rfl hin rfl (by decide +kernel) rfl rfl (Nat.le_of_ble_eq_true rfl) dX4_init_22 (fun H locs hP hD hS => ?_)
  have hP : va_P (dC, dI) vwCl [(h0, .inr (1, [.int (jb p1), .int (jb p2), .long p3, .long p4, .long 0]))] H := hP
  have hD : va_D (fun q => q = h0) [(h0, .inr (1, [.int (jb p1), .int (jb p2), .long p3, .long p4, .long 0]))] := hD
  refine lv_aload_n hx hb dX4_init_25 rfl (lv_at hl 0 rfl) ?_
  refine lv_lload hx hb dX4_init_26 (lv_at hl 5 rfl) ?_
  refine va_putF (D := (dC, dI)) (ci := 1) (v := .long p5) (ty := .long) (C := RX4) (T := TX4) (N := 5) hx hb htf hiX4 tyX4 tyX4_ok nmX4 hown hK hP hD hS 0 rfl rfl 4 (by decide) (htf _ wk151) (fun _ h9 => h9) rfl hin rfl (by decide +kernel) rfl rfl (Nat.le_of_ble_eq_true rfl) dX4_init_28 (fun H locs hP hD hS => ?_)
  have hP : va_P (dC, dI) vwCl [(h0, .inr (1, [.int (jb p1), .int (jb p2), .long p3, .long p4, .long p5]))] H := hP
  have hD : va_D (fun q => q = h0) [(h0, .inr (1, [.int (jb p1), .int (jb p2), .long p3, .long p4, .long p5]))] := hD
  exact W.vret hx hb hr (fun t ht hW => ⟨rfl, by rw [ht]; exact hP, hS.F ht⟩) hS.2.2 dX4_init_31
theorem ndX0_init : yX0_init.cls ≠ "java/lang/invoke/MethodHandle" ∧ yX0_init.cls ≠ "java/lang/invoke/VarHandle" ∧ (parseMethodDescriptor yX0_init.desc).map (fun d => d.parameters.length) = some 2 := by decide +kernel
def fm_X0_init_0 (p1 : Int32) (p2 : Int32) : Int32 := (p1 + p2)
def fm_X0_init_1 (p1 : Int32) (p2 : Int32) : Int32 := (p2 - 1)
def fm_X0_init_2 (p1 : Int32) (p2 : Int32) : Int32 := (fc_ishl 1 ((p1 + p2) - 1))
def fm_X0_init_3 (p1 : Int32) (p2 : Int32) : Int32 := (fc_ishl ((fc_ishl 1 p1) - 1) (p2 - 1))
def fm_X0_init_4 (p1 : Int32) (p2 : Int32) : Int32 := ((fc_ishl ((fc_ishl 1 p1) - 1) (p2 - 1)) ||| (fc_ishl 1 ((p2 - 1) - 1)))
def fm_X0_init_5 (p1 : Int32) (p2 : Int32) : Int32 := ((1 - ((fc_ishl 1 (p1 - 1)) - 1)) - (p2 - 1))
set_option maxHeartbeats 4000000 in
set_option maxRecDepth 100000 in
theorem k_X0_init (l : Launch) (dC : Nat → ClassId) (dI : Nat → Nat → Nat) (h0 : Nat) (p1 : Int32) (p2 : Int32) : Met l yX0_init wsX0_init { frames := 1, cells := 0, slots := 0, locals := 12 } (fw_R (dC, dI) vwCl [(h0, .inr (0, [.int 0, .int 0, .int 0, .int 0, .int 0, .int 0]))] [.ref h0, .int p1, .int p2]) (fw_M (dC, dI) vwCl h0 0 [.int (fm_X0_init_0 p1 p2), .int (fm_X0_init_1 p1 p2), .int (fm_X0_init_2 p1 p2), .int (fm_X0_init_3 p1 p2), .int (fm_X0_init_4 p1 p2), .int (fm_X0_init_5 p1 p2)] none) 0 0 (fun q => q = h0) := by
  refine Met.ofW (cc := cX0_init) (maxL := 4) (ret := none) (by decide) rfl ?_
  intro p e s m args below meth c s₁ B hml hv
  obtain ⟨rfl, hP, hK⟩ := hv
  have hx := B.exec
  have hb := B.bytes
  have hr := B.returns
  have hts := atoms_spec (ws := wsX0_init) B.pre
  have htf : ∀ w ∈ fc_all, w.before _ s = true := fun w h => hts w (List.mem_cons_of_mem _ h)
  have hown : s.vm.findClass RX0 = some m.cls := findClass_of_methodNamed B.named
  have hlocks := B.notSynchronized
  have hin : meth.name = "<init>" := (name_of_methodNamed B.named B.method).1
  have hP : va_P (dC, dI) vwCl [(h0, .inr (0, [.int 0, .int 0, .int 0, .int 0, .int 0, .int 0]))] s.heap := hP
  have hD : va_D (fun q => q = h0) [(h0, .inr (0, [.int 0, .int 0, .int 0, .int 0, .int 0, .int 0]))] := fw_D1 rfl
  have hS : va_S (fun q => q = h0) s.heap s.heap [] := va_S.rf
  have hl := lv_entry ([.ref h0, .int p1, .int p2]) (n := 4) (Nat.le_of_ble_eq_true rfl)
  rw [lg_entry_eq]
  generalize (lg_sl ([.ref h0, .int p1, .int p2]) ++ List.replicate (4 - (lg_sl ([.ref h0, .int p1, .int p2])).length) Slot.unset).toArray = ls at hl ⊢
  have hl : lv_has ls 4 [(0, .ref h0), (1, .int p1), (2, .int p2)] := hl
  refine lv_aload_n hx hb dX0_init_0 rfl (lv_at hl 0 rfl) ?_
  refine W.objInit hx hb hown (htf _ wk27) (htf _ wk20) (htf _ wk21) rfl (by rw [hml]; exact hl.1) rfl dX0_init_1 (Nat.le_of_ble_eq_true rfl) (Nat.le_of_ble_eq_true rfl) ?_
  refine W.eq (g2 := F0 m 4 ls []) rfl ?_
  refine lv_aload_n hx hb dX0_init_4 rfl (lv_at hl 0 rfl) ?_
  refine lv_iload_n hx hb dX0_init_5 rfl (lv_at hl 1 rfl) ?_
  refine lv_iload_n hx hb dX0_init_6 rfl (lv_at hl 2 rfl) ?_
  refine lv_iadd hx hb dX0_init_7 ?_
  refine lv_topi (fun x1 ex1 => ?_)
  refine va_putF (D := (dC, dI)) (ci := 0) (v := .int x1) (ty := .int) (C := RX0) (T := TX0) (N := 6) hx hb htf hiX0 tyX0 tyX0_ok nmX0 hown hK hP hD hS 0 rfl rfl 0 (by decide) (htf _ wk28) (fun _ h9 => h9) rfl hin rfl (by decide +kernel) rfl rfl (Nat.le_of_ble_eq_true rfl) dX0_init_8 (fun H locs hP hD hS => ?_)
  have hP : va_P (dC, dI) vwCl [(h0, .inr (0, [.int x1, .int 0, .int 0, .int 0, .int 0, .int 0]))] H := hP
  have hD : va_D (fun q => q = h0) [(h0, .inr (0, [.int x1, .int 0, .int 0, .int 0, .int 0, .int 0]))] := hD
  refine lv_aload_n hx hb dX0_init_11 rfl (lv_at hl 0 rfl) ?_
  refine lv_iload_n hx hb dX0_init_12 rfl (lv_at hl 2 rfl) ?_
  refine lv_iconst (v := 1) hx hb dX0_init_13 (by decide) ?_
  refine lv_isub hx hb dX0_init_14 ?_
  refine lv_topi (fun x2 ex2 => ?_)
  refine va_putF (D := (dC, dI)) (ci := 0) (v := .int x2) (ty := .int) (C := RX0) (T := TX0) (N := 6) hx hb htf hiX0 tyX0 tyX0_ok nmX0 hown hK hP hD hS 0 rfl rfl 1 (by decide) (htf _ wk30) (fun _ h9 => h9) rfl hin rfl (by decide +kernel) rfl rfl (Nat.le_of_ble_eq_true rfl) dX0_init_15 (fun H locs hP hD hS => ?_)
  have hP : va_P (dC, dI) vwCl [(h0, .inr (0, [.int x1, .int x2, .int 0, .int 0, .int 0, .int 0]))] H := hP
  have hD : va_D (fun q => q = h0) [(h0, .inr (0, [.int x1, .int x2, .int 0, .int 0, .int 0, .int 0]))] := hD
  refine lv_aload_n hx hb dX0_init_18 rfl (lv_at hl 0 rfl) ?_
  refine lv_iconst (v := 1) hx hb dX0_init_19 (by decide) ?_
  refine lv_aload_n hx hb dX0_init_20 rfl (lv_at hl 0 rfl) ?_
  refine va_get (D := (dC, dI)) (ci := 0) (v := .int x1) (C := RX0) (T := TX0) (N := 6) hx hb htf hiX0 hown hK hP 0 rfl rfl 0 (by decide) (htf _ wk28) (fun _ h9 => h9) rfl dX0_init_21 ?_
  refine lv_iconst (v := 1) hx hb dX0_init_24 (by decide) ?_
  refine lv_isub hx hb dX0_init_25 ?_
  refine lv_ishl hx hb dX0_init_26 ?_
  refine fw_topi (x := fc_ishl 1 (x1 - 1)) ?_
  refine lv_topi (fun x3 ex3 => ?_)
  refine va_putF (D := (dC, dI)) (ci := 0) (v := .int x3) (ty := .int) (C := RX0) (T := TX0) (N := 6) hx hb htf hiX0 tyX0 tyX0_ok nmX0 hown hK hP hD hS 0 rfl rfl 2 (by decide) (htf _ wk31) (fun _ h9 => h9) rfl hin rfl (by decide +kernel) rfl rfl (Nat.le_of_ble_eq_true rfl) dX0_init_27 (fun H locs hP hD hS => ?_)
  have hP : va_P (dC, dI) vwCl [(h0, .inr (0, [.int x1, .int x2, .int x3, .int 0, .int 0, .int 0]))] H := hP
  have hD : va_D (fun q => q = h0) [(h0, .inr (0, [.int x1, .int x2, .int x3, .int 0, .int 0, .int 0]))] := hD
  refine lv_aload_n hx hb dX0_init_30 rfl (lv_at hl 0 rfl) ?_
  refine lv_iconst (v := 1) hx hb dX0_init_31 (by decide) ?_
  refine lv_iload_n hx hb dX0_init_32 rfl (lv_at hl 1 rfl) ?_
  refine lv_ishl hx hb dX0_init_33 ?_
  refine fw_topi (x := fc_ishl 1 p1) ?_
  refine lv_iconst (v := 1) hx hb dX0_init_34 (by decide) ?_
  refine lv_isub hx hb dX0_init_35 ?_
  refine lv_aload_n hx hb dX0_init_36 rfl (lv_at hl 0 rfl) ?_
  refine va_get (D := (dC, dI)) (ci := 0) (v := .int x2) (C := RX0) (T := TX0) (N := 6) hx hb htf hiX0 hown hK hP 0 rfl rfl 1 (by decide) (htf _ wk30) (fun _ h9 => h9) rfl dX0_init_37 ?_
  refine lv_ishl hx hb dX0_init_40 ?_
  refine fw_topi (x := fc_ishl ((fc_ishl 1 p1) - 1) x2) ?_
  refine lv_topi (fun x4 ex4 => ?_)
  refine va_putF (D := (dC, dI)) (ci := 0) (v := .int x4) (ty := .int) (C := RX0) (T := TX0) (N := 6) hx hb htf hiX0 tyX0 tyX0_ok nmX0 hown hK hP hD hS 0 rfl rfl 3 (by decide) (htf _ wk33) (fun _ h9 => h9) rfl hin rfl (by decide +kernel) rfl rfl (Nat.le_of_ble_eq_true rfl) dX0_init_41 (fun H locs hP hD hS => ?_)
  have hP : va_P (dC, dI) vwCl [(h0, .inr (0, [.int x1, .int x2, .int x3, .int x4, .int 0, .int 0]))] H := hP
  have hD : va_D (fun q => q = h0) [(h0, .inr (0, [.int x1, .int x2, .int x3, .int x4, .int 0, .int 0]))] := hD
  refine lv_aload_n hx hb dX0_init_44 rfl (lv_at hl 0 rfl) ?_
  refine lv_aload_n hx hb dX0_init_45 rfl (lv_at hl 0 rfl) ?_
  refine va_get (D := (dC, dI)) (ci := 0) (v := .int x4) (C := RX0) (T := TX0) (N := 6) hx hb htf hiX0 hown hK hP 0 rfl rfl 3 (by decide) (htf _ wk33) (fun _ h9 => h9) rfl dX0_init_46 ?_
  refine lv_iconst (v := 1) hx hb dX0_init_49 (by decide) ?_
  refine lv_aload_n hx hb dX0_init_50 rfl (lv_at hl 0 rfl) ?_
  refine va_get (D := (dC, dI)) (ci := 0) (v := .int x2) (C := RX0) (T := TX0) (N := 6) hx hb htf hiX0 hown hK hP 0 rfl rfl 1 (by decide) (htf _ wk30) (fun _ h9 => h9) rfl dX0_init_51 ?_
  refine lv_iconst (v := 1) hx hb dX0_init_54 (by decide) ?_
  refine lv_isub hx hb dX0_init_55 ?_
  refine lv_ishl hx hb dX0_init_56 ?_
  refine fw_topi (x := fc_ishl 1 (x2 - 1)) ?_
  refine lv_ior hx hb dX0_init_57 ?_
  refine lv_topi (fun x5 ex5 => ?_)
  refine va_putF (D := (dC, dI)) (ci := 0) (v := .int x5) (ty := .int) (C := RX0) (T := TX0) (N := 6) hx hb htf hiX0 tyX0 tyX0_ok nmX0 hown hK hP hD hS 0 rfl rfl 4 (by decide) (htf _ wk34) (fun _ h9 => h9) rfl hin rfl (by decide +kernel) rfl rfl (Nat.le_of_ble_eq_true rfl) dX0_init_58 (fun H locs hP hD hS => ?_)
  have hP : va_P (dC, dI) vwCl [(h0, .inr (0, [.int x1, .int x2, .int x3, .int x4, .int x5, .int 0]))] H := hP
  have hD : va_D (fun q => q = h0) [(h0, .inr (0, [.int x1, .int x2, .int x3, .int x4, .int x5, .int 0]))] := hD
  refine lv_iconst (v := 1) hx hb dX0_init_61 (by decide) ?_
  refine lv_iload_n hx hb dX0_init_62 rfl (lv_at hl 1 rfl) ?_
  refine lv_iconst (v := 1) hx hb dX0_init_63 (by decide) ?_
  refine lv_isub hx hb dX0_init_64 ?_
  refine lv_ishl hx hb dX0_init_65 ?_
  refine fw_topi (x := fc_ishl 1 (p1 - 1)) ?_
  refine lv_iconst (v := 1) hx hb dX0_init_66 (by decide) ?_
  refine lv_isub hx hb dX0_init_67 ?_
  refine lv_topi (fun x6 ex6 => ?_)
  refine lv_istore_n (lv' := [(3, .int x6), (0, .ref h0), (1, .int p1), (2, .int p2)]) hx hb dX0_init_68 rfl hl (by decide) rfl (fun ls hl => ?_)
  refine lv_aload_n hx hb dX0_init_69 rfl (lv_at hl 1 rfl) ?_
  refine lv_iconst (v := 1) hx hb dX0_init_70 (by decide) ?_
  refine lv_iload_n hx hb dX0_init_71 rfl (lv_at hl 0 rfl) ?_
  refine lv_isub hx hb dX0_init_72 ?_
  refine lv_aload_n hx hb dX0_init_73 rfl (lv_at hl 1 rfl) ?_
  refine va_get (D := (dC, dI)) (ci := 0) (v := .int x2) (C := RX0) (T := TX0) (N := 6) hx hb htf hiX0 hown hK hP 0 rfl rfl 1 (by decide) (htf _ wk30) (fun _ h9 => h9) rfl dX0_init_74 ?_
  refine lv_isub hx hb dX0_init_77 ?_
  refine lv_topi (fun x7 ex7 => ?_)
  refine va_putF (D := (dC, dI)) (ci := 0) (v := .int x7) (ty := .int) (C := RX0) (T := TX0) (N := 6) hx hb htf hiX0 tyX0 tyX0_ok nmX0 hown hK hP hD hS 0 rfl rfl 5 (by decide) (htf _ wk36) (fun _ h9 => h9) rfl hin rfl (by decide +kernel) rfl rfl (Nat.le_of_ble_eq_true rfl) dX0_init_78 (fun H locs hP hD hS => ?_)
  have hP : va_P (dC, dI) vwCl [(h0, .inr (0, [.int x1, .int x2, .int x3, .int x4, .int x5, .int x7]))] H := hP
  have hD : va_D (fun q => q = h0) [(h0, .inr (0, [.int x1, .int x2, .int x3, .int x4, .int x5, .int x7]))] := hD
  exact W.vret hx hb hr (fun t ht hW => ⟨rfl, by subst ex7 ex6 ex5 ex4 ex3 ex2 ex1; rw [ht]; exact hP, hS.F ht⟩) hS.2.2 dX0_init_81
