theorem ndX6_extreme : yX6_extreme.cls = RX6 ∧ yX6_extreme.cls ≠ "java/lang/invoke/MethodHandle" ∧ yX6_extreme.cls ≠ "java/lang/invoke/VarHandle" ∧ (parseMethodDescriptor yX6_extreme.desc).map (fun d => d.parameters.length) = some 4 := by decide +kernel
def fm_X6_extreme_s13 (h0_format : Int32) (h0_code : Int32) (h0_minus : Bool) (h0_m : Int64) (h0_power : Int32) (h0_infinite : Bool) (h0_none : Bool) (p1 : Bool) (p2 : Int64) (p3 : Int64) (p4 : Int32) (z1 : fw_S7) (z11 : Int64 × fw_S7) : Int64 × fw_S7 := (z11.1, z11.2.1, z11.2.2.1, z11.2.2.2.1, z11.2.2.2.2.1, z11.2.2.2.2.2.1, z11.2.2.2.2.2.2.1, z11.2.2.2.2.2.2.2)
def fm_X6_extreme_s3 (h0_format : Int32) (h0_code : Int32) (h0_minus : Bool) (h0_m : Int64) (h0_power : Int32) (h0_infinite : Bool) (h0_none : Bool) (p1 : Bool) (p2 : Int64) (p3 : Int64) (p4 : Int32) (z1 : fw_S7) : Int64 × fw_S7 := fm_X6_extreme_s13 h0_format h0_code h0_minus h0_m h0_power h0_infinite h0_none p1 p2 p3 p4 z1 (fm_X6_canonical z1.1 z1.2.1 z1.2.2.1 z1.2.2.2.1 z1.2.2.2.2.1 z1.2.2.2.2.2.1 z1.2.2.2.2.2.2 p3 p4)
def fm_X6_extreme_s6 (h0_format : Int32) (h0_code : Int32) (h0_minus : Bool) (h0_m : Int64) (h0_power : Int32) (h0_infinite : Bool) (h0_none : Bool) (p1 : Bool) (p2 : Int64) (p3 : Int64) (p4 : Int32) (z1 : fw_S7) (z3 : fw_S7) : Int64 × fw_S7 := (p2, z3.1, z3.2.1, z3.2.2.1, z3.2.2.2.1, z3.2.2.2.2.1, z3.2.2.2.2.2.1, z3.2.2.2.2.2.2)
def fm_X6_extreme_s8 (h0_format : Int32) (h0_code : Int32) (h0_minus : Bool) (h0_m : Int64) (h0_power : Int32) (h0_infinite : Bool) (h0_none : Bool) (p1 : Bool) (p2 : Int64) (p3 : Int64) (p4 : Int32) (z1 : fw_S7) (z3 : fw_S7) (z5 : Int32 × fw_S7) : Int64 × fw_S7 := (p3, z5.2.1, z5.2.2.1, z5.2.2.2.1, z5.2.2.2.2.1, z5.2.2.2.2.2.1, z5.2.2.2.2.2.2.1, z5.2.2.2.2.2.2.2)
def fm_X6_extreme_s11 (h0_format : Int32) (h0_code : Int32) (h0_minus : Bool) (h0_m : Int64) (h0_power : Int32) (h0_infinite : Bool) (h0_none : Bool) (p1 : Bool) (p2 : Int64) (p3 : Int64) (p4 : Int32) (z1 : fw_S7) (z3 : fw_S7) (z5 : Int32 × fw_S7) (x7 : Bool) : Int64 × fw_S7 := (p2, z5.2.1, z5.2.2.1, z5.2.2.2.1, z5.2.2.2.2.1, z5.2.2.2.2.2.1, z5.2.2.2.2.2.2.1, z5.2.2.2.2.2.2.2)
def fm_X6_extreme_s12 (h0_format : Int32) (h0_code : Int32) (h0_minus : Bool) (h0_m : Int64) (h0_power : Int32) (h0_infinite : Bool) (h0_none : Bool) (p1 : Bool) (p2 : Int64) (p3 : Int64) (p4 : Int32) (z1 : fw_S7) (z3 : fw_S7) (z5 : Int32 × fw_S7) (x7 : Bool) : Int64 × fw_S7 := (p3, z5.2.1, z5.2.2.1, z5.2.2.2.1, z5.2.2.2.2.1, z5.2.2.2.2.2.1, z5.2.2.2.2.2.2.1, z5.2.2.2.2.2.2.2)
def fm_X6_extreme_s10 (h0_format : Int32) (h0_code : Int32) (h0_minus : Bool) (h0_m : Int64) (h0_power : Int32) (h0_infinite : Bool) (h0_none : Bool) (p1 : Bool) (p2 : Int64) (p3 : Int64) (p4 : Int32) (z1 : fw_S7) (z3 : fw_S7) (z5 : Int32 × fw_S7) (x7 : Bool) : Int64 × fw_S7 := if (jb x7) = (jb p1) then fm_X6_extreme_s11 h0_format h0_code h0_minus h0_m h0_power h0_infinite h0_none p1 p2 p3 p4 z1 z3 z5 x7 else fm_X6_extreme_s12 h0_format h0_code h0_minus h0_m h0_power h0_infinite h0_none p1 p2 p3 p4 z1 z3 z5 x7
def fm_X6_extreme_s9 (h0_format : Int32) (h0_code : Int32) (h0_minus : Bool) (h0_m : Int64) (h0_power : Int32) (h0_infinite : Bool) (h0_none : Bool) (p1 : Bool) (p2 : Int64) (p3 : Int64) (p4 : Int32) (z1 : fw_S7) (z3 : fw_S7) (z5 : Int32 × fw_S7) : Int64 × fw_S7 := fm_X6_extreme_s10 h0_format h0_code h0_minus h0_m h0_power h0_infinite h0_none p1 p2 p3 p4 z1 z3 z5 (if 0 ≤ z5.1 then false else true)
def fm_X6_extreme_s7 (h0_format : Int32) (h0_code : Int32) (h0_minus : Bool) (h0_m : Int64) (h0_power : Int32) (h0_infinite : Bool) (h0_none : Bool) (p1 : Bool) (p2 : Int64) (p3 : Int64) (p4 : Int32) (z1 : fw_S7) (z3 : fw_S7) (z5 : Int32 × fw_S7) : Int64 × fw_S7 := if z5.1 = 0 then fm_X6_extreme_s8 h0_format h0_code h0_minus h0_m h0_power h0_infinite h0_none p1 p2 p3 p4 z1 z3 z5 else fm_X6_extreme_s9 h0_format h0_code h0_minus h0_m h0_power h0_infinite h0_none p1 p2 p3 p4 z1 z3 z5
def fm_X6_extreme_s5 (h0_format : Int32) (h0_code : Int32) (h0_minus : Bool) (h0_m : Int64) (h0_power : Int32) (h0_infinite : Bool) (h0_none : Bool) (p1 : Bool) (p2 : Int64) (p3 : Int64) (p4 : Int32) (z1 : fw_S7) (z3 : fw_S7) : Int64 × fw_S7 := fm_X6_extreme_s7 h0_format h0_code h0_minus h0_m h0_power h0_infinite h0_none p1 p2 p3 p4 z1 z3 (fm_X6_order z3.1 z3.2.1 z3.2.2.1 z3.2.2.2.1 z3.2.2.2.2.1 z3.2.2.2.2.2.1 z3.2.2.2.2.2.2 p2 p3 p4)
def fm_X6_extreme_s4 (h0_format : Int32) (h0_code : Int32) (h0_minus : Bool) (h0_m : Int64) (h0_power : Int32) (h0_infinite : Bool) (h0_none : Bool) (p1 : Bool) (p2 : Int64) (p3 : Int64) (p4 : Int32) (z1 : fw_S7) (z3 : fw_S7) : Int64 × fw_S7 := if (jb z3.2.2.2.2.2.2) = 0 then fm_X6_extreme_s5 h0_format h0_code h0_minus h0_m h0_power h0_infinite h0_none p1 p2 p3 p4 z1 z3 else fm_X6_extreme_s6 h0_format h0_code h0_minus h0_m h0_power h0_infinite h0_none p1 p2 p3 p4 z1 z3
def fm_X6_extreme_s2 (h0_format : Int32) (h0_code : Int32) (h0_minus : Bool) (h0_m : Int64) (h0_power : Int32) (h0_infinite : Bool) (h0_none : Bool) (p1 : Bool) (p2 : Int64) (p3 : Int64) (p4 : Int32) (z1 : fw_S7) : Int64 × fw_S7 := fm_X6_extreme_s4 h0_format h0_code h0_minus h0_m h0_power h0_infinite h0_none p1 p2 p3 p4 z1 (fm_X6_take z1.1 z1.2.1 z1.2.2.1 z1.2.2.2.1 z1.2.2.2.2.1 z1.2.2.2.2.2.1 z1.2.2.2.2.2.2 p3 p4)
def fm_X6_extreme_s1 (h0_format : Int32) (h0_code : Int32) (h0_minus : Bool) (h0_m : Int64) (h0_power : Int32) (h0_infinite : Bool) (h0_none : Bool) (p1 : Bool) (p2 : Int64) (p3 : Int64) (p4 : Int32) (z1 : fw_S7) : Int64 × fw_S7 := if (jb z1.2.2.2.2.2.2) = 0 then fm_X6_extreme_s2 h0_format h0_code h0_minus h0_m h0_power h0_infinite h0_none p1 p2 p3 p4 z1 else fm_X6_extreme_s3 h0_format h0_code h0_minus h0_m h0_power h0_infinite h0_none p1 p2 p3 p4 z1
def fm_X6_extreme (h0_format : Int32) (h0_code : Int32) (h0_minus : Bool) (h0_m : Int64) (h0_power : Int32) (h0_infinite : Bool) (h0_none : Bool) (p1 : Bool) (p2 : Int64) (p3 : Int64) (p4 : Int32) : Int64 × fw_S7 := fm_X6_extreme_s1 h0_format h0_code h0_minus h0_m h0_power h0_infinite h0_none p1 p2 p3 p4 (fm_X6_take h0_format h0_code h0_minus h0_m h0_power h0_infinite h0_none p2 p4)
-- SIMP X6_extreme: fm_X6_extreme, fm_X6_extreme_s1, fm_X6_extreme_s2, fm_X6_extreme_s4, fm_X6_extreme_s5, fm_X6_extreme_s7, fm_X6_extreme_s9, fm_X6_extreme_s10, fm_X6_extreme_s12, fm_X6_extreme_s11, fm_X6_extreme_s8, fm_X6_extreme_s6, fm_X6_extreme_s3, fm_X6_extreme_s13
set_option maxHeartbeats 4000000 in
set_option maxRecDepth 100000 in
theorem k_X6_extreme (l : Launch) (dC : Nat → ClassId) (dI : Nat → Nat → Nat) (h0 : Nat) (h0_format : Int32) (h0_code : Int32) (h0_minus : Bool) (h0_m : Int64) (h0_power : Int32) (h0_infinite : Bool) (h0_none : Bool) (p1 : Bool) (p2 : Int64) (p3 : Int64) (p4 : Int32) : Met l yX6_extreme wsX6_extreme { frames := 3, cells := 0, slots := 0, locals := 80 } (fw_R (dC, dI) vwCl [(h0, .inr (3, [.int h0_format, .int h0_code, .int (jb h0_minus), .long h0_m, .int h0_power, .int (jb h0_infinite), .int (jb h0_none)]))] [.ref h0, .int (jb p1), .long p2, .long p3, .int p4]) (fw_M (dC, dI) vwCl h0 3 (fw_sl (fm_X6_extreme h0_format h0_code h0_minus h0_m h0_power h0_infinite h0_none p1 p2 p3 p4).2) (some (.long ((fm_X6_extreme h0_format h0_code h0_minus h0_m h0_power h0_infinite h0_none p1 p2 p3 p4).1)))) 0 0 (fun q => q = h0) := by
  refine Met.ofW (cc := cX6_extreme) (maxL := 8) (ret := (some .long)) (by decide) rfl ?_
  intro p e s m args below meth c s₁ B hml hv
  obtain ⟨rfl, hP, hK⟩ := hv
  have hx := B.exec
  have hb := B.bytes
  have hr := B.returns
  have hts := atoms_spec (ws := wsX6_extreme) B.pre
  have htf : ∀ w ∈ fc_all, w.before _ s = true := fun w h => hts w (List.mem_cons_of_mem _ h)
  have hown : s.vm.findClass RX6 = some m.cls := findClass_of_methodNamed B.named
  have hlocks := B.notSynchronized
  have hP : va_P (dC, dI) vwCl [(h0, .inr (3, [.int h0_format, .int h0_code, .int (jb h0_minus), .long h0_m, .int h0_power, .int (jb h0_infinite), .int (jb h0_none)]))] s.heap := hP
  have hD : va_D (fun q => q = h0) [(h0, .inr (3, [.int h0_format, .int h0_code, .int (jb h0_minus), .long h0_m, .int h0_power, .int (jb h0_infinite), .int (jb h0_none)]))] := fw_D1 rfl
  have hS : va_S (fun q => q = h0) s.heap s.heap [] := va_S.rf
  have hl := lv_entry ([.ref h0, .int (jb p1), .long p2, .long p3, .int p4]) (n := 8) (Nat.le_of_ble_eq_true rfl)
  rw [lg_entry_eq]
  generalize (lg_sl ([.ref h0, .int (jb p1), .long p2, .long p3, .int p4]) ++ List.replicate (8 - (lg_sl ([.ref h0, .int (jb p1), .long p2, .long p3, .int p4])).length) Slot.unset).toArray = ls at hl ⊢
  have hl : lv_has ls 8 [(0, .ref h0), (1, .int (jb p1)), (2, .long p2), (4, .long p3), (6, .int p4)] := hl
  have hT : fm_X6_extreme h0_format h0_code h0_minus h0_m h0_power h0_infinite h0_none p1 p2 p3 p4 = fm_X6_extreme h0_format h0_code h0_minus h0_m h0_power h0_infinite h0_none p1 p2 p3 p4 := rfl
  refine lv_aload_n hx hb dX6_extreme_0 rfl (lv_at hl 0 rfl) ?_
  refine lv_lload_n hx hb dX6_extreme_1 rfl (lv_at hl 2 rfl) ?_
  refine lv_iload hx hb dX6_extreme_2 (lv_at hl 4 rfl) ?_
  refine fw_callM (va_runV (As := [.long p2, .int p4]) (rest := []) ⟨hx, hb, hml, hown, htf⟩ (k_X6_take l dC dI h0 h0_format h0_code h0_minus h0_m h0_power h0_infinite h0_none p2 p4) (cwV 2 htf (gd_V wk400 wk401 ws9 wk3 wk402) rfl rfl rfl ndX6_take ⟨Nat.le_of_ble_eq_true rfl, Nat.le_of_ble_eq_true rfl⟩) (fw_RV (va_recv hK hP (ci := 3) (q0 := 0) rfl rfl) hP hK) rfl rfl hl.1 rfl (lv_room (Nat.le_of_ble_eq_true rfl)) dX6_extreme_4 ⟨Nat.le_refl _, Nat.le_refl _⟩) hS rfl (fun H locs hP _ _ hS => ?_)
  have hT : fm_X6_extreme h0_format h0_code h0_minus h0_m h0_power h0_infinite h0_none p1 p2 p3 p4 = fm_X6_extreme_s1 h0_format h0_code h0_minus h0_m h0_power h0_infinite h0_none p1 p2 p3 p4 (fm_X6_take h0_format h0_code h0_minus h0_m h0_power h0_infinite h0_none p2 p4) := hT
  generalize ez1 : fm_X6_take h0_format h0_code h0_minus h0_m h0_power h0_infinite h0_none p2 p4 = z1 at hP hT ⊢
  have hP : va_P (dC, dI) vwCl [(h0, .inr (3, [.int z1.1, .int z1.2.1, .int (jb z1.2.2.1), .long z1.2.2.2.1, .int z1.2.2.2.2.1, .int (jb z1.2.2.2.2.2.1), .int (jb z1.2.2.2.2.2.2)]))] H := hP
  have hD : va_D (fun q => q = h0) [(h0, .inr (3, [.int z1.1, .int z1.2.1, .int (jb z1.2.2.1), .long z1.2.2.2.1, .int z1.2.2.2.2.1, .int (jb z1.2.2.2.2.2.1), .int (jb z1.2.2.2.2.2.2)]))] := fw_D1 rfl
  refine W.eq (g2 := F0 m 7 ls []) rfl ?_
  refine lv_aload_n hx hb dX6_extreme_7 rfl (lv_at hl 0 rfl) ?_
  refine va_get (D := (dC, dI)) (ci := 3) (v := .int (jb z1.2.2.2.2.2.2)) (C := RX6) (T := TX6) (N := 7) hx hb htf hiX6 hown hK hP 0 rfl rfl 6 (by decide) (htf _ wk357) (fun _ h9 => h9) rfl dX6_extreme_8 ?_
  refine lv_if_eq (tgt := 23) hx hb dX6_extreme_11 (by decide) (fun c2 => ?_) (fun c2 => ?_)
  · have hT : fm_X6_extreme h0_format h0_code h0_minus h0_m h0_power h0_infinite h0_none p1 p2 p3 p4 = fm_X6_extreme_s2 h0_format h0_code h0_minus h0_m h0_power h0_infinite h0_none p1 p2 p3 p4 z1 := hT.trans (if_pos c2)
    refine lv_aload_n hx hb dX6_extreme_23 rfl (lv_at hl 0 rfl) ?_
    refine lv_lload hx hb dX6_extreme_24 (lv_at hl 3 rfl) ?_
    refine lv_iload hx hb dX6_extreme_26 (lv_at hl 4 rfl) ?_
    refine fw_callM (va_runV (As := [.long p3, .int p4]) (rest := []) ⟨hx, hb, hml, hown, htf⟩ (k_X6_take l dC dI h0 z1.1 z1.2.1 z1.2.2.1 z1.2.2.2.1 z1.2.2.2.2.1 z1.2.2.2.2.2.1 z1.2.2.2.2.2.2 p3 p4) (cwV 2 htf (gd_V wk400 wk401 ws9 wk3 wk402) rfl rfl rfl ndX6_take ⟨Nat.le_of_ble_eq_true rfl, Nat.le_of_ble_eq_true rfl⟩) (fw_RV (va_recv hK hP (ci := 3) (q0 := 0) rfl rfl) hP hK) rfl rfl hl.1 rfl (lv_room (Nat.le_of_ble_eq_true rfl)) dX6_extreme_28 ⟨Nat.le_refl _, Nat.le_refl _⟩) hS rfl (fun H locs hP _ _ hS => ?_)
    have hT : fm_X6_extreme h0_format h0_code h0_minus h0_m h0_power h0_infinite h0_none p1 p2 p3 p4 = fm_X6_extreme_s4 h0_format h0_code h0_minus h0_m h0_power h0_infinite h0_none p1 p2 p3 p4 z1 (fm_X6_take z1.1 z1.2.1 z1.2.2.1 z1.2.2.2.1 z1.2.2.2.2.1 z1.2.2.2.2.2.1 z1.2.2.2.2.2.2 p3 p4) := hT
    generalize ez3 : fm_X6_take z1.1 z1.2.1 z1.2.2.1 z1.2.2.2.1 z1.2.2.2.2.1 z1.2.2.2.2.2.1 z1.2.2.2.2.2.2 p3 p4 = z3 at hP hT ⊢
    have hP : va_P (dC, dI) vwCl [(h0, .inr (3, [.int z3.1, .int z3.2.1, .int (jb z3.2.2.1), .long z3.2.2.2.1, .int z3.2.2.2.2.1, .int (jb z3.2.2.2.2.2.1), .int (jb z3.2.2.2.2.2.2)]))] H := hP
    have hD : va_D (fun q => q = h0) [(h0, .inr (3, [.int z3.1, .int z3.2.1, .int (jb z3.2.2.1), .long z3.2.2.2.1, .int z3.2.2.2.2.1, .int (jb z3.2.2.2.2.2.1), .int (jb z3.2.2.2.2.2.2)]))] := fw_D1 rfl
    refine W.eq (g2 := F0 m 31 ls []) rfl ?_
    refine lv_aload_n hx hb dX6_extreme_31 rfl (lv_at hl 0 rfl) ?_
    refine va_get (D := (dC, dI)) (ci := 3) (v := .int (jb z3.2.2.2.2.2.2)) (C := RX6) (T := TX6) (N := 7) hx hb htf hiX6 hown hK hP 0 rfl rfl 6 (by decide) (htf _ wk357) (fun _ h9 => h9) rfl dX6_extreme_32 ?_
    refine lv_if_eq (tgt := 40) hx hb dX6_extreme_35 (by decide) (fun c4 => ?_) (fun c4 => ?_)
    · have hT : fm_X6_extreme h0_format h0_code h0_minus h0_m h0_power h0_infinite h0_none p1 p2 p3 p4 = fm_X6_extreme_s5 h0_format h0_code h0_minus h0_m h0_power h0_infinite h0_none p1 p2 p3 p4 z1 z3 := hT.trans (if_pos c4)
      refine lv_aload_n hx hb dX6_extreme_40 rfl (lv_at hl 0 rfl) ?_
      refine lv_lload_n hx hb dX6_extreme_41 rfl (lv_at hl 2 rfl) ?_
      refine lv_lload hx hb dX6_extreme_42 (lv_at hl 3 rfl) ?_
      refine lv_iload hx hb dX6_extreme_44 (lv_at hl 4 rfl) ?_
      refine fw_callM (va_runV (As := [.long p2, .long p3, .int p4]) (rest := []) ⟨hx, hb, hml, hown, htf⟩ (k_X6_order l dC dI h0 z3.1 z3.2.1 z3.2.2.1 z3.2.2.2.1 z3.2.2.2.2.1 z3.2.2.2.2.2.1 z3.2.2.2.2.2.2 p2 p3 p4) (cwV 3 htf (gd_V wk441 wk442 ws14 wk3 wk443) rfl rfl rfl ndX6_order ⟨Nat.le_of_ble_eq_true rfl, Nat.le_of_ble_eq_true rfl⟩) (fw_RV (va_recv hK hP (ci := 3) (q0 := 0) rfl rfl) hP hK) rfl rfl hl.1 rfl (lv_room (Nat.le_of_ble_eq_true rfl)) dX6_extreme_46 ⟨Nat.le_refl _, Nat.le_refl _⟩) hS rfl (fun H locs hP _ _ hS => ?_)
      have hT : fm_X6_extreme h0_format h0_code h0_minus h0_m h0_power h0_infinite h0_none p1 p2 p3 p4 = fm_X6_extreme_s7 h0_format h0_code h0_minus h0_m h0_power h0_infinite h0_none p1 p2 p3 p4 z1 z3 (fm_X6_order z3.1 z3.2.1 z3.2.2.1 z3.2.2.2.1 z3.2.2.2.2.1 z3.2.2.2.2.2.1 z3.2.2.2.2.2.2 p2 p3 p4) := hT
      generalize ez5 : fm_X6_order z3.1 z3.2.1 z3.2.2.1 z3.2.2.2.1 z3.2.2.2.2.1 z3.2.2.2.2.2.1 z3.2.2.2.2.2.2 p2 p3 p4 = z5 at hP hT ⊢
      have hP : va_P (dC, dI) vwCl [(h0, .inr (3, [.int z5.2.1, .int z5.2.2.1, .int (jb z5.2.2.2.1), .long z5.2.2.2.2.1, .int z5.2.2.2.2.2.1, .int (jb z5.2.2.2.2.2.2.1), .int (jb z5.2.2.2.2.2.2.2)]))] H := hP
      have hD : va_D (fun q => q = h0) [(h0, .inr (3, [.int z5.2.1, .int z5.2.2.1, .int (jb z5.2.2.2.1), .long z5.2.2.2.2.1, .int z5.2.2.2.2.2.1, .int (jb z5.2.2.2.2.2.2.1), .int (jb z5.2.2.2.2.2.2.2)]))] := fw_D1 rfl
      refine W.eq (g2 := F0 m 49 ls [.int z5.1]) rfl ?_
      refine lv_istore (lv' := [(7, .int z5.1), (0, .ref h0), (1, .int (jb p1)), (2, .long p2), (4, .long p3), (6, .int p4)]) hx hb dX6_extreme_49 hl (by decide) rfl (fun ls hl => ?_)
      refine lv_iload hx hb dX6_extreme_51 (lv_at hl 0 rfl) ?_
      refine lv_if_ne (tgt := 61) hx hb dX6_extreme_53 (by decide) (fun c6 => ?_) (fun c6 => ?_)
      · have hT : fm_X6_extreme h0_format h0_code h0_minus h0_m h0_power h0_infinite h0_none p1 p2 p3 p4 = fm_X6_extreme_s9 h0_format h0_code h0_minus h0_m h0_power h0_infinite h0_none p1 p2 p3 p4 z1 z3 z5 := hT.trans (if_neg c6)
        refine lv_iload hx hb dX6_extreme_61 (lv_at hl 0 rfl) ?_
        refine fw_join (j := 71) (ι := Bool) (LS := fun i ls => lv_has ls 8 [(7, .int z5.1), (0, .ref h0), (1, .int (jb p1)), (2, .long p2), (4, .long p3), (6, .int p4)] ∧ i = (if 0 ≤ z5.1 then false else true)) (ST := fun i => [.int (jb i)]) ?_ (fun J8 => ?_)
        rotate_left
        · refine lv_if_ge (tgt := 70) hx hb dX6_extreme_63 (by decide) (fun c9 => ?_) (fun c9 => ?_)
          · refine lv_iconst (v := 0) hx hb dX6_extreme_70 (by decide) ?_
            exact J8 false ls ⟨lv_sub hl [0, 1, 2, 3, 4, 5] rfl, by simp only [if_pos c9] <;> first | assumption | contradiction⟩
          · refine lv_iconst (v := 1) hx hb dX6_extreme_66 (by decide) ?_
            refine lv_goto (tgt := 71) hx hb dX6_extreme_67 (by decide) ?_
            exact J8 true ls ⟨lv_sub hl [0, 1, 2, 3, 4, 5] rfl, by simp only [if_neg c9] <;> first | assumption | contradiction⟩
        rintro x7 ls ⟨hl, ex7⟩
        try dsimp only at hl ex7 ⊢
        have hT : fm_X6_extreme h0_format h0_code h0_minus h0_m h0_power h0_infinite h0_none p1 p2 p3 p4 = fm_X6_extreme_s10 h0_format h0_code h0_minus h0_m h0_power h0_infinite h0_none p1 p2 p3 p4 z1 z3 z5 x7 := by rw [ex7]; exact hT
        refine lv_iload_n hx hb dX6_extreme_71 rfl (lv_at hl 2 rfl) ?_
        refine lv_icmp_ne (tgt := 79) hx hb dX6_extreme_72 (by decide) (fun c10 => ?_) (fun c10 => ?_)
        · have hT : fm_X6_extreme h0_format h0_code h0_minus h0_m h0_power h0_infinite h0_none p1 p2 p3 p4 = fm_X6_extreme_s12 h0_format h0_code h0_minus h0_m h0_power h0_infinite h0_none p1 p2 p3 p4 z1 z3 z5 x7 := hT.trans (if_neg c10)
          refine lv_lload hx hb dX6_extreme_79 (lv_at hl 4 rfl) ?_
          have hEQ : fm_X6_extreme h0_format h0_code h0_minus h0_m h0_power h0_infinite h0_none p1 p2 p3 p4 = (p3, z5.2.1, z5.2.2.1, z5.2.2.2.1, z5.2.2.2.2.1, z5.2.2.2.2.2.1, z5.2.2.2.2.2.2.1, z5.2.2.2.2.2.2.2) := hT
          exact W.lret (v := p3) hx hb hr (fun t ht hW => ⟨by simp only [hEQ], by rw [ht]; simp only [hEQ, fw_sl]; exact hP, hS.F ht⟩) hS.2.2 dX6_extreme_81
        · have hT : fm_X6_extreme h0_format h0_code h0_minus h0_m h0_power h0_infinite h0_none p1 p2 p3 p4 = fm_X6_extreme_s11 h0_format h0_code h0_minus h0_m h0_power h0_infinite h0_none p1 p2 p3 p4 z1 z3 z5 x7 := hT.trans (if_pos c10)
          refine lv_lload_n hx hb dX6_extreme_75 rfl (lv_at hl 3 rfl) ?_
          refine lv_goto (tgt := 81) hx hb dX6_extreme_76 (by decide) ?_
          have hEQ : fm_X6_extreme h0_format h0_code h0_minus h0_m h0_power h0_infinite h0_none p1 p2 p3 p4 = (p2, z5.2.1, z5.2.2.1, z5.2.2.2.1, z5.2.2.2.2.1, z5.2.2.2.2.2.1, z5.2.2.2.2.2.2.1, z5.2.2.2.2.2.2.2) := hT
          exact W.lret (v := p2) hx hb hr (fun t ht hW => ⟨by simp only [hEQ], by rw [ht]; simp only [hEQ, fw_sl]; exact hP, hS.F ht⟩) hS.2.2 dX6_extreme_81
      · have hT : fm_X6_extreme h0_format h0_code h0_minus h0_m h0_power h0_infinite h0_none p1 p2 p3 p4 = fm_X6_extreme_s8 h0_format h0_code h0_minus h0_m h0_power h0_infinite h0_none p1 p2 p3 p4 z1 z3 z5 := hT.trans (if_pos c6)
        refine lv_lload hx hb dX6_extreme_56 (lv_at hl 4 rfl) ?_
        refine lv_goto (tgt := 81) hx hb dX6_extreme_58 (by decide) ?_
        have hEQ : fm_X6_extreme h0_format h0_code h0_minus h0_m h0_power h0_infinite h0_none p1 p2 p3 p4 = (p3, z5.2.1, z5.2.2.1, z5.2.2.2.1, z5.2.2.2.2.1, z5.2.2.2.2.2.1, z5.2.2.2.2.2.2.1, z5.2.2.2.2.2.2.2) := hT
        exact W.lret (v := p3) hx hb hr (fun t ht hW => ⟨by simp only [hEQ], by rw [ht]; simp only [hEQ, fw_sl]; exact hP, hS.F ht⟩) hS.2.2 dX6_extreme_81
    · have hT : fm_X6_extreme h0_format h0_code h0_minus h0_m h0_power h0_infinite h0_none p1 p2 p3 p4 = fm_X6_extreme_s6 h0_format h0_code h0_minus h0_m h0_power h0_infinite h0_none p1 p2 p3 p4 z1 z3 := hT.trans (if_neg c4)
      refine lv_lload_n hx hb dX6_extreme_38 rfl (lv_at hl 2 rfl) ?_
      have hEQ : fm_X6_extreme h0_format h0_code h0_minus h0_m h0_power h0_infinite h0_none p1 p2 p3 p4 = (p2, z3.1, z3.2.1, z3.2.2.1, z3.2.2.2.1, z3.2.2.2.2.1, z3.2.2.2.2.2.1, z3.2.2.2.2.2.2) := hT
      exact W.lret (v := p2) hx hb hr (fun t ht hW => ⟨by simp only [hEQ], by rw [ht]; simp only [hEQ, fw_sl]; exact hP, hS.F ht⟩) hS.2.2 dX6_extreme_39
  · have hT : fm_X6_extreme h0_format h0_code h0_minus h0_m h0_power h0_infinite h0_none p1 p2 p3 p4 = fm_X6_extreme_s3 h0_format h0_code h0_minus h0_m h0_power h0_infinite h0_none p1 p2 p3 p4 z1 := hT.trans (if_neg c2)
    refine lv_aload_n hx hb dX6_extreme_14 rfl (lv_at hl 0 rfl) ?_
    refine lv_lload hx hb dX6_extreme_15 (lv_at hl 3 rfl) ?_
    refine lv_iload hx hb dX6_extreme_17 (lv_at hl 4 rfl) ?_
    refine fw_callM (va_runV (As := [.long p3, .int p4]) (rest := []) ⟨hx, hb, hml, hown, htf⟩ (k_X6_canonical l dC dI h0 z1.1 z1.2.1 z1.2.2.1 z1.2.2.2.1 z1.2.2.2.2.1 z1.2.2.2.2.2.1 z1.2.2.2.2.2.2 p3 p4) (cwV 2 htf (gd_V wk423 wk424 ws10 wk3 wk425) rfl rfl rfl ndX6_canonical ⟨Nat.le_of_ble_eq_true rfl, Nat.le_of_ble_eq_true rfl⟩) (fw_RV (va_recv hK hP (ci := 3) (q0 := 0) rfl rfl) hP hK) rfl rfl hl.1 rfl (lv_room (Nat.le_of_ble_eq_true rfl)) dX6_extreme_19 ⟨Nat.le_refl _, Nat.le_refl _⟩) hS rfl (fun H locs hP _ _ hS => ?_)
    have hT : fm_X6_extreme h0_format h0_code h0_minus h0_m h0_power h0_infinite h0_none p1 p2 p3 p4 = fm_X6_extreme_s13 h0_format h0_code h0_minus h0_m h0_power h0_infinite h0_none p1 p2 p3 p4 z1 (fm_X6_canonical z1.1 z1.2.1 z1.2.2.1 z1.2.2.2.1 z1.2.2.2.2.1 z1.2.2.2.2.2.1 z1.2.2.2.2.2.2 p3 p4) := hT
    generalize ez11 : fm_X6_canonical z1.1 z1.2.1 z1.2.2.1 z1.2.2.2.1 z1.2.2.2.2.1 z1.2.2.2.2.2.1 z1.2.2.2.2.2.2 p3 p4 = z11 at hP hT ⊢
    have hP : va_P (dC, dI) vwCl [(h0, .inr (3, [.int z11.2.1, .int z11.2.2.1, .int (jb z11.2.2.2.1), .long z11.2.2.2.2.1, .int z11.2.2.2.2.2.1, .int (jb z11.2.2.2.2.2.2.1), .int (jb z11.2.2.2.2.2.2.2)]))] H := hP
    have hD : va_D (fun q => q = h0) [(h0, .inr (3, [.int z11.2.1, .int z11.2.2.1, .int (jb z11.2.2.2.1), .long z11.2.2.2.2.1, .int z11.2.2.2.2.2.1, .int (jb z11.2.2.2.2.2.2.1), .int (jb z11.2.2.2.2.2.2.2)]))] := fw_D1 rfl
    refine W.eq (g2 := F0 m 22 ls [.long z11.1]) rfl ?_
    have hEQ : fm_X6_extreme h0_format h0_code h0_minus h0_m h0_power h0_infinite h0_none p1 p2 p3 p4 = (z11.1, z11.2.1, z11.2.2.1, z11.2.2.2.1, z11.2.2.2.2.1, z11.2.2.2.2.2.1, z11.2.2.2.2.2.2.1, z11.2.2.2.2.2.2.2) := hT
    exact W.lret (v := z11.1) hx hb hr (fun t ht hW => ⟨by simp only [hEQ], by rw [ht]; simp only [hEQ, fw_sl]; exact hP, hS.F ht⟩) hS.2.2 dX6_extreme_22
