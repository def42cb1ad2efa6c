theorem ndX6_order : yX6_order.cls = RX6 ∧ yX6_order.cls ≠ "java/lang/invoke/MethodHandle" ∧ yX6_order.cls ≠ "java/lang/invoke/VarHandle" ∧ (parseMethodDescriptor yX6_order.desc).map (fun d => d.parameters.length) = some 3 := by decide +kernel
def fm_X6_order_s8 (h0_format : Int32) (h0_code : Int32) (h0_minus : Bool) (h0_m : Int64) (h0_power : Int32) (h0_infinite : Bool) (h0_none : Bool) (p1 : Int64) (p2 : Int64) (p3 : Int32) (z1 : fw_S7) (x2 : Int64) (z8 : fw_S7) (x9 : Int64) : Int32 × fw_S7 := (2, z8.1, z8.2.1, z8.2.2.1, z8.2.2.2.1, z8.2.2.2.2.1, z8.2.2.2.2.2.1, z8.2.2.2.2.2.2)
def fm_X6_order_s10 (h0_format : Int32) (h0_code : Int32) (h0_minus : Bool) (h0_m : Int64) (h0_power : Int32) (h0_infinite : Bool) (h0_none : Bool) (p1 : Int64) (p2 : Int64) (p3 : Int32) (z1 : fw_S7) (x2 : Int64) (z8 : fw_S7) (x9 : Int64) : Int32 × fw_S7 := ((-1), z8.1, z8.2.1, z8.2.2.1, z8.2.2.2.1, z8.2.2.2.2.1, z8.2.2.2.2.2.1, z8.2.2.2.2.2.2)
def fm_X6_order_s12 (h0_format : Int32) (h0_code : Int32) (h0_minus : Bool) (h0_m : Int64) (h0_power : Int32) (h0_infinite : Bool) (h0_none : Bool) (p1 : Int64) (p2 : Int64) (p3 : Int32) (z1 : fw_S7) (x2 : Int64) (z8 : fw_S7) (x9 : Int64) : Int32 × fw_S7 := (1, z8.1, z8.2.1, z8.2.2.1, z8.2.2.2.1, z8.2.2.2.2.1, z8.2.2.2.2.2.1, z8.2.2.2.2.2.2)
def fm_X6_order_s11 (h0_format : Int32) (h0_code : Int32) (h0_minus : Bool) (h0_m : Int64) (h0_power : Int32) (h0_infinite : Bool) (h0_none : Bool) (p1 : Int64) (p2 : Int64) (p3 : Int32) (z1 : fw_S7) (x2 : Int64) (z8 : fw_S7) (x9 : Int64) : Int32 × fw_S7 := (0, z8.1, z8.2.1, z8.2.2.1, z8.2.2.2.1, z8.2.2.2.2.1, z8.2.2.2.2.2.1, z8.2.2.2.2.2.2)
def fm_X6_order_s9 (h0_format : Int32) (h0_code : Int32) (h0_minus : Bool) (h0_m : Int64) (h0_power : Int32) (h0_infinite : Bool) (h0_none : Bool) (p1 : Int64) (p2 : Int64) (p3 : Int32) (z1 : fw_S7) (x2 : Int64) (z8 : fw_S7) (x9 : Int64) : Int32 × fw_S7 := if (lg_cmp x2 x9) ≤ 0 then fm_X6_order_s11 h0_format h0_code h0_minus h0_m h0_power h0_infinite h0_none p1 p2 p3 z1 x2 z8 x9 else fm_X6_order_s12 h0_format h0_code h0_minus h0_m h0_power h0_infinite h0_none p1 p2 p3 z1 x2 z8 x9
def fm_X6_order_s7 (h0_format : Int32) (h0_code : Int32) (h0_minus : Bool) (h0_m : Int64) (h0_power : Int32) (h0_infinite : Bool) (h0_none : Bool) (p1 : Int64) (p2 : Int64) (p3 : Int32) (z1 : fw_S7) (x2 : Int64) (z8 : fw_S7) (x9 : Int64) : Int32 × fw_S7 := if 0 ≤ (lg_cmp x2 x9) then fm_X6_order_s9 h0_format h0_code h0_minus h0_m h0_power h0_infinite h0_none p1 p2 p3 z1 x2 z8 x9 else fm_X6_order_s10 h0_format h0_code h0_minus h0_m h0_power h0_infinite h0_none p1 p2 p3 z1 x2 z8 x9
def fm_X6_order_s5 (h0_format : Int32) (h0_code : Int32) (h0_minus : Bool) (h0_m : Int64) (h0_power : Int32) (h0_infinite : Bool) (h0_none : Bool) (p1 : Int64) (p2 : Int64) (p3 : Int32) (z1 : fw_S7) (x2 : Int64) (z8 : fw_S7) (x9 : Int64) : Int32 × fw_S7 := if (jb z8.2.2.2.2.2.2) = 0 then fm_X6_order_s7 h0_format h0_code h0_minus h0_m h0_power h0_infinite h0_none p1 p2 p3 z1 x2 z8 x9 else fm_X6_order_s8 h0_format h0_code h0_minus h0_m h0_power h0_infinite h0_none p1 p2 p3 z1 x2 z8 x9
def fm_X6_order_s6 (h0_format : Int32) (h0_code : Int32) (h0_minus : Bool) (h0_m : Int64) (h0_power : Int32) (h0_infinite : Bool) (h0_none : Bool) (p1 : Int64) (p2 : Int64) (p3 : Int32) (z1 : fw_S7) (x2 : Int64) (z8 : fw_S7) (x9 : Int64) : Int32 × fw_S7 := (2, z8.1, z8.2.1, z8.2.2.1, z8.2.2.2.1, z8.2.2.2.2.1, z8.2.2.2.2.2.1, z8.2.2.2.2.2.2)
def fm_X6_order_s4 (h0_format : Int32) (h0_code : Int32) (h0_minus : Bool) (h0_m : Int64) (h0_power : Int32) (h0_infinite : Bool) (h0_none : Bool) (p1 : Int64) (p2 : Int64) (p3 : Int32) (z1 : fw_S7) (x2 : Int64) (z8 : fw_S7) (x9 : Int64) : Int32 × fw_S7 := if (jb z1.2.2.2.2.2.2) = 0 then fm_X6_order_s5 h0_format h0_code h0_minus h0_m h0_power h0_infinite h0_none p1 p2 p3 z1 x2 z8 x9 else fm_X6_order_s6 h0_format h0_code h0_minus h0_m h0_power h0_infinite h0_none p1 p2 p3 z1 x2 z8 x9
def fm_X6_order_s3 (h0_format : Int32) (h0_code : Int32) (h0_minus : Bool) (h0_m : Int64) (h0_power : Int32) (h0_infinite : Bool) (h0_none : Bool) (p1 : Int64) (p2 : Int64) (p3 : Int32) (z1 : fw_S7) (x2 : Int64) (z8 : fw_S7) : Int32 × fw_S7 := fm_X6_order_s4 h0_format h0_code h0_minus h0_m h0_power h0_infinite h0_none p1 p2 p3 z1 x2 z8 (if (lg_cmp z8.2.2.2.1 0) = 0 then (if (jb z8.2.2.2.2.2.1) = 0 then 0 else (if (jb z8.2.2.1) = 0 then p2 else 0 - (p2 &&& (fm_X6_mask ((fm_X6_width p3) - 1))))) else (if (jb z8.2.2.1) = 0 then p2 else 0 - (p2 &&& (fm_X6_mask ((fm_X6_width p3) - 1)))))
def fm_X6_order_s2 (h0_format : Int32) (h0_code : Int32) (h0_minus : Bool) (h0_m : Int64) (h0_power : Int32) (h0_infinite : Bool) (h0_none : Bool) (p1 : Int64) (p2 : Int64) (p3 : Int32) (z1 : fw_S7) (x2 : Int64) : Int32 × fw_S7 := fm_X6_order_s3 h0_format h0_code h0_minus h0_m h0_power h0_infinite h0_none p1 p2 p3 z1 x2 (fm_X6_take z1.1 z1.2.1 z1.2.2.1 z1.2.2.2.1 z1.2.2.2.2.1 z1.2.2.2.2.2.1 z1.2.2.2.2.2.2 p2 p3)
def fm_X6_order_s1 (h0_format : Int32) (h0_code : Int32) (h0_minus : Bool) (h0_m : Int64) (h0_power : Int32) (h0_infinite : Bool) (h0_none : Bool) (p1 : Int64) (p2 : Int64) (p3 : Int32) (z1 : fw_S7) : Int32 × fw_S7 := fm_X6_order_s2 h0_format h0_code h0_minus h0_m h0_power h0_infinite h0_none p1 p2 p3 z1 (if (lg_cmp z1.2.2.2.1 0) = 0 then (if (jb z1.2.2.2.2.2.1) = 0 then 0 else (if (jb z1.2.2.1) = 0 then p1 else 0 - (p1 &&& (fm_X6_mask ((fm_X6_width p3) - 1))))) else (if (jb z1.2.2.1) = 0 then p1 else 0 - (p1 &&& (fm_X6_mask ((fm_X6_width p3) - 1)))))
def fm_X6_order (h0_format : Int32) (h0_code : Int32) (h0_minus : Bool) (h0_m : Int64) (h0_power : Int32) (h0_infinite : Bool) (h0_none : Bool) (p1 : Int64) (p2 : Int64) (p3 : Int32) : Int32 × fw_S7 := fm_X6_order_s1 h0_format h0_code h0_minus h0_m h0_power h0_infinite h0_none p1 p2 p3 (fm_X6_take h0_format h0_code h0_minus h0_m h0_power h0_infinite h0_none p1 p3)
-- SIMP X6_order: fm_X6_order, fm_X6_order_s1, fm_X6_order_s2, fm_X6_order_s3, fm_X6_order_s4, fm_X6_order_s6, fm_X6_order_s5, fm_X6_order_s7, fm_X6_order_s9, fm_X6_order_s11, fm_X6_order_s12, fm_X6_order_s10, fm_X6_order_s8
set_option maxHeartbeats 4000000 in
set_option maxRecDepth 100000 in
theorem k_X6_order (l : Launch) (dC : Nat → ClassId) (dI : Nat → Nat → Nat) (h0 : Nat) (h0_format : Int32) (h0_code : Int32) (h0_minus : Bool) (h0_m : Int64) (h0_power : Int32) (h0_infinite : Bool) (h0_none : Bool) (p1 : Int64) (p2 : Int64) (p3 : Int32) : Met l yX6_order wsX6_order { frames := 2, cells := 0, slots := 0, locals := 50 } (fw_R (dC, dI) vwCl [(h0, .inr (3, [.int h0_format, .int h0_code, .int (jb h0_minus), .long h0_m, .int h0_power, .int (jb h0_infinite), .int (jb h0_none)]))] [.ref h0, .long p1, .long p2, .int p3]) (fw_M (dC, dI) vwCl h0 3 (fw_sl (fm_X6_order h0_format h0_code h0_minus h0_m h0_power h0_infinite h0_none p1 p2 p3).2) (some (.int ((fm_X6_order h0_format h0_code h0_minus h0_m h0_power h0_infinite h0_none p1 p2 p3).1)))) 0 0 (fun q => q = h0) := by
  refine Met.ofW (cc := cX6_order) (maxL := 11) (ret := (some .int)) (by decide) rfl ?_
  intro p e s m args below meth c s₁ B hml hv
  obtain ⟨rfl, hP, hK⟩ := hv
  have hx := B.exec
  have hb := B.bytes
  have hr := B.returns
  have hts := atoms_spec (ws := wsX6_order) B.pre
  have htf : ∀ w ∈ fc_all, w.before _ s = true := fun w h => hts w (List.mem_cons_of_mem _ h)
  have hown : s.vm.findClass RX6 = some m.cls := findClass_of_methodNamed B.named
  have hlocks := B.notSynchronized
  have hP : va_P (dC, dI) vwCl [(h0, .inr (3, [.int h0_format, .int h0_code, .int (jb h0_minus), .long h0_m, .int h0_power, .int (jb h0_infinite), .int (jb h0_none)]))] s.heap := hP
  have hD : va_D (fun q => q = h0) [(h0, .inr (3, [.int h0_format, .int h0_code, .int (jb h0_minus), .long h0_m, .int h0_power, .int (jb h0_infinite), .int (jb h0_none)]))] := fw_D1 rfl
  have hS : va_S (fun q => q = h0) s.heap s.heap [] := va_S.rf
  have hl := lv_entry ([.ref h0, .long p1, .long p2, .int p3]) (n := 11) (Nat.le_of_ble_eq_true rfl)
  rw [lg_entry_eq]
  generalize (lg_sl ([.ref h0, .long p1, .long p2, .int p3]) ++ List.replicate (11 - (lg_sl ([.ref h0, .long p1, .long p2, .int p3])).length) Slot.unset).toArray = ls at hl ⊢
  have hl : lv_has ls 11 [(0, .ref h0), (1, .long p1), (3, .long p2), (5, .int p3)] := hl
  have hT : fm_X6_order h0_format h0_code h0_minus h0_m h0_power h0_infinite h0_none p1 p2 p3 = fm_X6_order h0_format h0_code h0_minus h0_m h0_power h0_infinite h0_none p1 p2 p3 := rfl
  refine lv_aload_n hx hb dX6_order_0 rfl (lv_at hl 0 rfl) ?_
  refine lv_lload_n hx hb dX6_order_1 rfl (lv_at hl 1 rfl) ?_
  refine lv_iload hx hb dX6_order_2 (lv_at hl 3 rfl) ?_
  refine fw_callM (va_runV (As := [.long p1, .int p3]) (rest := []) ⟨hx, hb, hml, hown, htf⟩ (k_X6_take l dC dI h0 h0_format h0_code h0_minus h0_m h0_power h0_infinite h0_none p1 p3) (cwV 2 htf (gd_V wk400 wk401 ws9 wk3 wk402) rfl rfl rfl ndX6_take ⟨Nat.le_of_ble_eq_true rfl, Nat.le_of_ble_eq_true rfl⟩) (fw_RV (va_recv hK hP (ci := 3) (q0 := 0) rfl rfl) hP hK) rfl rfl hl.1 rfl (lv_room (Nat.le_of_ble_eq_true rfl)) dX6_order_4 ⟨Nat.le_refl _, Nat.le_refl _⟩) hS rfl (fun H locs hP _ _ hS => ?_)
  have hT : fm_X6_order h0_format h0_code h0_minus h0_m h0_power h0_infinite h0_none p1 p2 p3 = fm_X6_order_s1 h0_format h0_code h0_minus h0_m h0_power h0_infinite h0_none p1 p2 p3 (fm_X6_take h0_format h0_code h0_minus h0_m h0_power h0_infinite h0_none p1 p3) := hT
  generalize ez1 : fm_X6_take h0_format h0_code h0_minus h0_m h0_power h0_infinite h0_none p1 p3 = z1 at hP hT ⊢
  have hP : va_P (dC, dI) vwCl [(h0, .inr (3, [.int z1.1, .int z1.2.1, .int (jb z1.2.2.1), .long z1.2.2.2.1, .int z1.2.2.2.2.1, .int (jb z1.2.2.2.2.2.1), .int (jb z1.2.2.2.2.2.2)]))] H := hP
  have hD : va_D (fun q => q = h0) [(h0, .inr (3, [.int z1.1, .int z1.2.1, .int (jb z1.2.2.1), .long z1.2.2.2.1, .int z1.2.2.2.2.1, .int (jb z1.2.2.2.2.2.1), .int (jb z1.2.2.2.2.2.2)]))] := fw_D1 rfl
  refine W.eq (g2 := F0 m 7 ls []) rfl ?_
  refine lv_aload_n hx hb dX6_order_7 rfl (lv_at hl 0 rfl) ?_
  refine va_get (D := (dC, dI)) (ci := 3) (v := .int (jb z1.2.2.2.2.2.2)) (C := RX6) (T := TX6) (N := 7) hx hb htf hiX6 hown hK hP 0 rfl rfl 6 (by decide) (htf _ wk357) (fun _ h9 => h9) rfl dX6_order_8 ?_
  refine lv_istore (lv' := [(6, .int (jb z1.2.2.2.2.2.2)), (0, .ref h0), (1, .long p1), (3, .long p2), (5, .int p3)]) hx hb dX6_order_11 hl (by decide) rfl (fun ls hl => ?_)
  refine lv_aload_n hx hb dX6_order_13 rfl (lv_at hl 1 rfl) ?_
  refine va_get (D := (dC, dI)) (ci := 3) (v := .long z1.2.2.2.1) (C := RX6) (T := TX6) (N := 7) hx hb htf hiX6 hown hK hP 0 rfl rfl 3 (by decide) (htf _ wk354) (fun _ h9 => h9) rfl dX6_order_14 ?_
  refine lv_lconst (v := 0) hx hb dX6_order_17 (by decide) ?_
  refine W.lcmp hx hb dX6_order_18 ?_
  refine fw_join (j := 58) (ι := Int64) (LS := fun i ls => lv_has ls 11 [(6, .int (jb z1.2.2.2.2.2.2)), (0, .ref h0), (1, .long p1), (3, .long p2), (5, .int p3)] ∧ i = (if (lg_cmp z1.2.2.2.1 0) = 0 then (if (jb z1.2.2.2.2.2.1) = 0 then 0 else (if (jb z1.2.2.1) = 0 then p1 else 0 - (p1 &&& (fm_X6_mask ((fm_X6_width p3) - 1))))) else (if (jb z1.2.2.1) = 0 then p1 else 0 - (p1 &&& (fm_X6_mask ((fm_X6_width p3) - 1)))))) (ST := fun i => [.long i]) ?_ (fun J3 => ?_)
  rotate_left
  · refine lv_if_ne (tgt := 33) hx hb dX6_order_19 (by decide) (fun c4 => ?_) (fun c4 => ?_)
    · refine lv_aload_n hx hb dX6_order_33 rfl (lv_at hl 1 rfl) ?_
      refine va_get (D := (dC, dI)) (ci := 3) (v := .int (jb z1.2.2.1)) (C := RX6) (T := TX6) (N := 7) hx hb htf hiX6 hown hK hP 0 rfl rfl 2 (by decide) (htf _ wk353) (fun _ h9 => h9) rfl dX6_order_34 ?_
      refine lv_if_eq (tgt := 57) hx hb dX6_order_37 (by decide) (fun c5 => ?_) (fun c5 => ?_)
      · refine lv_lload_n hx hb dX6_order_57 rfl (lv_at hl 2 rfl) ?_
        exact J3 p1 ls ⟨lv_sub hl [0, 1, 2, 3, 4] rfl, by simp only [if_neg c4, if_pos c5] <;> first | assumption | contradiction⟩
      · refine lv_lconst (v := 0) hx hb dX6_order_40 (by decide) ?_
        refine lv_lload_n hx hb dX6_order_41 rfl (lv_at hl 2 rfl) ?_
        refine lv_iload hx hb dX6_order_42 (lv_at hl 4 rfl) ?_
        refine fw_call (va_runS (As := [.int p3]) (rest := [.long p1, .long 0]) ⟨hx, hb, hml, hown, htf⟩ (k_X6_width l p3) (va_cwS 1 htf (gd_S wk382 wk383 wk3 wk384) rfl rfl rfl ndX6_width ⟨Nat.le_of_ble_eq_true rfl, Nat.le_of_ble_eq_true rfl⟩) fw_PS rfl rfl hl.1 rfl (lv_room (Nat.le_of_ble_eq_true rfl)) dX6_order_44 ⟨Nat.le_refl _, Nat.le_refl _⟩) ?_
        refine lv_iconst (v := 1) hx hb dX6_order_47 (by decide) ?_
        refine lv_isub hx hb dX6_order_48 ?_
        refine fw_call (va_runS (As := [.int ((fm_X6_width p3) - 1)]) (rest := [.long p1, .long 0]) ⟨hx, hb, hml, hown, htf⟩ (k_X6_mask l ((fm_X6_width p3) - 1)) (va_cwS 1 htf (gd_S wk391 wk392 wk3 wk393) rfl rfl rfl ndX6_mask ⟨Nat.le_of_ble_eq_true rfl, Nat.le_of_ble_eq_true rfl⟩) fw_PS rfl rfl hl.1 rfl (lv_room (Nat.le_of_ble_eq_true rfl)) dX6_order_49 ⟨Nat.le_refl _, Nat.le_refl _⟩) ?_
        refine lv_land hx hb dX6_order_52 ?_
        refine lv_lsub hx hb dX6_order_53 ?_
        refine lv_goto (tgt := 58) hx hb dX6_order_54 (by decide) ?_
        exact J3 (0 - (p1 &&& (fm_X6_mask ((fm_X6_width p3) - 1)))) ls ⟨lv_sub hl [0, 1, 2, 3, 4] rfl, by simp only [if_neg c4, if_neg c5] <;> first | assumption | contradiction⟩
    · refine lv_aload_n hx hb dX6_order_22 rfl (lv_at hl 1 rfl) ?_
      refine va_get (D := (dC, dI)) (ci := 3) (v := .int (jb z1.2.2.2.2.2.1)) (C := RX6) (T := TX6) (N := 7) hx hb htf hiX6 hown hK hP 0 rfl rfl 5 (by decide) (htf _ wk356) (fun _ h9 => h9) rfl dX6_order_23 ?_
      refine lv_if_ne (tgt := 33) hx hb dX6_order_26 (by decide) (fun c6 => ?_) (fun c6 => ?_)
      · refine lv_aload_n hx hb dX6_order_33 rfl (lv_at hl 1 rfl) ?_
        refine va_get (D := (dC, dI)) (ci := 3) (v := .int (jb z1.2.2.1)) (C := RX6) (T := TX6) (N := 7) hx hb htf hiX6 hown hK hP 0 rfl rfl 2 (by decide) (htf _ wk353) (fun _ h9 => h9) rfl dX6_order_34 ?_
        refine lv_if_eq (tgt := 57) hx hb dX6_order_37 (by decide) (fun c7 => ?_) (fun c7 => ?_)
        · refine lv_lload_n hx hb dX6_order_57 rfl (lv_at hl 2 rfl) ?_
          exact J3 p1 ls ⟨lv_sub hl [0, 1, 2, 3, 4] rfl, by simp only [if_pos c4, if_neg c6, if_pos c7] <;> first | assumption | contradiction⟩
        · refine lv_lconst (v := 0) hx hb dX6_order_40 (by decide) ?_
          refine lv_lload_n hx hb dX6_order_41 rfl (lv_at hl 2 rfl) ?_
          refine lv_iload hx hb dX6_order_42 (lv_at hl 4 rfl) ?_
          refine fw_call (va_runS (As := [.int p3]) (rest := [.long p1, .long 0]) ⟨hx, hb, hml, hown, htf⟩ (k_X6_width l p3) (va_cwS 1 htf (gd_S wk382 wk383 wk3 wk384) rfl rfl rfl ndX6_width ⟨Nat.le_of_ble_eq_true rfl, Nat.le_of_ble_eq_true rfl⟩) fw_PS rfl rfl hl.1 rfl (lv_room (Nat.le_of_ble_eq_true rfl)) dX6_order_44 ⟨Nat.le_refl _, Nat.le_refl _⟩) ?_
          refine lv_iconst (v := 1) hx hb dX6_order_47 (by decide) ?_
          refine lv_isub hx hb dX6_order_48 ?_
          refine fw_call (va_runS (As := [.int ((fm_X6_width p3) - 1)]) (rest := [.long p1, .long 0]) ⟨hx, hb, hml, hown, htf⟩ (k_X6_mask l ((fm_X6_width p3) - 1)) (va_cwS 1 htf (gd_S wk391 wk392 wk3 wk393) rfl rfl rfl ndX6_mask ⟨Nat.le_of_ble_eq_true rfl, Nat.le_of_ble_eq_true rfl⟩) fw_PS rfl rfl hl.1 rfl (lv_room (Nat.le_of_ble_eq_true rfl)) dX6_order_49 ⟨Nat.le_refl _, Nat.le_refl _⟩) ?_
          refine lv_land hx hb dX6_order_52 ?_
          refine lv_lsub hx hb dX6_order_53 ?_
          refine lv_goto (tgt := 58) hx hb dX6_order_54 (by decide) ?_
          exact J3 (0 - (p1 &&& (fm_X6_mask ((fm_X6_width p3) - 1)))) ls ⟨lv_sub hl [0, 1, 2, 3, 4] rfl, by simp only [if_pos c4, if_neg c6, if_neg c7] <;> first | assumption | contradiction⟩
      · refine lv_lconst (v := 0) hx hb dX6_order_29 (by decide) ?_
        refine lv_goto (tgt := 58) hx hb dX6_order_30 (by decide) ?_
        exact J3 0 ls ⟨lv_sub hl [0, 1, 2, 3, 4] rfl, by simp only [if_pos c4, if_pos c6] <;> first | assumption | contradiction⟩
  rintro x2 ls ⟨hl, ex2⟩
  try dsimp only at hl ex2 ⊢
  have hT : fm_X6_order h0_format h0_code h0_minus h0_m h0_power h0_infinite h0_none p1 p2 p3 = fm_X6_order_s2 h0_format h0_code h0_minus h0_m h0_power h0_infinite h0_none p1 p2 p3 z1 x2 := by rw [ex2]; exact hT
  refine lv_lstore (lv' := [(7, .long x2), (6, .int (jb z1.2.2.2.2.2.2)), (0, .ref h0), (1, .long p1), (3, .long p2), (5, .int p3)]) hx hb dX6_order_58 hl (by decide) rfl (fun ls hl => ?_)
  refine lv_aload_n hx hb dX6_order_60 rfl (lv_at hl 2 rfl) ?_
  refine lv_lload_n hx hb dX6_order_61 rfl (lv_at hl 4 rfl) ?_
  refine lv_iload hx hb dX6_order_62 (lv_at hl 5 rfl) ?_
  refine fw_callM (va_runV (As := [.long p2, .int p3]) (rest := []) ⟨hx, hb, hml, hown, htf⟩ (k_X6_take l dC dI h0 z1.1 z1.2.1 z1.2.2.1 z1.2.2.2.1 z1.2.2.2.2.1 z1.2.2.2.2.2.1 z1.2.2.2.2.2.2 p2 p3) (cwV 2 htf (gd_V wk400 wk401 ws9 wk3 wk402) rfl rfl rfl ndX6_take ⟨Nat.le_of_ble_eq_true rfl, Nat.le_of_ble_eq_true rfl⟩) (fw_RV (va_recv hK hP (ci := 3) (q0 := 0) rfl rfl) hP hK) rfl rfl hl.1 rfl (lv_room (Nat.le_of_ble_eq_true rfl)) dX6_order_64 ⟨Nat.le_refl _, Nat.le_refl _⟩) hS rfl (fun H locs hP _ _ hS => ?_)
  have hT : fm_X6_order h0_format h0_code h0_minus h0_m h0_power h0_infinite h0_none p1 p2 p3 = fm_X6_order_s3 h0_format h0_code h0_minus h0_m h0_power h0_infinite h0_none p1 p2 p3 z1 x2 (fm_X6_take z1.1 z1.2.1 z1.2.2.1 z1.2.2.2.1 z1.2.2.2.2.1 z1.2.2.2.2.2.1 z1.2.2.2.2.2.2 p2 p3) := hT
  generalize ez8 : fm_X6_take z1.1 z1.2.1 z1.2.2.1 z1.2.2.2.1 z1.2.2.2.2.1 z1.2.2.2.2.2.1 z1.2.2.2.2.2.2 p2 p3 = z8 at hP hT ⊢
  have hP : va_P (dC, dI) vwCl [(h0, .inr (3, [.int z8.1, .int z8.2.1, .int (jb z8.2.2.1), .long z8.2.2.2.1, .int z8.2.2.2.2.1, .int (jb z8.2.2.2.2.2.1), .int (jb z8.2.2.2.2.2.2)]))] H := hP
  have hD : va_D (fun q => q = h0) [(h0, .inr (3, [.int z8.1, .int z8.2.1, .int (jb z8.2.2.1), .long z8.2.2.2.1, .int z8.2.2.2.2.1, .int (jb z8.2.2.2.2.2.1), .int (jb z8.2.2.2.2.2.2)]))] := fw_D1 rfl
  refine W.eq (g2 := F0 m 67 ls []) rfl ?_
  refine lv_aload_n hx hb dX6_order_67 rfl (lv_at hl 2 rfl) ?_
  refine va_get (D := (dC, dI)) (ci := 3) (v := .long z8.2.2.2.1) (C := RX6) (T := TX6) (N := 7) hx hb htf hiX6 hown hK hP 0 rfl rfl 3 (by decide) (htf _ wk354) (fun _ h9 => h9) rfl dX6_order_68 ?_
  refine lv_lconst (v := 0) hx hb dX6_order_71 (by decide) ?_
  refine W.lcmp hx hb dX6_order_72 ?_
  refine fw_join (j := 112) (ι := Int64) (LS := fun i ls => lv_has ls 11 [(7, .long x2), (6, .int (jb z1.2.2.2.2.2.2)), (0, .ref h0), (1, .long p1), (3, .long p2), (5, .int p3)] ∧ i = (if (lg_cmp z8.2.2.2.1 0) = 0 then (if (jb z8.2.2.2.2.2.1) = 0 then 0 else (if (jb z8.2.2.1) = 0 then p2 else 0 - (p2 &&& (fm_X6_mask ((fm_X6_width p3) - 1))))) else (if (jb z8.2.2.1) = 0 then p2 else 0 - (p2 &&& (fm_X6_mask ((fm_X6_width p3) - 1)))))) (ST := fun i => [.long i]) ?_ (fun J10 => ?_)
  rotate_left
  · refine lv_if_ne (tgt := 87) hx hb dX6_order_73 (by decide) (fun c11 => ?_) (fun c11 => ?_)
    · refine lv_aload_n hx hb dX6_order_87 rfl (lv_at hl 2 rfl) ?_
      refine va_get (D := (dC, dI)) (ci := 3) (v := .int (jb z8.2.2.1)) (C := RX6) (T := TX6) (N := 7) hx hb htf hiX6 hown hK hP 0 rfl rfl 2 (by decide) (htf _ wk353) (fun _ h9 => h9) rfl dX6_order_88 ?_
      refine lv_if_eq (tgt := 111) hx hb dX6_order_91 (by decide) (fun c12 => ?_) (fun c12 => ?_)
      · refine lv_lload_n hx hb dX6_order_111 rfl (lv_at hl 4 rfl) ?_
        exact J10 p2 ls ⟨lv_sub hl [0, 1, 2, 3, 4, 5] rfl, by simp only [if_neg c11, if_pos c12] <;> first | assumption | contradiction⟩
      · refine lv_lconst (v := 0) hx hb dX6_order_94 (by decide) ?_
        refine lv_lload_n hx hb dX6_order_95 rfl (lv_at hl 4 rfl) ?_
        refine lv_iload hx hb dX6_order_96 (lv_at hl 5 rfl) ?_
        refine fw_call (va_runS (As := [.int p3]) (rest := [.long p2, .long 0]) ⟨hx, hb, hml, hown, htf⟩ (k_X6_width l p3) (va_cwS 1 htf (gd_S wk382 wk383 wk3 wk384) rfl rfl rfl ndX6_width ⟨Nat.le_of_ble_eq_true rfl, Nat.le_of_ble_eq_true rfl⟩) fw_PS rfl rfl hl.1 rfl (lv_room (Nat.le_of_ble_eq_true rfl)) dX6_order_98 ⟨Nat.le_refl _, Nat.le_refl _⟩) ?_
        refine lv_iconst (v := 1) hx hb dX6_order_101 (by decide) ?_
        refine lv_isub hx hb dX6_order_102 ?_
        refine fw_call (va_runS (As := [.int ((fm_X6_width p3) - 1)]) (rest := [.long p2, .long 0]) ⟨hx, hb, hml, hown, htf⟩ (k_X6_mask l ((fm_X6_width p3) - 1)) (va_cwS 1 htf (gd_S wk391 wk392 wk3 wk393) rfl rfl rfl ndX6_mask ⟨Nat.le_of_ble_eq_true rfl, Nat.le_of_ble_eq_true rfl⟩) fw_PS rfl rfl hl.1 rfl (lv_room (Nat.le_of_ble_eq_true rfl)) dX6_order_103 ⟨Nat.le_refl _, Nat.le_refl _⟩) ?_
        refine lv_land hx hb dX6_order_106 ?_
        refine lv_lsub hx hb dX6_order_107 ?_
        refine lv_goto (tgt := 112) hx hb dX6_order_108 (by decide) ?_
        exact J10 (0 - (p2 &&& (fm_X6_mask ((fm_X6_width p3) - 1)))) ls ⟨lv_sub hl [0, 1, 2, 3, 4, 5] rfl, by simp only [if_neg c11, if_neg c12] <;> first | assumption | contradiction⟩
    · refine lv_aload_n hx hb dX6_order_76 rfl (lv_at hl 2 rfl) ?_
      refine va_get (D := (dC, dI)) (ci := 3) (v := .int (jb z8.2.2.2.2.2.1)) (C := RX6) (T := TX6) (N := 7) hx hb htf hiX6 hown hK hP 0 rfl rfl 5 (by decide) (htf _ wk356) (fun _ h9 => h9) rfl dX6_order_77 ?_
      refine lv_if_ne (tgt := 87) hx hb dX6_order_80 (by decide) (fun c13 => ?_) (fun c13 => ?_)
      · refine lv_aload_n hx hb dX6_order_87 rfl (lv_at hl 2 rfl) ?_
        refine va_get (D := (dC, dI)) (ci := 3) (v := .int (jb z8.2.2.1)) (C := RX6) (T := TX6) (N := 7) hx hb htf hiX6 hown hK hP 0 rfl rfl 2 (by decide) (htf _ wk353) (fun _ h9 => h9) rfl dX6_order_88 ?_
        refine lv_if_eq (tgt := 111) hx hb dX6_order_91 (by decide) (fun c14 => ?_) (fun c14 => ?_)
        · refine lv_lload_n hx hb dX6_order_111 rfl (lv_at hl 4 rfl) ?_
          exact J10 p2 ls ⟨lv_sub hl [0, 1, 2, 3, 4, 5] rfl, by simp only [if_pos c11, if_neg c13, if_pos c14] <;> first | assumption | contradiction⟩
        · refine lv_lconst (v := 0) hx hb dX6_order_94 (by decide) ?_
          refine lv_lload_n hx hb dX6_order_95 rfl (lv_at hl 4 rfl) ?_
          refine lv_iload hx hb dX6_order_96 (lv_at hl 5 rfl) ?_
          refine fw_call (va_runS (As := [.int p3]) (rest := [.long p2, .long 0]) ⟨hx, hb, hml, hown, htf⟩ (k_X6_width l p3) (va_cwS 1 htf (gd_S wk382 wk383 wk3 wk384) rfl rfl rfl ndX6_width ⟨Nat.le_of_ble_eq_true rfl, Nat.le_of_ble_eq_true rfl⟩) fw_PS rfl rfl hl.1 rfl (lv_room (Nat.le_of_ble_eq_true rfl)) dX6_order_98 ⟨Nat.le_refl _, Nat.le_refl _⟩) ?_
          refine lv_iconst (v := 1) hx hb dX6_order_101 (by decide) ?_
          refine lv_isub hx hb dX6_order_102 ?_
          refine fw_call (va_runS (As := [.int ((fm_X6_width p3) - 1)]) (rest := [.long p2, .long 0]) ⟨hx, hb, hml, hown, htf⟩ (k_X6_mask l ((fm_X6_width p3) - 1)) (va_cwS 1 htf (gd_S wk391 wk392 wk3 wk393) rfl rfl rfl ndX6_mask ⟨Nat.le_of_ble_eq_true rfl, Nat.le_of_ble_eq_true rfl⟩) fw_PS rfl rfl hl.1 rfl (lv_room (Nat.le_of_ble_eq_true rfl)) dX6_order_103 ⟨Nat.le_refl _, Nat.le_refl _⟩) ?_
          refine lv_land hx hb dX6_order_106 ?_
          refine lv_lsub hx hb dX6_order_107 ?_
          refine lv_goto (tgt := 112) hx hb dX6_order_108 (by decide) ?_
          exact J10 (0 - (p2 &&& (fm_X6_mask ((fm_X6_width p3) - 1)))) ls ⟨lv_sub hl [0, 1, 2, 3, 4, 5] rfl, by simp only [if_pos c11, if_neg c13, if_neg c14] <;> first | assumption | contradiction⟩
      · refine lv_lconst (v := 0) hx hb dX6_order_83 (by decide) ?_
        refine lv_goto (tgt := 112) hx hb dX6_order_84 (by decide) ?_
        exact J10 0 ls ⟨lv_sub hl [0, 1, 2, 3, 4, 5] rfl, by simp only [if_pos c11, if_pos c13] <;> first | assumption | contradiction⟩
  rintro x9 ls ⟨hl, ex9⟩
  try dsimp only at hl ex9 ⊢
  have hT : fm_X6_order h0_format h0_code h0_minus h0_m h0_power h0_infinite h0_none p1 p2 p3 = fm_X6_order_s4 h0_format h0_code h0_minus h0_m h0_power h0_infinite h0_none p1 p2 p3 z1 x2 z8 x9 := by rw [ex9]; exact hT
  refine lv_lstore (lv' := [(9, .long x9), (7, .long x2), (6, .int (jb z1.2.2.2.2.2.2)), (0, .ref h0), (1, .long p1), (3, .long p2), (5, .int p3)]) hx hb dX6_order_112 hl (by decide) rfl (fun ls hl => ?_)
  refine lv_iload hx hb dX6_order_114 (lv_at hl 2 rfl) ?_
  refine lv_if_ne (tgt := 126) hx hb dX6_order_116 (by decide) (fun c15 => ?_) (fun c15 => ?_)
  · have hT : fm_X6_order h0_format h0_code h0_minus h0_m h0_power h0_infinite h0_none p1 p2 p3 = fm_X6_order_s6 h0_format h0_code h0_minus h0_m h0_power h0_infinite h0_none p1 p2 p3 z1 x2 z8 x9 := hT.trans (if_neg c15)
    refine lv_iconst (v := 2) hx hb dX6_order_126 (by decide) ?_
    refine lv_goto (tgt := 155) hx hb dX6_order_127 (by decide) ?_
    have hEQ : fm_X6_order h0_format h0_code h0_minus h0_m h0_power h0_infinite h0_none p1 p2 p3 = (2, z8.1, z8.2.1, z8.2.2.1, z8.2.2.2.1, z8.2.2.2.2.1, z8.2.2.2.2.2.1, z8.2.2.2.2.2.2) := hT
    exact W.iret (v := 2) hx hb hr (fun t ht hW => ⟨by simp only [hEQ], by rw [ht]; simp only [hEQ, fw_sl]; exact hP, hS.F ht⟩) hS.2.2 dX6_order_155
  · have hT : fm_X6_order h0_format h0_code h0_minus h0_m h0_power h0_infinite h0_none p1 p2 p3 = fm_X6_order_s5 h0_format h0_code h0_minus h0_m h0_power h0_infinite h0_none p1 p2 p3 z1 x2 z8 x9 := hT.trans (if_pos c15)
    refine lv_aload_n hx hb dX6_order_119 rfl (lv_at hl 3 rfl) ?_
    refine va_get (D := (dC, dI)) (ci := 3) (v := .int (jb z8.2.2.2.2.2.2)) (C := RX6) (T := TX6) (N := 7) hx hb htf hiX6 hown hK hP 0 rfl rfl 6 (by decide) (htf _ wk357) (fun _ h9 => h9) rfl dX6_order_120 ?_
    refine lv_if_eq (tgt := 130) hx hb dX6_order_123 (by decide) (fun c16 => ?_) (fun c16 => ?_)
    · have hT : fm_X6_order h0_format h0_code h0_minus h0_m h0_power h0_infinite h0_none p1 p2 p3 = fm_X6_order_s7 h0_format h0_code h0_minus h0_m h0_power h0_infinite h0_none p1 p2 p3 z1 x2 z8 x9 := hT.trans (if_pos c16)
      refine lv_lload hx hb dX6_order_130 (lv_at hl 1 rfl) ?_
      refine lv_lload hx hb dX6_order_132 (lv_at hl 0 rfl) ?_
      refine W.lcmp hx hb dX6_order_134 ?_
      refine lv_if_ge (tgt := 142) hx hb dX6_order_135 (by decide) (fun c17 => ?_) (fun c17 => ?_)
      · have hT : fm_X6_order h0_format h0_code h0_minus h0_m h0_power h0_infinite h0_none p1 p2 p3 = fm_X6_order_s9 h0_format h0_code h0_minus h0_m h0_power h0_infinite h0_none p1 p2 p3 z1 x2 z8 x9 := hT.trans (if_pos c17)
        refine lv_lload hx hb dX6_order_142 (lv_at hl 1 rfl) ?_
        refine lv_lload hx hb dX6_order_144 (lv_at hl 0 rfl) ?_
        refine W.lcmp hx hb dX6_order_146 ?_
        refine lv_if_le (tgt := 154) hx hb dX6_order_147 (by decide) (fun c18 => ?_) (fun c18 => ?_)
        · have hT : fm_X6_order h0_format h0_code h0_minus h0_m h0_power h0_infinite h0_none p1 p2 p3 = fm_X6_order_s11 h0_format h0_code h0_minus h0_m h0_power h0_infinite h0_none p1 p2 p3 z1 x2 z8 x9 := hT.trans (if_pos c18)
          refine lv_iconst (v := 0) hx hb dX6_order_154 (by decide) ?_
          have hEQ : fm_X6_order h0_format h0_code h0_minus h0_m h0_power h0_infinite h0_none p1 p2 p3 = (0, z8.1, z8.2.1, z8.2.2.1, z8.2.2.2.1, z8.2.2.2.2.1, z8.2.2.2.2.2.1, z8.2.2.2.2.2.2) := hT
          exact W.iret (v := 0) hx hb hr (fun t ht hW => ⟨by simp only [hEQ], by rw [ht]; simp only [hEQ, fw_sl]; exact hP, hS.F ht⟩) hS.2.2 dX6_order_155
        · have hT : fm_X6_order h0_format h0_code h0_minus h0_m h0_power h0_infinite h0_none p1 p2 p3 = fm_X6_order_s12 h0_format h0_code h0_minus h0_m h0_power h0_infinite h0_none p1 p2 p3 z1 x2 z8 x9 := hT.trans (if_neg c18)
          refine lv_iconst (v := 1) hx hb dX6_order_150 (by decide) ?_
          refine lv_goto (tgt := 155) hx hb dX6_order_151 (by decide) ?_
          have hEQ : fm_X6_order h0_format h0_code h0_minus h0_m h0_power h0_infinite h0_none p1 p2 p3 = (1, z8.1, z8.2.1, z8.2.2.1, z8.2.2.2.1, z8.2.2.2.2.1, z8.2.2.2.2.2.1, z8.2.2.2.2.2.2) := hT
          exact W.iret (v := 1) hx hb hr (fun t ht hW => ⟨by simp only [hEQ], by rw [ht]; simp only [hEQ, fw_sl]; exact hP, hS.F ht⟩) hS.2.2 dX6_order_155
      · have hT : fm_X6_order h0_format h0_code h0_minus h0_m h0_power h0_infinite h0_none p1 p2 p3 = fm_X6_order_s10 h0_format h0_code h0_minus h0_m h0_power h0_infinite h0_none p1 p2 p3 z1 x2 z8 x9 := hT.trans (if_neg c17)
        refine lv_iconst (v := (-1)) hx hb dX6_order_138 (by decide) ?_
        refine lv_goto (tgt := 155) hx hb dX6_order_139 (by decide) ?_
        have hEQ : fm_X6_order h0_format h0_code h0_minus h0_m h0_power h0_infinite h0_none p1 p2 p3 = ((-1), z8.1, z8.2.1, z8.2.2.1, z8.2.2.2.1, z8.2.2.2.2.1, z8.2.2.2.2.2.1, z8.2.2.2.2.2.2) := hT
        exact W.iret (v := (-1)) hx hb hr (fun t ht hW => ⟨by simp only [hEQ], by rw [ht]; simp only [hEQ, fw_sl]; exact hP, hS.F ht⟩) hS.2.2 dX6_order_155
    · have hT : fm_X6_order h0_format h0_code h0_minus h0_m h0_power h0_infinite h0_none p1 p2 p3 = fm_X6_order_s8 h0_format h0_code h0_minus h0_m h0_power h0_infinite h0_none p1 p2 p3 z1 x2 z8 x9 := hT.trans (if_neg c16)
      refine lv_iconst (v := 2) hx hb dX6_order_126 (by decide) ?_
      refine lv_goto (tgt := 155) hx hb dX6_order_127 (by decide) ?_
      have hEQ : fm_X6_order h0_format h0_code h0_minus h0_m h0_power h0_infinite h0_none p1 p2 p3 = (2, z8.1, z8.2.1, z8.2.2.1, z8.2.2.2.1, z8.2.2.2.2.1, z8.2.2.2.2.2.1, z8.2.2.2.2.2.2) := hT
      exact W.iret (v := 2) hx hb hr (fun t ht hW => ⟨by simp only [hEQ], by rw [ht]; simp only [hEQ, fw_sl]; exact hP, hS.F ht⟩) hS.2.2 dX6_order_155
