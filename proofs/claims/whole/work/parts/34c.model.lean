theorem ndX6_change : yX6_change.cls = RX6 ∧ yX6_change.cls ≠ "java/lang/invoke/MethodHandle" ∧ yX6_change.cls ≠ "java/lang/invoke/VarHandle" ∧ (parseMethodDescriptor yX6_change.desc).map (fun d => d.parameters.length) = some 3 := by decide +kernel
def fm_X6_change_s3 (h0_format : Int32) (h0_code : Int32) (h0_minus : Bool) (h0_m : Int64) (h0_power : Int32) (h0_infinite : Bool) (h0_none : Bool) (p1 : Int32) (p2 : Int32) (p3 : Int32) (x1 : Bool) (z6 : Bool × fw_S7) : Int32 × fw_S7 := (0, z6.2.1, z6.2.2.1, z6.2.2.2.1, z6.2.2.2.2.1, z6.2.2.2.2.2.1, z6.2.2.2.2.2.2.1, z6.2.2.2.2.2.2.2)
def fm_X6_change_s18 (h0_format : Int32) (h0_code : Int32) (h0_minus : Bool) (h0_m : Int64) (h0_power : Int32) (h0_infinite : Bool) (h0_none : Bool) (p1 : Int32) (p2 : Int32) (p3 : Int32) (x1 : Bool) (z6 : Bool × fw_S7) (z19 : Int64 × fw_S7) (z20 : Int64 × fw_S7) : Int32 × fw_S7 := (z20.1.toInt32, z20.2.1, z20.2.2.1, z20.2.2.2.1, z20.2.2.2.2.1, z20.2.2.2.2.2.1, z20.2.2.2.2.2.2.1, z20.2.2.2.2.2.2.2)
def fm_X6_change_s17 (h0_format : Int32) (h0_code : Int32) (h0_minus : Bool) (h0_m : Int64) (h0_power : Int32) (h0_infinite : Bool) (h0_none : Bool) (p1 : Int32) (p2 : Int32) (p3 : Int32) (x1 : Bool) (z6 : Bool × fw_S7) (z19 : Int64 × fw_S7) : Int32 × fw_S7 := fm_X6_change_s18 h0_format h0_code h0_minus h0_m h0_power h0_infinite h0_none p1 p2 p3 x1 z6 z19 (fm_X6_squareRoot z19.2.1 z19.2.2.1 z19.2.2.2.1 z19.2.2.2.2.1 z19.2.2.2.2.2.1 z19.2.2.2.2.2.2.1 z19.2.2.2.2.2.2.2 p2 z19.1 z19.2.1)
def fm_X6_change_s5 (h0_format : Int32) (h0_code : Int32) (h0_minus : Bool) (h0_m : Int64) (h0_power : Int32) (h0_infinite : Bool) (h0_none : Bool) (p1 : Int32) (p2 : Int32) (p3 : Int32) (x1 : Bool) (z6 : Bool × fw_S7) : Int32 × fw_S7 := fm_X6_change_s17 h0_format h0_code h0_minus h0_m h0_power h0_infinite h0_none p1 p2 p3 x1 z6 (fm_X6_canonical z6.2.1 z6.2.2.1 z6.2.2.2.1 z6.2.2.2.2.1 z6.2.2.2.2.2.1 z6.2.2.2.2.2.2.1 z6.2.2.2.2.2.2.2 p3.toInt64 z6.2.1)
def fm_X6_change_s16 (h0_format : Int32) (h0_code : Int32) (h0_minus : Bool) (h0_m : Int64) (h0_power : Int32) (h0_infinite : Bool) (h0_none : Bool) (p1 : Int32) (p2 : Int32) (p3 : Int32) (x1 : Bool) (z6 : Bool × fw_S7) (z17 : Int64 × fw_S7) (z18 : Int64 × fw_S7) : Int32 × fw_S7 := (z18.1.toInt32, z18.2.1, z18.2.2.1, z18.2.2.2.1, z18.2.2.2.2.1, z18.2.2.2.2.2.1, z18.2.2.2.2.2.2.1, z18.2.2.2.2.2.2.2)
def fm_X6_change_s15 (h0_format : Int32) (h0_code : Int32) (h0_minus : Bool) (h0_m : Int64) (h0_power : Int32) (h0_infinite : Bool) (h0_none : Bool) (p1 : Int32) (p2 : Int32) (p3 : Int32) (x1 : Bool) (z6 : Bool × fw_S7) (z17 : Int64 × fw_S7) : Int32 × fw_S7 := fm_X6_change_s16 h0_format h0_code h0_minus h0_m h0_power h0_infinite h0_none p1 p2 p3 x1 z6 z17 (fm_X6_whole z17.2.1 z17.2.2.1 z17.2.2.2.1 z17.2.2.2.2.1 z17.2.2.2.2.2.1 z17.2.2.2.2.2.2.1 z17.2.2.2.2.2.2.2 p2 z17.1 z17.2.1)
def fm_X6_change_s7 (h0_format : Int32) (h0_code : Int32) (h0_minus : Bool) (h0_m : Int64) (h0_power : Int32) (h0_infinite : Bool) (h0_none : Bool) (p1 : Int32) (p2 : Int32) (p3 : Int32) (x1 : Bool) (z6 : Bool × fw_S7) : Int32 × fw_S7 := fm_X6_change_s15 h0_format h0_code h0_minus h0_m h0_power h0_infinite h0_none p1 p2 p3 x1 z6 (fm_X6_canonical z6.2.1 z6.2.2.1 z6.2.2.2.1 z6.2.2.2.2.1 z6.2.2.2.2.2.1 z6.2.2.2.2.2.2.1 z6.2.2.2.2.2.2.2 p3.toInt64 z6.2.1)
def fm_X6_change_s14 (h0_format : Int32) (h0_code : Int32) (h0_minus : Bool) (h0_m : Int64) (h0_power : Int32) (h0_infinite : Bool) (h0_none : Bool) (p1 : Int32) (p2 : Int32) (p3 : Int32) (x1 : Bool) (z6 : Bool × fw_S7) (z10 : fw_S7) (x11 : Int64) (z16 : Int64 × fw_S7) : Int32 × fw_S7 := (z16.1.toInt32, z16.2.1, z16.2.2.1, z16.2.2.2.1, z16.2.2.2.2.1, z16.2.2.2.2.2.1, z16.2.2.2.2.2.2.1, z16.2.2.2.2.2.2.2)
def fm_X6_change_s12 (h0_format : Int32) (h0_code : Int32) (h0_minus : Bool) (h0_m : Int64) (h0_power : Int32) (h0_infinite : Bool) (h0_none : Bool) (p1 : Int32) (p2 : Int32) (p3 : Int32) (x1 : Bool) (z6 : Bool × fw_S7) (z10 : fw_S7) (x11 : Int64) : Int32 × fw_S7 := fm_X6_change_s14 h0_format h0_code h0_minus h0_m h0_power h0_infinite h0_none p1 p2 p3 x1 z6 z10 x11 (fm_X6_canonical z10.1 z10.2.1 z10.2.2.1 z10.2.2.2.1 z10.2.2.2.2.1 z10.2.2.2.2.2.1 z10.2.2.2.2.2.2 p3.toInt64 z10.1)
def fm_X6_change_s13 (h0_format : Int32) (h0_code : Int32) (h0_minus : Bool) (h0_m : Int64) (h0_power : Int32) (h0_infinite : Bool) (h0_none : Bool) (p1 : Int32) (p2 : Int32) (p3 : Int32) (x1 : Bool) (z6 : Bool × fw_S7) (z10 : fw_S7) (x11 : Int64) (x13 : Int64) : Int32 × fw_S7 := (x13.toInt32, z10.1, z10.2.1, z10.2.2.1, z10.2.2.2.1, z10.2.2.2.2.1, z10.2.2.2.2.2.1, z10.2.2.2.2.2.2)
def fm_X6_change_s11 (h0_format : Int32) (h0_code : Int32) (h0_minus : Bool) (h0_m : Int64) (h0_power : Int32) (h0_infinite : Bool) (h0_none : Bool) (p1 : Int32) (p2 : Int32) (p3 : Int32) (x1 : Bool) (z6 : Bool × fw_S7) (z10 : fw_S7) (x11 : Int64) : Int32 × fw_S7 := fm_X6_change_s13 h0_format h0_code h0_minus h0_m h0_power h0_infinite h0_none p1 p2 p3 x1 z6 z10 x11 (if p1 = 2 then (p3.toInt64 &&& (x11 ^^^ (-1))) else p3.toInt64 ^^^ x11)
def fm_X6_change_s10 (h0_format : Int32) (h0_code : Int32) (h0_minus : Bool) (h0_m : Int64) (h0_power : Int32) (h0_infinite : Bool) (h0_none : Bool) (p1 : Int32) (p2 : Int32) (p3 : Int32) (x1 : Bool) (z6 : Bool × fw_S7) (z10 : fw_S7) (x11 : Int64) : Int32 × fw_S7 := if (jb z10.2.2.2.2.2.2) = 0 then fm_X6_change_s11 h0_format h0_code h0_minus h0_m h0_power h0_infinite h0_none p1 p2 p3 x1 z6 z10 x11 else fm_X6_change_s12 h0_format h0_code h0_minus h0_m h0_power h0_infinite h0_none p1 p2 p3 x1 z6 z10 x11
def fm_X6_change_s9 (h0_format : Int32) (h0_code : Int32) (h0_minus : Bool) (h0_m : Int64) (h0_power : Int32) (h0_infinite : Bool) (h0_none : Bool) (p1 : Int32) (p2 : Int32) (p3 : Int32) (x1 : Bool) (z6 : Bool × fw_S7) (z10 : fw_S7) : Int32 × fw_S7 := fm_X6_change_s10 h0_format h0_code h0_minus h0_m h0_power h0_infinite h0_none p1 p2 p3 x1 z6 z10 (fc_shl 1 ((fm_X6_width z10.1) - 1))
def fm_X6_change_s8 (h0_format : Int32) (h0_code : Int32) (h0_minus : Bool) (h0_m : Int64) (h0_power : Int32) (h0_infinite : Bool) (h0_none : Bool) (p1 : Int32) (p2 : Int32) (p3 : Int32) (x1 : Bool) (z6 : Bool × fw_S7) : Int32 × fw_S7 := fm_X6_change_s9 h0_format h0_code h0_minus h0_m h0_power h0_infinite h0_none p1 p2 p3 x1 z6 (fm_X6_take z6.2.1 z6.2.2.1 z6.2.2.2.1 z6.2.2.2.2.1 z6.2.2.2.2.2.1 z6.2.2.2.2.2.2.1 z6.2.2.2.2.2.2.2 p3.toInt64 z6.2.1)
def fm_X6_change_s6 (h0_format : Int32) (h0_code : Int32) (h0_minus : Bool) (h0_m : Int64) (h0_power : Int32) (h0_infinite : Bool) (h0_none : Bool) (p1 : Int32) (p2 : Int32) (p3 : Int32) (x1 : Bool) (z6 : Bool × fw_S7) : Int32 × fw_S7 := if p1 = 1 then fm_X6_change_s7 h0_format h0_code h0_minus h0_m h0_power h0_infinite h0_none p1 p2 p3 x1 z6 else fm_X6_change_s8 h0_format h0_code h0_minus h0_m h0_power h0_infinite h0_none p1 p2 p3 x1 z6
def fm_X6_change_s4 (h0_format : Int32) (h0_code : Int32) (h0_minus : Bool) (h0_m : Int64) (h0_power : Int32) (h0_infinite : Bool) (h0_none : Bool) (p1 : Int32) (p2 : Int32) (p3 : Int32) (x1 : Bool) (z6 : Bool × fw_S7) : Int32 × fw_S7 := if p1 = 0 then fm_X6_change_s5 h0_format h0_code h0_minus h0_m h0_power h0_infinite h0_none p1 p2 p3 x1 z6 else fm_X6_change_s6 h0_format h0_code h0_minus h0_m h0_power h0_infinite h0_none p1 p2 p3 x1 z6
def fm_X6_change_s2 (h0_format : Int32) (h0_code : Int32) (h0_minus : Bool) (h0_m : Int64) (h0_power : Int32) (h0_infinite : Bool) (h0_none : Bool) (p1 : Int32) (p2 : Int32) (p3 : Int32) (x1 : Bool) (z6 : Bool × fw_S7) : Int32 × fw_S7 := if (jb z6.1) = 0 then fm_X6_change_s3 h0_format h0_code h0_minus h0_m h0_power h0_infinite h0_none p1 p2 p3 x1 z6 else fm_X6_change_s4 h0_format h0_code h0_minus h0_m h0_power h0_infinite h0_none p1 p2 p3 x1 z6
def fm_X6_change_s1 (h0_format : Int32) (h0_code : Int32) (h0_minus : Bool) (h0_m : Int64) (h0_power : Int32) (h0_infinite : Bool) (h0_none : Bool) (p1 : Int32) (p2 : Int32) (p3 : Int32) (x1 : Bool) : Int32 × fw_S7 := fm_X6_change_s2 h0_format h0_code h0_minus h0_m h0_power h0_infinite h0_none p1 p2 p3 x1 (fm_X6_good h0_format h0_code h0_minus h0_m h0_power h0_infinite h0_none x1)
def fm_X6_change (h0_format : Int32) (h0_code : Int32) (h0_minus : Bool) (h0_m : Int64) (h0_power : Int32) (h0_infinite : Bool) (h0_none : Bool) (p1 : Int32) (p2 : Int32) (p3 : Int32) : Int32 × fw_S7 := fm_X6_change_s1 h0_format h0_code h0_minus h0_m h0_power h0_infinite h0_none p1 p2 p3 (if (jb (fm_X6_in p1 0 3)) = 0 then false else (if (jb (fm_X6_in p2 0 4)) = 0 then false else (if (jb (fm_X6_isFloat h0_format h0_code h0_minus h0_m h0_power h0_infinite h0_none p3 h0_format)) = 0 then false else true)))
-- SIMP X6_change: fm_X6_change, fm_X6_change_s1, fm_X6_change_s2, fm_X6_change_s4, fm_X6_change_s6, fm_X6_change_s8, fm_X6_change_s9, fm_X6_change_s10, fm_X6_change_s11, fm_X6_change_s13, fm_X6_change_s12, fm_X6_change_s14, fm_X6_change_s7, fm_X6_change_s15, fm_X6_change_s16, fm_X6_change_s5, fm_X6_change_s17, fm_X6_change_s18, fm_X6_change_s3
set_option maxHeartbeats 4000000 in
set_option maxRecDepth 100000 in
theorem k_X6_change (l : Launch) (dC : Nat → ClassId) (dI : Nat → Nat → Nat) (h0 : Nat) (h0_format : Int32) (h0_code : Int32) (h0_minus : Bool) (h0_m : Int64) (h0_power : Int32) (h0_infinite : Bool) (h0_none : Bool) (p1 : Int32) (p2 : Int32) (p3 : Int32) : Met l yX6_change wsX6_change { frames := 4, cells := 0, slots := 0, locals := 123 } (fw_R (dC, dI) vwCl [(h0, .inr (3, [.int h0_format, .int h0_code, .int (jb h0_minus), .long h0_m, .int h0_power, .int (jb h0_infinite), .int (jb h0_none)]))] [.ref h0, .int p1, .int p2, .int p3]) (fw_M (dC, dI) vwCl h0 3 (fw_sl (fm_X6_change h0_format h0_code h0_minus h0_m h0_power h0_infinite h0_none p1 p2 p3).2) (some (.int ((fm_X6_change h0_format h0_code h0_minus h0_m h0_power h0_infinite h0_none p1 p2 p3).1)))) 0 0 (fun q => q = h0) := by
  refine Met.ofW (cc := cX6_change) (maxL := 6) (ret := (some .int)) (by decide) rfl ?_
  intro p e s m args below meth c s₁ B hml hv
  obtain ⟨rfl, hP, hK⟩ := hv
  have hx := B.exec
  have hb := B.bytes
  have hr := B.returns
  have hts := atoms_spec (ws := wsX6_change) B.pre
  have htf : ∀ w ∈ fc_all, w.before _ s = true := fun w h => hts w (List.mem_cons_of_mem _ h)
  have hown : s.vm.findClass RX6 = some m.cls := findClass_of_methodNamed B.named
  have hlocks := B.notSynchronized
  have hP : va_P (dC, dI) vwCl [(h0, .inr (3, [.int h0_format, .int h0_code, .int (jb h0_minus), .long h0_m, .int h0_power, .int (jb h0_infinite), .int (jb h0_none)]))] s.heap := hP
  have hD : va_D (fun q => q = h0) [(h0, .inr (3, [.int h0_format, .int h0_code, .int (jb h0_minus), .long h0_m, .int h0_power, .int (jb h0_infinite), .int (jb h0_none)]))] := fw_D1 rfl
  have hS : va_S (fun q => q = h0) s.heap s.heap [] := va_S.rf
  have hl := lv_entry ([.ref h0, .int p1, .int p2, .int p3]) (n := 6) (Nat.le_of_ble_eq_true rfl)
  rw [lg_entry_eq]
  generalize (lg_sl ([.ref h0, .int p1, .int p2, .int p3]) ++ List.replicate (6 - (lg_sl ([.ref h0, .int p1, .int p2, .int p3])).length) Slot.unset).toArray = ls at hl ⊢
  have hl : lv_has ls 6 [(0, .ref h0), (1, .int p1), (2, .int p2), (3, .int p3)] := hl
  have hT : fm_X6_change h0_format h0_code h0_minus h0_m h0_power h0_infinite h0_none p1 p2 p3 = fm_X6_change h0_format h0_code h0_minus h0_m h0_power h0_infinite h0_none p1 p2 p3 := rfl
  refine lv_aload_n hx hb dX6_change_0 rfl (lv_at hl 0 rfl) ?_
  refine lv_iload_n hx hb dX6_change_1 rfl (lv_at hl 1 rfl) ?_
  refine lv_iconst (v := 0) hx hb dX6_change_2 (by decide) ?_
  refine lv_iconst (v := 3) hx hb dX6_change_3 (by decide) ?_
  refine fw_call (va_runS (As := [.int p1, .int 0, .int 3]) (rest := [.ref h0]) ⟨hx, hb, hml, hown, htf⟩ (k_X6_in l p1 0 3) (va_cwS 3 htf (gd_S wk369 wk370 wk3 wk371) rfl rfl rfl ndX6_in ⟨Nat.le_of_ble_eq_true rfl, Nat.le_of_ble_eq_true rfl⟩) fw_PS rfl rfl hl.1 rfl (lv_room (Nat.le_of_ble_eq_true rfl)) dX6_change_4 ⟨Nat.le_refl _, Nat.le_refl _⟩) ?_
  refine fw_join (j := 36) (ι := Bool) (LS := fun i ls => lv_has ls 6 [(0, .ref h0), (1, .int p1), (2, .int p2), (3, .int p3)] ∧ i = (if (jb (fm_X6_in p1 0 3)) = 0 then false else (if (jb (fm_X6_in p2 0 4)) = 0 then false else (if (jb (fm_X6_isFloat h0_format h0_code h0_minus h0_m h0_power h0_infinite h0_none p3 h0_format)) = 0 then false else true)))) (ST := fun i => [.int (jb i), .ref h0]) ?_ (fun J2 => ?_)
  rotate_left
  · refine lv_if_eq (tgt := 35) hx hb dX6_change_7 (by decide) (fun c3 => ?_) (fun c3 => ?_)
    · refine lv_iconst (v := 0) hx hb dX6_change_35 (by decide) ?_
      exact J2 false ls ⟨lv_sub hl [0, 1, 2, 3] rfl, by simp only [if_pos c3] <;> first | assumption | contradiction⟩
    · refine lv_iload_n hx hb dX6_change_10 rfl (lv_at hl 2 rfl) ?_
      refine lv_iconst (v := 0) hx hb dX6_change_11 (by decide) ?_
      refine lv_iconst (v := 4) hx hb dX6_change_12 (by decide) ?_
      refine fw_call (va_runS (As := [.int p2, .int 0, .int 4]) (rest := [.ref h0]) ⟨hx, hb, hml, hown, htf⟩ (k_X6_in l p2 0 4) (va_cwS 3 htf (gd_S wk369 wk370 wk3 wk371) rfl rfl rfl ndX6_in ⟨Nat.le_of_ble_eq_true rfl, Nat.le_of_ble_eq_true rfl⟩) fw_PS rfl rfl hl.1 rfl (lv_room (Nat.le_of_ble_eq_true rfl)) dX6_change_13 ⟨Nat.le_refl _, Nat.le_refl _⟩) ?_
      refine lv_if_eq (tgt := 35) hx hb dX6_change_16 (by decide) (fun c4 => ?_) (fun c4 => ?_)
      · refine lv_iconst (v := 0) hx hb dX6_change_35 (by decide) ?_
        exact J2 false ls ⟨lv_sub hl [0, 1, 2, 3] rfl, by simp only [if_neg c3, if_pos c4] <;> first | assumption | contradiction⟩
      · refine lv_aload_n hx hb dX6_change_19 rfl (lv_at hl 0 rfl) ?_
        refine lv_iload_n hx hb dX6_change_20 rfl (lv_at hl 3 rfl) ?_
        refine lv_aload_n hx hb dX6_change_21 rfl (lv_at hl 0 rfl) ?_
        refine va_get (D := (dC, dI)) (ci := 3) (v := .int h0_format) (C := RX6) (T := TX6) (N := 7) hx hb htf hiX6 hown hK hP 0 rfl rfl 0 (by decide) (htf _ wk351) (fun _ h9 => h9) rfl dX6_change_22 ?_
        refine fw_call (va_runV (As := [.int p3, .int h0_format]) (rest := [.ref h0]) ⟨hx, hb, hml, hown, htf⟩ (k_X6_isFloat l dC dI h0 h0_format h0_code h0_minus h0_m h0_power h0_infinite h0_none p3 h0_format) (cwV 2 htf (gd_V wk379 wk380 ws7 wk3 wk381) rfl rfl rfl ndX6_isFloat ⟨Nat.le_of_ble_eq_true rfl, Nat.le_of_ble_eq_true rfl⟩) (fw_RV (va_recv hK hP (ci := 3) (q0 := 0) rfl rfl) (hP.sub (ws' := [(h0, .inr (3, [.int h0_format, .int h0_code, .int (jb h0_minus), .long h0_m, .int h0_power, .int (jb h0_infinite), .int (jb h0_none)]))]) [0] rfl) hK) rfl rfl hl.1 rfl (lv_room (Nat.le_of_ble_eq_true rfl)) dX6_change_25 ⟨Nat.le_refl _, Nat.le_refl _⟩) ?_
        refine lv_if_eq (tgt := 35) hx hb dX6_change_28 (by decide) (fun c5 => ?_) (fun c5 => ?_)
        · refine lv_iconst (v := 0) hx hb dX6_change_35 (by decide) ?_
          exact J2 false ls ⟨lv_sub hl [0, 1, 2, 3] rfl, by simp only [if_neg c3, if_neg c4, if_pos c5] <;> first | assumption | contradiction⟩
        · refine lv_iconst (v := 1) hx hb dX6_change_31 (by decide) ?_
          refine lv_goto (tgt := 36) hx hb dX6_change_32 (by decide) ?_
          exact J2 true ls ⟨lv_sub hl [0, 1, 2, 3] rfl, by simp only [if_neg c3, if_neg c4, if_neg c5] <;> first | assumption | contradiction⟩
  rintro x1 ls ⟨hl, ex1⟩
  try dsimp only at hl ex1 ⊢
  have hT : fm_X6_change h0_format h0_code h0_minus h0_m h0_power h0_infinite h0_none p1 p2 p3 = fm_X6_change_s1 h0_format h0_code h0_minus h0_m h0_power h0_infinite h0_none p1 p2 p3 x1 := by rw [ex1]; exact hT
  refine fw_callM (va_runV (As := [.int (jb x1)]) (rest := []) ⟨hx, hb, hml, hown, htf⟩ (k_X6_good l dC dI h0 h0_format h0_code h0_minus h0_m h0_power h0_infinite h0_none x1) (cwV 1 htf (gd_V wk372 wk373 ws6 wk3 wk374) rfl rfl rfl ndX6_good ⟨Nat.le_of_ble_eq_true rfl, Nat.le_of_ble_eq_true rfl⟩) (fw_RV (va_recv hK hP (ci := 3) (q0 := 0) rfl rfl) hP hK) rfl rfl hl.1 rfl (lv_room (Nat.le_of_ble_eq_true rfl)) dX6_change_36 ⟨Nat.le_refl _, Nat.le_refl _⟩) hS rfl (fun H locs hP _ _ hS => ?_)
  have hT : fm_X6_change h0_format h0_code h0_minus h0_m h0_power h0_infinite h0_none p1 p2 p3 = fm_X6_change_s2 h0_format h0_code h0_minus h0_m h0_power h0_infinite h0_none p1 p2 p3 x1 (fm_X6_good h0_format h0_code h0_minus h0_m h0_power h0_infinite h0_none x1) := hT
  generalize ez6 : fm_X6_good h0_format h0_code h0_minus h0_m h0_power h0_infinite h0_none x1 = z6 at hP hT ⊢
  have hP : va_P (dC, dI) vwCl [(h0, .inr (3, [.int z6.2.1, .int z6.2.2.1, .int (jb z6.2.2.2.1), .long z6.2.2.2.2.1, .int z6.2.2.2.2.2.1, .int (jb z6.2.2.2.2.2.2.1), .int (jb z6.2.2.2.2.2.2.2)]))] H := hP
  have hD : va_D (fun q => q = h0) [(h0, .inr (3, [.int z6.2.1, .int z6.2.2.1, .int (jb z6.2.2.2.1), .long z6.2.2.2.2.1, .int z6.2.2.2.2.2.1, .int (jb z6.2.2.2.2.2.2.1), .int (jb z6.2.2.2.2.2.2.2)]))] := fw_D1 rfl
  refine W.eq (g2 := F0 m 39 ls [.int (jb z6.1)]) rfl ?_
  refine lv_if_ne (tgt := 44) hx hb dX6_change_39 (by decide) (fun c7 => ?_) (fun c7 => ?_)
  · have hT : fm_X6_change h0_format h0_code h0_minus h0_m h0_power h0_infinite h0_none p1 p2 p3 = fm_X6_change_s4 h0_format h0_code h0_minus h0_m h0_power h0_infinite h0_none p1 p2 p3 x1 z6 := hT.trans (if_neg c7)
    refine lv_iload_n hx hb dX6_change_44 rfl (lv_at hl 1 rfl) ?_
    refine lv_if_ne (tgt := 69) hx hb dX6_change_45 (by decide) (fun c8 => ?_) (fun c8 => ?_)
    · have hT : fm_X6_change h0_format h0_code h0_minus h0_m h0_power h0_infinite h0_none p1 p2 p3 = fm_X6_change_s6 h0_format h0_code h0_minus h0_m h0_power h0_infinite h0_none p1 p2 p3 x1 z6 := hT.trans (if_neg c8)
      refine lv_iload_n hx hb dX6_change_69 rfl (lv_at hl 1 rfl) ?_
      refine lv_iconst (v := 1) hx hb dX6_change_70 (by decide) ?_
      refine lv_icmp_ne (tgt := 95) hx hb dX6_change_71 (by decide) (fun c9 => ?_) (fun c9 => ?_)
      · have hT : fm_X6_change h0_format h0_code h0_minus h0_m h0_power h0_infinite h0_none p1 p2 p3 = fm_X6_change_s8 h0_format h0_code h0_minus h0_m h0_power h0_infinite h0_none p1 p2 p3 x1 z6 := hT.trans (if_neg c9)
        refine lv_aload_n hx hb dX6_change_95 rfl (lv_at hl 0 rfl) ?_
        refine lv_iload_n hx hb dX6_change_96 rfl (lv_at hl 3 rfl) ?_
        refine lv_i2l (v := p3.toInt64) hx hb dX6_change_97 rfl ?_
        refine lv_aload_n hx hb dX6_change_98 rfl (lv_at hl 0 rfl) ?_
        refine va_get (D := (dC, dI)) (ci := 3) (v := .int z6.2.1) (C := RX6) (T := TX6) (N := 7) hx hb htf hiX6 hown hK hP 0 rfl rfl 0 (by decide) (htf _ wk351) (fun _ h9 => h9) rfl dX6_change_99 ?_
        refine fw_callM (va_runV (As := [.long p3.toInt64, .int z6.2.1]) (rest := []) ⟨hx, hb, hml, hown, htf⟩ (k_X6_take l dC dI h0 z6.2.1 z6.2.2.1 z6.2.2.2.1 z6.2.2.2.2.1 z6.2.2.2.2.2.1 z6.2.2.2.2.2.2.1 z6.2.2.2.2.2.2.2 p3.toInt64 z6.2.1) (cwV 2 htf (gd_V wk400 wk401 ws9 wk3 wk402) rfl rfl rfl ndX6_take ⟨Nat.le_of_ble_eq_true rfl, Nat.le_of_ble_eq_true rfl⟩) (fw_RV (va_recv hK hP (ci := 3) (q0 := 0) rfl rfl) hP hK) rfl rfl hl.1 rfl (lv_room (Nat.le_of_ble_eq_true rfl)) dX6_change_102 ⟨Nat.le_refl _, Nat.le_refl _⟩) hS rfl (fun H locs hP _ _ hS => ?_)
        have hT : fm_X6_change h0_format h0_code h0_minus h0_m h0_power h0_infinite h0_none p1 p2 p3 = fm_X6_change_s9 h0_format h0_code h0_minus h0_m h0_power h0_infinite h0_none p1 p2 p3 x1 z6 (fm_X6_take z6.2.1 z6.2.2.1 z6.2.2.2.1 z6.2.2.2.2.1 z6.2.2.2.2.2.1 z6.2.2.2.2.2.2.1 z6.2.2.2.2.2.2.2 p3.toInt64 z6.2.1) := hT
        generalize ez10 : fm_X6_take z6.2.1 z6.2.2.1 z6.2.2.2.1 z6.2.2.2.2.1 z6.2.2.2.2.2.1 z6.2.2.2.2.2.2.1 z6.2.2.2.2.2.2.2 p3.toInt64 z6.2.1 = z10 at hP hT ⊢
        have hP : va_P (dC, dI) vwCl [(h0, .inr (3, [.int z10.1, .int z10.2.1, .int (jb z10.2.2.1), .long z10.2.2.2.1, .int z10.2.2.2.2.1, .int (jb z10.2.2.2.2.2.1), .int (jb z10.2.2.2.2.2.2)]))] H := hP
        have hD : va_D (fun q => q = h0) [(h0, .inr (3, [.int z10.1, .int z10.2.1, .int (jb z10.2.2.1), .long z10.2.2.2.1, .int z10.2.2.2.2.1, .int (jb z10.2.2.2.2.2.1), .int (jb z10.2.2.2.2.2.2)]))] := fw_D1 rfl
        refine W.eq (g2 := F0 m 105 ls []) rfl ?_
        refine lv_lconst (v := 1) hx hb dX6_change_105 (by decide) ?_
        refine lv_aload_n hx hb dX6_change_106 rfl (lv_at hl 0 rfl) ?_
        refine va_get (D := (dC, dI)) (ci := 3) (v := .int z10.1) (C := RX6) (T := TX6) (N := 7) hx hb htf hiX6 hown hK hP 0 rfl rfl 0 (by decide) (htf _ wk351) (fun _ h9 => h9) rfl dX6_change_107 ?_
        refine fw_call (va_runS (As := [.int z10.1]) (rest := [.long 1]) ⟨hx, hb, hml, hown, htf⟩ (k_X6_width l z10.1) (va_cwS 1 htf (gd_S wk382 wk383 wk3 wk384) rfl rfl rfl ndX6_width ⟨Nat.le_of_ble_eq_true rfl, Nat.le_of_ble_eq_true rfl⟩) fw_PS rfl rfl hl.1 rfl (lv_room (Nat.le_of_ble_eq_true rfl)) dX6_change_110 ⟨Nat.le_refl _, Nat.le_refl _⟩) ?_
        refine lv_iconst (v := 1) hx hb dX6_change_113 (by decide) ?_
        refine lv_isub hx hb dX6_change_114 ?_
        refine lv_lshl (v := fc_shl 1 ((fm_X6_width z10.1) - 1)) hx hb dX6_change_115 rfl ?_
        refine lv_topl (fun x11 ex11 => ?_)
        have hT : fm_X6_change h0_format h0_code h0_minus h0_m h0_power h0_infinite h0_none p1 p2 p3 = fm_X6_change_s10 h0_format h0_code h0_minus h0_m h0_power h0_infinite h0_none p1 p2 p3 x1 z6 z10 x11 := by rw [ex11]; exact hT
        refine lv_lstore (lv' := [(4, .long x11), (0, .ref h0), (1, .int p1), (2, .int p2), (3, .int p3)]) hx hb dX6_change_116 hl (by decide) rfl (fun ls hl => ?_)
        refine lv_aload_n hx hb dX6_change_118 rfl (lv_at hl 1 rfl) ?_
        refine va_get (D := (dC, dI)) (ci := 3) (v := .int (jb z10.2.2.2.2.2.2)) (C := RX6) (T := TX6) (N := 7) hx hb htf hiX6 hown hK hP 0 rfl rfl 6 (by decide) (htf _ wk357) (fun _ h9 => h9) rfl dX6_change_119 ?_
        refine lv_if_eq (tgt := 137) hx hb dX6_change_122 (by decide) (fun c12 => ?_) (fun c12 => ?_)
        · have hT : fm_X6_change h0_format h0_code h0_minus h0_m h0_power h0_infinite h0_none p1 p2 p3 = fm_X6_change_s11 h0_format h0_code h0_minus h0_m h0_power h0_infinite h0_none p1 p2 p3 x1 z6 z10 x11 := hT.trans (if_pos c12)
          refine lv_iload_n hx hb dX6_change_137 rfl (lv_at hl 2 rfl) ?_
          refine lv_iconst (v := 2) hx hb dX6_change_138 (by decide) ?_
          refine fw_join (j := 159) (ι := Int64) (LS := fun i ls => lv_has ls 6 [(4, .long x11), (0, .ref h0), (1, .int p1), (2, .int p2), (3, .int p3)] ∧ i = (if p1 = 2 then (p3.toInt64 &&& (x11 ^^^ (-1))) else p3.toInt64 ^^^ x11)) (ST := fun i => [.long i]) ?_ (fun J14 => ?_)
          rotate_left
          · refine lv_icmp_ne (tgt := 154) hx hb dX6_change_139 (by decide) (fun c15 => ?_) (fun c15 => ?_)
            · refine lv_iload_n hx hb dX6_change_154 rfl (lv_at hl 4 rfl) ?_
              refine lv_i2l (v := p3.toInt64) hx hb dX6_change_155 rfl ?_
              refine lv_lload hx hb dX6_change_156 (lv_at hl 0 rfl) ?_
              refine lv_lxor hx hb dX6_change_158 ?_
              exact J14 (p3.toInt64 ^^^ x11) ls ⟨lv_sub hl [0, 1, 2, 3, 4] rfl, by simp only [if_neg c15] <;> first | assumption | contradiction⟩
            · refine lv_iload_n hx hb dX6_change_142 rfl (lv_at hl 4 rfl) ?_
              refine lv_i2l (v := p3.toInt64) hx hb dX6_change_143 rfl ?_
              refine lv_lload hx hb dX6_change_144 (lv_at hl 0 rfl) ?_
              refine lv_ldc2 (v := (-1)) hx hb hown (htf _ wk433) dX6_change_146 ?_
              refine lv_lxor hx hb dX6_change_149 ?_
              refine lv_land hx hb dX6_change_150 ?_
              refine lv_goto (tgt := 159) hx hb dX6_change_151 (by decide) ?_
              exact J14 (p3.toInt64 &&& (x11 ^^^ (-1))) ls ⟨lv_sub hl [0, 1, 2, 3, 4] rfl, by simp only [if_pos c15] <;> first | assumption | contradiction⟩
          rintro x13 ls ⟨hl, ex13⟩
          try dsimp only at hl ex13 ⊢
          have hT : fm_X6_change h0_format h0_code h0_minus h0_m h0_power h0_infinite h0_none p1 p2 p3 = fm_X6_change_s13 h0_format h0_code h0_minus h0_m h0_power h0_infinite h0_none p1 p2 p3 x1 z6 z10 x11 x13 := by rw [ex13]; exact hT
          refine lv_l2i (v := x13.toInt32) hx hb dX6_change_159 rfl ?_
          have hEQ : fm_X6_change h0_format h0_code h0_minus h0_m h0_power h0_infinite h0_none p1 p2 p3 = (x13.toInt32, z10.1, z10.2.1, z10.2.2.1, z10.2.2.2.1, z10.2.2.2.2.1, z10.2.2.2.2.2.1, z10.2.2.2.2.2.2) := hT
          exact W.iret (v := x13.toInt32) hx hb hr (fun t ht hW => ⟨by simp only [hEQ], by rw [ht]; simp only [hEQ, fw_sl]; exact hP, hS.F ht⟩) hS.2.2 dX6_change_160
        · have hT : fm_X6_change h0_format h0_code h0_minus h0_m h0_power h0_infinite h0_none p1 p2 p3 = fm_X6_change_s12 h0_format h0_code h0_minus h0_m h0_power h0_infinite h0_none p1 p2 p3 x1 z6 z10 x11 := hT.trans (if_neg c12)
          refine lv_aload_n hx hb dX6_change_125 rfl (lv_at hl 1 rfl) ?_
          refine lv_iload_n hx hb dX6_change_126 rfl (lv_at hl 4 rfl) ?_
          refine lv_i2l (v := p3.toInt64) hx hb dX6_change_127 rfl ?_
          refine lv_aload_n hx hb dX6_change_128 rfl (lv_at hl 1 rfl) ?_
          refine va_get (D := (dC, dI)) (ci := 3) (v := .int z10.1) (C := RX6) (T := TX6) (N := 7) hx hb htf hiX6 hown hK hP 0 rfl rfl 0 (by decide) (htf _ wk351) (fun _ h9 => h9) rfl dX6_change_129 ?_
          refine fw_callM (va_runV (As := [.long p3.toInt64, .int z10.1]) (rest := []) ⟨hx, hb, hml, hown, htf⟩ (k_X6_canonical l dC dI h0 z10.1 z10.2.1 z10.2.2.1 z10.2.2.2.1 z10.2.2.2.2.1 z10.2.2.2.2.2.1 z10.2.2.2.2.2.2 p3.toInt64 z10.1) (cwV 2 htf (gd_V wk423 wk424 ws10 wk3 wk425) rfl rfl rfl ndX6_canonical ⟨Nat.le_of_ble_eq_true rfl, Nat.le_of_ble_eq_true rfl⟩) (fw_RV (va_recv hK hP (ci := 3) (q0 := 0) rfl rfl) hP hK) rfl rfl hl.1 rfl (lv_room (Nat.le_of_ble_eq_true rfl)) dX6_change_132 ⟨Nat.le_refl _, Nat.le_refl _⟩) hS rfl (fun H locs hP _ _ hS => ?_)
          have hT : fm_X6_change h0_format h0_code h0_minus h0_m h0_power h0_infinite h0_none p1 p2 p3 = fm_X6_change_s14 h0_format h0_code h0_minus h0_m h0_power h0_infinite h0_none p1 p2 p3 x1 z6 z10 x11 (fm_X6_canonical z10.1 z10.2.1 z10.2.2.1 z10.2.2.2.1 z10.2.2.2.2.1 z10.2.2.2.2.2.1 z10.2.2.2.2.2.2 p3.toInt64 z10.1) := hT
          generalize ez16 : fm_X6_canonical z10.1 z10.2.1 z10.2.2.1 z10.2.2.2.1 z10.2.2.2.2.1 z10.2.2.2.2.2.1 z10.2.2.2.2.2.2 p3.toInt64 z10.1 = z16 at hP hT ⊢
          have hP : va_P (dC, dI) vwCl [(h0, .inr (3, [.int z16.2.1, .int z16.2.2.1, .int (jb z16.2.2.2.1), .long z16.2.2.2.2.1, .int z16.2.2.2.2.2.1, .int (jb z16.2.2.2.2.2.2.1), .int (jb z16.2.2.2.2.2.2.2)]))] H := hP
          have hD : va_D (fun q => q = h0) [(h0, .inr (3, [.int z16.2.1, .int z16.2.2.1, .int (jb z16.2.2.2.1), .long z16.2.2.2.2.1, .int z16.2.2.2.2.2.1, .int (jb z16.2.2.2.2.2.2.1), .int (jb z16.2.2.2.2.2.2.2)]))] := fw_D1 rfl
          refine W.eq (g2 := F0 m 135 ls [.long z16.1]) rfl ?_
          refine lv_l2i (v := z16.1.toInt32) hx hb dX6_change_135 rfl ?_
          have hEQ : fm_X6_change h0_format h0_code h0_minus h0_m h0_power h0_infinite h0_none p1 p2 p3 = (z16.1.toInt32, z16.2.1, z16.2.2.1, z16.2.2.2.1, z16.2.2.2.2.1, z16.2.2.2.2.2.1, z16.2.2.2.2.2.2.1, z16.2.2.2.2.2.2.2) := hT
          exact W.iret (v := z16.1.toInt32) hx hb hr (fun t ht hW => ⟨by simp only [hEQ], by rw [ht]; simp only [hEQ, fw_sl]; exact hP, hS.F ht⟩) hS.2.2 dX6_change_136
      · have hT : fm_X6_change h0_format h0_code h0_minus h0_m h0_power h0_infinite h0_none p1 p2 p3 = fm_X6_change_s7 h0_format h0_code h0_minus h0_m h0_power h0_infinite h0_none p1 p2 p3 x1 z6 := hT.trans (if_pos c9)
        refine lv_aload_n hx hb dX6_change_74 rfl (lv_at hl 0 rfl) ?_
        refine lv_iload_n hx hb dX6_change_75 rfl (lv_at hl 2 rfl) ?_
        refine lv_aload_n hx hb dX6_change_76 rfl (lv_at hl 0 rfl) ?_
        refine lv_iload_n hx hb dX6_change_77 rfl (lv_at hl 3 rfl) ?_
        refine lv_i2l (v := p3.toInt64) hx hb dX6_change_78 rfl ?_
        refine lv_aload_n hx hb dX6_change_79 rfl (lv_at hl 0 rfl) ?_
        refine va_get (D := (dC, dI)) (ci := 3) (v := .int z6.2.1) (C := RX6) (T := TX6) (N := 7) hx hb htf hiX6 hown hK hP 0 rfl rfl 0 (by decide) (htf _ wk351) (fun _ h9 => h9) rfl dX6_change_80 ?_
        refine fw_callM (va_runV (As := [.long p3.toInt64, .int z6.2.1]) (rest := [.int p2, .ref h0]) ⟨hx, hb, hml, hown, htf⟩ (k_X6_canonical l dC dI h0 z6.2.1 z6.2.2.1 z6.2.2.2.1 z6.2.2.2.2.1 z6.2.2.2.2.2.1 z6.2.2.2.2.2.2.1 z6.2.2.2.2.2.2.2 p3.toInt64 z6.2.1) (cwV 2 htf (gd_V wk423 wk424 ws10 wk3 wk425) rfl rfl rfl ndX6_canonical ⟨Nat.le_of_ble_eq_true rfl, Nat.le_of_ble_eq_true rfl⟩) (fw_RV (va_recv hK hP (ci := 3) (q0 := 0) rfl rfl) hP hK) rfl rfl hl.1 rfl (lv_room (Nat.le_of_ble_eq_true rfl)) dX6_change_83 ⟨Nat.le_refl _, Nat.le_refl _⟩) hS rfl (fun H locs hP _ _ hS => ?_)
        have hT : fm_X6_change h0_format h0_code h0_minus h0_m h0_power h0_infinite h0_none p1 p2 p3 = fm_X6_change_s15 h0_format h0_code h0_minus h0_m h0_power h0_infinite h0_none p1 p2 p3 x1 z6 (fm_X6_canonical z6.2.1 z6.2.2.1 z6.2.2.2.1 z6.2.2.2.2.1 z6.2.2.2.2.2.1 z6.2.2.2.2.2.2.1 z6.2.2.2.2.2.2.2 p3.toInt64 z6.2.1) := hT
        generalize ez17 : fm_X6_canonical z6.2.1 z6.2.2.1 z6.2.2.2.1 z6.2.2.2.2.1 z6.2.2.2.2.2.1 z6.2.2.2.2.2.2.1 z6.2.2.2.2.2.2.2 p3.toInt64 z6.2.1 = z17 at hP hT ⊢
        have hP : va_P (dC, dI) vwCl [(h0, .inr (3, [.int z17.2.1, .int z17.2.2.1, .int (jb z17.2.2.2.1), .long z17.2.2.2.2.1, .int z17.2.2.2.2.2.1, .int (jb z17.2.2.2.2.2.2.1), .int (jb z17.2.2.2.2.2.2.2)]))] H := hP
        have hD : va_D (fun q => q = h0) [(h0, .inr (3, [.int z17.2.1, .int z17.2.2.1, .int (jb z17.2.2.2.1), .long z17.2.2.2.2.1, .int z17.2.2.2.2.2.1, .int (jb z17.2.2.2.2.2.2.1), .int (jb z17.2.2.2.2.2.2.2)]))] := fw_D1 rfl
        refine W.eq (g2 := F0 m 86 ls [.long z17.1, .int p2, .ref h0]) rfl ?_
        refine lv_aload_n hx hb dX6_change_86 rfl (lv_at hl 0 rfl) ?_
        refine va_get (D := (dC, dI)) (ci := 3) (v := .int z17.2.1) (C := RX6) (T := TX6) (N := 7) hx hb htf hiX6 hown hK hP 0 rfl rfl 0 (by decide) (htf _ wk351) (fun _ h9 => h9) rfl dX6_change_87 ?_
        refine fw_callM (va_runV (As := [.int p2, .long z17.1, .int z17.2.1]) (rest := []) ⟨hx, hb, hml, hown, htf⟩ (k_X6_whole l dC dI h0 z17.2.1 z17.2.2.1 z17.2.2.2.1 z17.2.2.2.2.1 z17.2.2.2.2.2.1 z17.2.2.2.2.2.2.1 z17.2.2.2.2.2.2.2 p2 z17.1 z17.2.1) (cwV 3 htf (gd_V wk430 wk431 ws12 wk3 wk432) rfl rfl rfl ndX6_whole ⟨Nat.le_of_ble_eq_true rfl, Nat.le_of_ble_eq_true rfl⟩) (fw_RV (va_recv hK hP (ci := 3) (q0 := 0) rfl rfl) hP hK) rfl rfl hl.1 rfl (lv_room (Nat.le_of_ble_eq_true rfl)) dX6_change_90 ⟨Nat.le_refl _, Nat.le_refl _⟩) hS rfl (fun H locs hP _ _ hS => ?_)
        have hT : fm_X6_change h0_format h0_code h0_minus h0_m h0_power h0_infinite h0_none p1 p2 p3 = fm_X6_change_s16 h0_format h0_code h0_minus h0_m h0_power h0_infinite h0_none p1 p2 p3 x1 z6 z17 (fm_X6_whole z17.2.1 z17.2.2.1 z17.2.2.2.1 z17.2.2.2.2.1 z17.2.2.2.2.2.1 z17.2.2.2.2.2.2.1 z17.2.2.2.2.2.2.2 p2 z17.1 z17.2.1) := hT
        generalize ez18 : fm_X6_whole z17.2.1 z17.2.2.1 z17.2.2.2.1 z17.2.2.2.2.1 z17.2.2.2.2.2.1 z17.2.2.2.2.2.2.1 z17.2.2.2.2.2.2.2 p2 z17.1 z17.2.1 = z18 at hP hT ⊢
        have hP : va_P (dC, dI) vwCl [(h0, .inr (3, [.int z18.2.1, .int z18.2.2.1, .int (jb z18.2.2.2.1), .long z18.2.2.2.2.1, .int z18.2.2.2.2.2.1, .int (jb z18.2.2.2.2.2.2.1), .int (jb z18.2.2.2.2.2.2.2)]))] H := hP
        have hD : va_D (fun q => q = h0) [(h0, .inr (3, [.int z18.2.1, .int z18.2.2.1, .int (jb z18.2.2.2.1), .long z18.2.2.2.2.1, .int z18.2.2.2.2.2.1, .int (jb z18.2.2.2.2.2.2.1), .int (jb z18.2.2.2.2.2.2.2)]))] := fw_D1 rfl
        refine W.eq (g2 := F0 m 93 ls [.long z18.1]) rfl ?_
        refine lv_l2i (v := z18.1.toInt32) hx hb dX6_change_93 rfl ?_
        have hEQ : fm_X6_change h0_format h0_code h0_minus h0_m h0_power h0_infinite h0_none p1 p2 p3 = (z18.1.toInt32, z18.2.1, z18.2.2.1, z18.2.2.2.1, z18.2.2.2.2.1, z18.2.2.2.2.2.1, z18.2.2.2.2.2.2.1, z18.2.2.2.2.2.2.2) := hT
        exact W.iret (v := z18.1.toInt32) hx hb hr (fun t ht hW => ⟨by simp only [hEQ], by rw [ht]; simp only [hEQ, fw_sl]; exact hP, hS.F ht⟩) hS.2.2 dX6_change_94
    · have hT : fm_X6_change h0_format h0_code h0_minus h0_m h0_power h0_infinite h0_none p1 p2 p3 = fm_X6_change_s5 h0_format h0_code h0_minus h0_m h0_power h0_infinite h0_none p1 p2 p3 x1 z6 := hT.trans (if_pos c8)
      refine lv_aload_n hx hb dX6_change_48 rfl (lv_at hl 0 rfl) ?_
      refine lv_iload_n hx hb dX6_change_49 rfl (lv_at hl 2 rfl) ?_
      refine lv_aload_n hx hb dX6_change_50 rfl (lv_at hl 0 rfl) ?_
      refine lv_iload_n hx hb dX6_change_51 rfl (lv_at hl 3 rfl) ?_
      refine lv_i2l (v := p3.toInt64) hx hb dX6_change_52 rfl ?_
      refine lv_aload_n hx hb dX6_change_53 rfl (lv_at hl 0 rfl) ?_
      refine va_get (D := (dC, dI)) (ci := 3) (v := .int z6.2.1) (C := RX6) (T := TX6) (N := 7) hx hb htf hiX6 hown hK hP 0 rfl rfl 0 (by decide) (htf _ wk351) (fun _ h9 => h9) rfl dX6_change_54 ?_
      refine fw_callM (va_runV (As := [.long p3.toInt64, .int z6.2.1]) (rest := [.int p2, .ref h0]) ⟨hx, hb, hml, hown, htf⟩ (k_X6_canonical l dC dI h0 z6.2.1 z6.2.2.1 z6.2.2.2.1 z6.2.2.2.2.1 z6.2.2.2.2.2.1 z6.2.2.2.2.2.2.1 z6.2.2.2.2.2.2.2 p3.toInt64 z6.2.1) (cwV 2 htf (gd_V wk423 wk424 ws10 wk3 wk425) rfl rfl rfl ndX6_canonical ⟨Nat.le_of_ble_eq_true rfl, Nat.le_of_ble_eq_true rfl⟩) (fw_RV (va_recv hK hP (ci := 3) (q0 := 0) rfl rfl) hP hK) rfl rfl hl.1 rfl (lv_room (Nat.le_of_ble_eq_true rfl)) dX6_change_57 ⟨Nat.le_refl _, Nat.le_refl _⟩) hS rfl (fun H locs hP _ _ hS => ?_)
      have hT : fm_X6_change h0_format h0_code h0_minus h0_m h0_power h0_infinite h0_none p1 p2 p3 = fm_X6_change_s17 h0_format h0_code h0_minus h0_m h0_power h0_infinite h0_none p1 p2 p3 x1 z6 (fm_X6_canonical z6.2.1 z6.2.2.1 z6.2.2.2.1 z6.2.2.2.2.1 z6.2.2.2.2.2.1 z6.2.2.2.2.2.2.1 z6.2.2.2.2.2.2.2 p3.toInt64 z6.2.1) := hT
      generalize ez19 : fm_X6_canonical z6.2.1 z6.2.2.1 z6.2.2.2.1 z6.2.2.2.2.1 z6.2.2.2.2.2.1 z6.2.2.2.2.2.2.1 z6.2.2.2.2.2.2.2 p3.toInt64 z6.2.1 = z19 at hP hT ⊢
      have hP : va_P (dC, dI) vwCl [(h0, .inr (3, [.int z19.2.1, .int z19.2.2.1, .int (jb z19.2.2.2.1), .long z19.2.2.2.2.1, .int z19.2.2.2.2.2.1, .int (jb z19.2.2.2.2.2.2.1), .int (jb z19.2.2.2.2.2.2.2)]))] H := hP
      have hD : va_D (fun q => q = h0) [(h0, .inr (3, [.int z19.2.1, .int z19.2.2.1, .int (jb z19.2.2.2.1), .long z19.2.2.2.2.1, .int z19.2.2.2.2.2.1, .int (jb z19.2.2.2.2.2.2.1), .int (jb z19.2.2.2.2.2.2.2)]))] := fw_D1 rfl
      refine W.eq (g2 := F0 m 60 ls [.long z19.1, .int p2, .ref h0]) rfl ?_
      refine lv_aload_n hx hb dX6_change_60 rfl (lv_at hl 0 rfl) ?_
      refine va_get (D := (dC, dI)) (ci := 3) (v := .int z19.2.1) (C := RX6) (T := TX6) (N := 7) hx hb htf hiX6 hown hK hP 0 rfl rfl 0 (by decide) (htf _ wk351) (fun _ h9 => h9) rfl dX6_change_61 ?_
      refine fw_callM (va_runV (As := [.int p2, .long z19.1, .int z19.2.1]) (rest := []) ⟨hx, hb, hml, hown, htf⟩ (k_X6_squareRoot l dC dI h0 z19.2.1 z19.2.2.1 z19.2.2.2.1 z19.2.2.2.2.1 z19.2.2.2.2.2.1 z19.2.2.2.2.2.2.1 z19.2.2.2.2.2.2.2 p2 z19.1 z19.2.1) (cwV 3 htf (gd_V wk426 wk427 ws11 wk3 wk428) rfl rfl rfl ndX6_squareRoot ⟨Nat.le_of_ble_eq_true rfl, Nat.le_of_ble_eq_true rfl⟩) (fw_RV (va_recv hK hP (ci := 3) (q0 := 0) rfl rfl) hP hK) rfl rfl hl.1 rfl (lv_room (Nat.le_of_ble_eq_true rfl)) dX6_change_64 ⟨Nat.le_refl _, Nat.le_refl _⟩) hS rfl (fun H locs hP _ _ hS => ?_)
      have hT : fm_X6_change h0_format h0_code h0_minus h0_m h0_power h0_infinite h0_none p1 p2 p3 = fm_X6_change_s18 h0_format h0_code h0_minus h0_m h0_power h0_infinite h0_none p1 p2 p3 x1 z6 z19 (fm_X6_squareRoot z19.2.1 z19.2.2.1 z19.2.2.2.1 z19.2.2.2.2.1 z19.2.2.2.2.2.1 z19.2.2.2.2.2.2.1 z19.2.2.2.2.2.2.2 p2 z19.1 z19.2.1) := hT
      generalize ez20 : fm_X6_squareRoot z19.2.1 z19.2.2.1 z19.2.2.2.1 z19.2.2.2.2.1 z19.2.2.2.2.2.1 z19.2.2.2.2.2.2.1 z19.2.2.2.2.2.2.2 p2 z19.1 z19.2.1 = z20 at hP hT ⊢
      have hP : va_P (dC, dI) vwCl [(h0, .inr (3, [.int z20.2.1, .int z20.2.2.1, .int (jb z20.2.2.2.1), .long z20.2.2.2.2.1, .int z20.2.2.2.2.2.1, .int (jb z20.2.2.2.2.2.2.1), .int (jb z20.2.2.2.2.2.2.2)]))] H := hP
      have hD : va_D (fun q => q = h0) [(h0, .inr (3, [.int z20.2.1, .int z20.2.2.1, .int (jb z20.2.2.2.1), .long z20.2.2.2.2.1, .int z20.2.2.2.2.2.1, .int (jb z20.2.2.2.2.2.2.1), .int (jb z20.2.2.2.2.2.2.2)]))] := fw_D1 rfl
      refine W.eq (g2 := F0 m 67 ls [.long z20.1]) rfl ?_
      refine lv_l2i (v := z20.1.toInt32) hx hb dX6_change_67 rfl ?_
      have hEQ : fm_X6_change h0_format h0_code h0_minus h0_m h0_power h0_infinite h0_none p1 p2 p3 = (z20.1.toInt32, z20.2.1, z20.2.2.1, z20.2.2.2.1, z20.2.2.2.2.1, z20.2.2.2.2.2.1, z20.2.2.2.2.2.2.1, z20.2.2.2.2.2.2.2) := hT
      exact W.iret (v := z20.1.toInt32) hx hb hr (fun t ht hW => ⟨by simp only [hEQ], by rw [ht]; simp only [hEQ, fw_sl]; exact hP, hS.F ht⟩) hS.2.2 dX6_change_68
  · have hT : fm_X6_change h0_format h0_code h0_minus h0_m h0_power h0_infinite h0_none p1 p2 p3 = fm_X6_change_s3 h0_format h0_code h0_minus h0_m h0_power h0_infinite h0_none p1 p2 p3 x1 z6 := hT.trans (if_pos c7)
    refine lv_iconst (v := 0) hx hb dX6_change_42 (by decide) ?_
    have hEQ : fm_X6_change h0_format h0_code h0_minus h0_m h0_power h0_infinite h0_none p1 p2 p3 = (0, z6.2.1, z6.2.2.1, z6.2.2.2.1, z6.2.2.2.2.1, z6.2.2.2.2.2.1, z6.2.2.2.2.2.2.1, z6.2.2.2.2.2.2.2) := hT
    exact W.iret (v := 0) hx hb hr (fun t ht hW => ⟨by simp only [hEQ], by rw [ht]; simp only [hEQ, fw_sl]; exact hP, hS.F ht⟩) hS.2.2 dX6_change_43
