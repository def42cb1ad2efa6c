theorem ndX6_ofWhole : yX6_ofWhole.cls = RX6 ∧ yX6_ofWhole.cls ≠ "java/lang/invoke/MethodHandle" ∧ yX6_ofWhole.cls ≠ "java/lang/invoke/VarHandle" ∧ (parseMethodDescriptor yX6_ofWhole.desc).map (fun d => d.parameters.length) = some 4 := by decide +kernel
def fm_X6_ofWhole_s3 (h0_format : Int32) (h0_code : Int32) (h0_minus : Bool) (h0_m : Int64) (h0_power : Int32) (h0_infinite : Bool) (h0_none : Bool) (p1 : Int32) (p2 : Int32) (p3 : Int32) (p4 : Bool) (x1 : Bool) (z5 : Bool × fw_S7) : Int32 × fw_S7 := (0, z5.2.1, z5.2.2.1, z5.2.2.2.1, z5.2.2.2.2.1, z5.2.2.2.2.2.1, z5.2.2.2.2.2.2.1, z5.2.2.2.2.2.2.2)
def fm_X6_ofWhole_s7 (h0_format : Int32) (h0_code : Int32) (h0_minus : Bool) (h0_m : Int64) (h0_power : Int32) (h0_infinite : Bool) (h0_none : Bool) (p1 : Int32) (p2 : Int32) (p3 : Int32) (p4 : Bool) (x1 : Bool) (z5 : Bool × fw_S7) (x7 : Int64) (x8 : Int64) : Int32 × fw_S7 := (0, z5.2.1, z5.2.2.1, z5.2.2.2.1, z5.2.2.2.2.1, z5.2.2.2.2.2.1, z5.2.2.2.2.2.2.1, z5.2.2.2.2.2.2.2)
def fm_X6_ofWhole_s10 (h0_format : Int32) (h0_code : Int32) (h0_minus : Bool) (h0_m : Int64) (h0_power : Int32) (h0_infinite : Bool) (h0_none : Bool) (p1 : Int32) (p2 : Int32) (p3 : Int32) (p4 : Bool) (x1 : Bool) (z5 : Bool × fw_S7) (x7 : Int64) (x8 : Int64) (x12 : Bool) (x15 : Int64) : Int32 × fw_S7 := ((fm_X6_round p1 x12 x15 0 false z5.2.1).toInt32, z5.2.1, z5.2.2.1, z5.2.2.2.1, z5.2.2.2.2.1, z5.2.2.2.2.2.1, z5.2.2.2.2.2.2.1, z5.2.2.2.2.2.2.2)
def fm_X6_ofWhole_s9 (h0_format : Int32) (h0_code : Int32) (h0_minus : Bool) (h0_m : Int64) (h0_power : Int32) (h0_infinite : Bool) (h0_none : Bool) (p1 : Int32) (p2 : Int32) (p3 : Int32) (p4 : Bool) (x1 : Bool) (z5 : Bool × fw_S7) (x7 : Int64) (x8 : Int64) (x12 : Bool) : Int32 × fw_S7 := fm_X6_ofWhole_s10 h0_format h0_code h0_minus h0_m h0_power h0_infinite h0_none p1 p2 p3 p4 x1 z5 x7 x8 x12 (if 0 ≤ (lg_cmp x8 0) then x8 else 0 - x8)
def fm_X6_ofWhole_s8 (h0_format : Int32) (h0_code : Int32) (h0_minus : Bool) (h0_m : Int64) (h0_power : Int32) (h0_infinite : Bool) (h0_none : Bool) (p1 : Int32) (p2 : Int32) (p3 : Int32) (p4 : Bool) (x1 : Bool) (z5 : Bool × fw_S7) (x7 : Int64) (x8 : Int64) : Int32 × fw_S7 := fm_X6_ofWhole_s9 h0_format h0_code h0_minus h0_m h0_power h0_infinite h0_none p1 p2 p3 p4 x1 z5 x7 x8 (if 0 ≤ (lg_cmp x8 0) then false else true)
def fm_X6_ofWhole_s6 (h0_format : Int32) (h0_code : Int32) (h0_minus : Bool) (h0_m : Int64) (h0_power : Int32) (h0_infinite : Bool) (h0_none : Bool) (p1 : Int32) (p2 : Int32) (p3 : Int32) (p4 : Bool) (x1 : Bool) (z5 : Bool × fw_S7) (x7 : Int64) (x8 : Int64) : Int32 × fw_S7 := if (lg_cmp x8 0) = 0 then fm_X6_ofWhole_s7 h0_format h0_code h0_minus h0_m h0_power h0_infinite h0_none p1 p2 p3 p4 x1 z5 x7 x8 else fm_X6_ofWhole_s8 h0_format h0_code h0_minus h0_m h0_power h0_infinite h0_none p1 p2 p3 p4 x1 z5 x7 x8
def fm_X6_ofWhole_s5 (h0_format : Int32) (h0_code : Int32) (h0_minus : Bool) (h0_m : Int64) (h0_power : Int32) (h0_infinite : Bool) (h0_none : Bool) (p1 : Int32) (p2 : Int32) (p3 : Int32) (p4 : Bool) (x1 : Bool) (z5 : Bool × fw_S7) (x7 : Int64) : Int32 × fw_S7 := fm_X6_ofWhole_s6 h0_format h0_code h0_minus h0_m h0_power h0_infinite h0_none p1 p2 p3 p4 x1 z5 x7 (if (jb p4) = 0 then x7 else fm_X6_signed x7 p3)
def fm_X6_ofWhole_s4 (h0_format : Int32) (h0_code : Int32) (h0_minus : Bool) (h0_m : Int64) (h0_power : Int32) (h0_infinite : Bool) (h0_none : Bool) (p1 : Int32) (p2 : Int32) (p3 : Int32) (p4 : Bool) (x1 : Bool) (z5 : Bool × fw_S7) : Int32 × fw_S7 := fm_X6_ofWhole_s5 h0_format h0_code h0_minus h0_m h0_power h0_infinite h0_none p1 p2 p3 p4 x1 z5 (p2.toInt64 &&& (fm_X6_mask p3))
def fm_X6_ofWhole_s2 (h0_format : Int32) (h0_code : Int32) (h0_minus : Bool) (h0_m : Int64) (h0_power : Int32) (h0_infinite : Bool) (h0_none : Bool) (p1 : Int32) (p2 : Int32) (p3 : Int32) (p4 : Bool) (x1 : Bool) (z5 : Bool × fw_S7) : Int32 × fw_S7 := if (jb z5.1) = 0 then fm_X6_ofWhole_s3 h0_format h0_code h0_minus h0_m h0_power h0_infinite h0_none p1 p2 p3 p4 x1 z5 else fm_X6_ofWhole_s4 h0_format h0_code h0_minus h0_m h0_power h0_infinite h0_none p1 p2 p3 p4 x1 z5
def fm_X6_ofWhole_s1 (h0_format : Int32) (h0_code : Int32) (h0_minus : Bool) (h0_m : Int64) (h0_power : Int32) (h0_infinite : Bool) (h0_none : Bool) (p1 : Int32) (p2 : Int32) (p3 : Int32) (p4 : Bool) (x1 : Bool) : Int32 × fw_S7 := fm_X6_ofWhole_s2 h0_format h0_code h0_minus h0_m h0_power h0_infinite h0_none p1 p2 p3 p4 x1 (fm_X6_good h0_format h0_code h0_minus h0_m h0_power h0_infinite h0_none x1)
def fm_X6_ofWhole (h0_format : Int32) (h0_code : Int32) (h0_minus : Bool) (h0_m : Int64) (h0_power : Int32) (h0_infinite : Bool) (h0_none : Bool) (p1 : Int32) (p2 : Int32) (p3 : Int32) (p4 : Bool) : Int32 × fw_S7 := fm_X6_ofWhole_s1 h0_format h0_code h0_minus h0_m h0_power h0_infinite h0_none p1 p2 p3 p4 (if (jb (fm_X6_in p1 0 4)) = 0 then false else (if (jb (fm_X6_in p3 1 32)) = 0 then false else true))
-- SIMP X6_ofWhole: fm_X6_ofWhole, fm_X6_ofWhole_s1, fm_X6_ofWhole_s2, fm_X6_ofWhole_s4, fm_X6_ofWhole_s5, fm_X6_ofWhole_s6, fm_X6_ofWhole_s8, fm_X6_ofWhole_s9, fm_X6_ofWhole_s10, fm_X6_ofWhole_s7, fm_X6_ofWhole_s3
set_option maxHeartbeats 4000000 in
set_option maxRecDepth 100000 in
theorem k_X6_ofWhole (l : Launch) (dC : Nat → ClassId) (dI : Nat → Nat → Nat) (h0 : Nat) (h0_format : Int32) (h0_code : Int32) (h0_minus : Bool) (h0_m : Int64) (h0_power : Int32) (h0_infinite : Bool) (h0_none : Bool) (p1 : Int32) (p2 : Int32) (p3 : Int32) (p4 : Bool) : Met l yX6_ofWhole wsX6_ofWhole { frames := 3, cells := 0, slots := 0, locals := 92 } (fw_R (dC, dI) vwCl [(h0, .inr (3, [.int h0_format, .int h0_code, .int (jb h0_minus), .long h0_m, .int h0_power, .int (jb h0_infinite), .int (jb h0_none)]))] [.ref h0, .int p1, .int p2, .int p3, .int (jb p4)]) (fw_M (dC, dI) vwCl h0 3 (fw_sl (fm_X6_ofWhole h0_format h0_code h0_minus h0_m h0_power h0_infinite h0_none p1 p2 p3 p4).2) (some (.int ((fm_X6_ofWhole h0_format h0_code h0_minus h0_m h0_power h0_infinite h0_none p1 p2 p3 p4).1)))) 0 0 (fun q => q = h0) := by
  refine Met.ofW (cc := cX6_ofWhole) (maxL := 9) (ret := (some .int)) (by decide) rfl ?_
  intro p e s m args below meth c s₁ B hml hv
  obtain ⟨rfl, hP, hK⟩ := hv
  have hx := B.exec
  have hb := B.bytes
  have hr := B.returns
  have hts := atoms_spec (ws := wsX6_ofWhole) B.pre
  have htf : ∀ w ∈ fc_all, w.before _ s = true := fun w h => hts w (List.mem_cons_of_mem _ h)
  have hown : s.vm.findClass RX6 = some m.cls := findClass_of_methodNamed B.named
  have hlocks := B.notSynchronized
  have hP : va_P (dC, dI) vwCl [(h0, .inr (3, [.int h0_format, .int h0_code, .int (jb h0_minus), .long h0_m, .int h0_power, .int (jb h0_infinite), .int (jb h0_none)]))] s.heap := hP
  have hD : va_D (fun q => q = h0) [(h0, .inr (3, [.int h0_format, .int h0_code, .int (jb h0_minus), .long h0_m, .int h0_power, .int (jb h0_infinite), .int (jb h0_none)]))] := fw_D1 rfl
  have hS : va_S (fun q => q = h0) s.heap s.heap [] := va_S.rf
  have hl := lv_entry ([.ref h0, .int p1, .int p2, .int p3, .int (jb p4)]) (n := 9) (Nat.le_of_ble_eq_true rfl)
  rw [lg_entry_eq]
  generalize (lg_sl ([.ref h0, .int p1, .int p2, .int p3, .int (jb p4)]) ++ List.replicate (9 - (lg_sl ([.ref h0, .int p1, .int p2, .int p3, .int (jb p4)])).length) Slot.unset).toArray = ls at hl ⊢
  have hl : lv_has ls 9 [(0, .ref h0), (1, .int p1), (2, .int p2), (3, .int p3), (4, .int (jb p4))] := hl
  have hT : fm_X6_ofWhole h0_format h0_code h0_minus h0_m h0_power h0_infinite h0_none p1 p2 p3 p4 = fm_X6_ofWhole h0_format h0_code h0_minus h0_m h0_power h0_infinite h0_none p1 p2 p3 p4 := rfl
  refine lv_aload_n hx hb dX6_ofWhole_0 rfl (lv_at hl 0 rfl) ?_
  refine lv_iload_n hx hb dX6_ofWhole_1 rfl (lv_at hl 1 rfl) ?_
  refine lv_iconst (v := 0) hx hb dX6_ofWhole_2 (by decide) ?_
  refine lv_iconst (v := 4) hx hb dX6_ofWhole_3 (by decide) ?_
  refine fw_call (va_runS (As := [.int p1, .int 0, .int 4]) (rest := [.ref h0]) ⟨hx, hb, hml, hown, htf⟩ (k_X6_in l p1 0 4) (va_cwS 3 htf (gd_S wk369 wk370 wk3 wk371) rfl rfl rfl ndX6_in ⟨Nat.le_of_ble_eq_true rfl, Nat.le_of_ble_eq_true rfl⟩) fw_PS rfl rfl hl.1 rfl (lv_room (Nat.le_of_ble_eq_true rfl)) dX6_ofWhole_4 ⟨Nat.le_refl _, Nat.le_refl _⟩) ?_
  refine fw_join (j := 25) (ι := Bool) (LS := fun i ls => lv_has ls 9 [(0, .ref h0), (1, .int p1), (2, .int p2), (3, .int p3), (4, .int (jb p4))] ∧ i = (if (jb (fm_X6_in p1 0 4)) = 0 then false else (if (jb (fm_X6_in p3 1 32)) = 0 then false else true))) (ST := fun i => [.int (jb i), .ref h0]) ?_ (fun J2 => ?_)
  rotate_left
  · refine lv_if_eq (tgt := 24) hx hb dX6_ofWhole_7 (by decide) (fun c3 => ?_) (fun c3 => ?_)
    · refine lv_iconst (v := 0) hx hb dX6_ofWhole_24 (by decide) ?_
      exact J2 false ls ⟨lv_sub hl [0, 1, 2, 3, 4] rfl, by simp only [if_pos c3] <;> first | assumption | contradiction⟩
    · refine lv_iload_n hx hb dX6_ofWhole_10 rfl (lv_at hl 3 rfl) ?_
      refine lv_iconst (v := 1) hx hb dX6_ofWhole_11 (by decide) ?_
      refine lv_bipush (v := 32) hx hb dX6_ofWhole_12 (by decide) ?_
      refine fw_call (va_runS (As := [.int p3, .int 1, .int 32]) (rest := [.ref h0]) ⟨hx, hb, hml, hown, htf⟩ (k_X6_in l p3 1 32) (va_cwS 3 htf (gd_S wk369 wk370 wk3 wk371) rfl rfl rfl ndX6_in ⟨Nat.le_of_ble_eq_true rfl, Nat.le_of_ble_eq_true rfl⟩) fw_PS rfl rfl hl.1 rfl (lv_room (Nat.le_of_ble_eq_true rfl)) dX6_ofWhole_14 ⟨Nat.le_refl _, Nat.le_refl _⟩) ?_
      refine lv_if_eq (tgt := 24) hx hb dX6_ofWhole_17 (by decide) (fun c4 => ?_) (fun c4 => ?_)
      · refine lv_iconst (v := 0) hx hb dX6_ofWhole_24 (by decide) ?_
        exact J2 false ls ⟨lv_sub hl [0, 1, 2, 3, 4] rfl, by simp only [if_neg c3, if_pos c4] <;> first | assumption | contradiction⟩
      · refine lv_iconst (v := 1) hx hb dX6_ofWhole_20 (by decide) ?_
        refine lv_goto (tgt := 25) hx hb dX6_ofWhole_21 (by decide) ?_
        exact J2 true ls ⟨lv_sub hl [0, 1, 2, 3, 4] rfl, by simp only [if_neg c3, if_neg c4] <;> first | assumption | contradiction⟩
  rintro x1 ls ⟨hl, ex1⟩
  try dsimp only at hl ex1 ⊢
  have hT : fm_X6_ofWhole h0_format h0_code h0_minus h0_m h0_power h0_infinite h0_none p1 p2 p3 p4 = fm_X6_ofWhole_s1 h0_format h0_code h0_minus h0_m h0_power h0_infinite h0_none p1 p2 p3 p4 x1 := by rw [ex1]; exact hT
  refine fw_callM (va_runV (As := [.int (jb x1)]) (rest := []) ⟨hx, hb, hml, hown, htf⟩ (k_X6_good l dC dI h0 h0_format h0_code h0_minus h0_m h0_power h0_infinite h0_none x1) (cwV 1 htf (gd_V wk372 wk373 ws6 wk3 wk374) rfl rfl rfl ndX6_good ⟨Nat.le_of_ble_eq_true rfl, Nat.le_of_ble_eq_true rfl⟩) (fw_RV (va_recv hK hP (ci := 3) (q0 := 0) rfl rfl) hP hK) rfl rfl hl.1 rfl (lv_room (Nat.le_of_ble_eq_true rfl)) dX6_ofWhole_25 ⟨Nat.le_refl _, Nat.le_refl _⟩) hS rfl (fun H locs hP _ _ hS => ?_)
  have hT : fm_X6_ofWhole h0_format h0_code h0_minus h0_m h0_power h0_infinite h0_none p1 p2 p3 p4 = fm_X6_ofWhole_s2 h0_format h0_code h0_minus h0_m h0_power h0_infinite h0_none p1 p2 p3 p4 x1 (fm_X6_good h0_format h0_code h0_minus h0_m h0_power h0_infinite h0_none x1) := hT
  generalize ez5 : fm_X6_good h0_format h0_code h0_minus h0_m h0_power h0_infinite h0_none x1 = z5 at hP hT ⊢
  have hP : va_P (dC, dI) vwCl [(h0, .inr (3, [.int z5.2.1, .int z5.2.2.1, .int (jb z5.2.2.2.1), .long z5.2.2.2.2.1, .int z5.2.2.2.2.2.1, .int (jb z5.2.2.2.2.2.2.1), .int (jb z5.2.2.2.2.2.2.2)]))] H := hP
  have hD : va_D (fun q => q = h0) [(h0, .inr (3, [.int z5.2.1, .int z5.2.2.1, .int (jb z5.2.2.2.1), .long z5.2.2.2.2.1, .int z5.2.2.2.2.2.1, .int (jb z5.2.2.2.2.2.2.1), .int (jb z5.2.2.2.2.2.2.2)]))] := fw_D1 rfl
  refine W.eq (g2 := F0 m 28 ls [.int (jb z5.1)]) rfl ?_
  refine lv_if_ne (tgt := 33) hx hb dX6_ofWhole_28 (by decide) (fun c6 => ?_) (fun c6 => ?_)
  · have hT : fm_X6_ofWhole h0_format h0_code h0_minus h0_m h0_power h0_infinite h0_none p1 p2 p3 p4 = fm_X6_ofWhole_s4 h0_format h0_code h0_minus h0_m h0_power h0_infinite h0_none p1 p2 p3 p4 x1 z5 := hT.trans (if_neg c6)
    refine lv_iload_n hx hb dX6_ofWhole_33 rfl (lv_at hl 2 rfl) ?_
    refine lv_i2l (v := p2.toInt64) hx hb dX6_ofWhole_34 rfl ?_
    refine lv_iload_n hx hb dX6_ofWhole_35 rfl (lv_at hl 3 rfl) ?_
    refine fw_call (va_runS (As := [.int p3]) (rest := [.long p2.toInt64]) ⟨hx, hb, hml, hown, htf⟩ (k_X6_mask l p3) (va_cwS 1 htf (gd_S wk391 wk392 wk3 wk393) rfl rfl rfl ndX6_mask ⟨Nat.le_of_ble_eq_true rfl, Nat.le_of_ble_eq_true rfl⟩) fw_PS rfl rfl hl.1 rfl (lv_room (Nat.le_of_ble_eq_true rfl)) dX6_ofWhole_36 ⟨Nat.le_refl _, Nat.le_refl _⟩) ?_
    refine lv_land hx hb dX6_ofWhole_39 ?_
    refine lv_topl (fun x7 ex7 => ?_)
    have hT : fm_X6_ofWhole h0_format h0_code h0_minus h0_m h0_power h0_infinite h0_none p1 p2 p3 p4 = fm_X6_ofWhole_s5 h0_format h0_code h0_minus h0_m h0_power h0_infinite h0_none p1 p2 p3 p4 x1 z5 x7 := by rw [ex7]; exact hT
    refine lv_lstore (lv' := [(5, .long x7), (0, .ref h0), (1, .int p1), (2, .int p2), (3, .int p3), (4, .int (jb p4))]) hx hb dX6_ofWhole_40 hl (by decide) rfl (fun ls hl => ?_)
    refine lv_iload hx hb dX6_ofWhole_42 (lv_at hl 5 rfl) ?_
    refine fw_join (j := 58) (ι := Int64) (LS := fun i ls => lv_has ls 9 [(5, .long x7), (0, .ref h0), (1, .int p1), (2, .int p2), (3, .int p3), (4, .int (jb p4))] ∧ i = (if (jb p4) = 0 then x7 else fm_X6_signed x7 p3)) (ST := fun i => [.long i]) ?_ (fun J9 => ?_)
    rotate_left
    · refine lv_if_eq (tgt := 56) hx hb dX6_ofWhole_44 (by decide) (fun c10 => ?_) (fun c10 => ?_)
      · refine lv_lload hx hb dX6_ofWhole_56 (lv_at hl 0 rfl) ?_
        exact J9 x7 ls ⟨lv_sub hl [0, 1, 2, 3, 4, 5] rfl, by simp only [if_pos c10] <;> first | assumption | contradiction⟩
      · refine lv_lload hx hb dX6_ofWhole_47 (lv_at hl 0 rfl) ?_
        refine lv_iload_n hx hb dX6_ofWhole_49 rfl (lv_at hl 4 rfl) ?_
        refine fw_call (va_runS (As := [.long x7, .int p3]) (rest := []) ⟨hx, hb, hml, hown, htf⟩ (k_X6_signed l x7 p3) (va_cwS 2 htf (gd_S wk466 wk467 wk3 wk468) rfl rfl rfl ndX6_signed ⟨Nat.le_of_ble_eq_true rfl, Nat.le_of_ble_eq_true rfl⟩) fw_PS rfl rfl hl.1 rfl (lv_room (Nat.le_of_ble_eq_true rfl)) dX6_ofWhole_50 ⟨Nat.le_refl _, Nat.le_refl _⟩) ?_
        refine lv_goto (tgt := 58) hx hb dX6_ofWhole_53 (by decide) ?_
        exact J9 (fm_X6_signed x7 p3) ls ⟨lv_sub hl [0, 1, 2, 3, 4, 5] rfl, by simp only [if_neg c10] <;> first | assumption | contradiction⟩
    rintro x8 ls ⟨hl, ex8⟩
    try dsimp only at hl ex8 ⊢
    have hT : fm_X6_ofWhole h0_format h0_code h0_minus h0_m h0_power h0_infinite h0_none p1 p2 p3 p4 = fm_X6_ofWhole_s6 h0_format h0_code h0_minus h0_m h0_power h0_infinite h0_none p1 p2 p3 p4 x1 z5 x7 x8 := by rw [ex8]; exact hT
    refine lv_lstore (lv' := [(7, .long x8), (5, .long x7), (0, .ref h0), (1, .int p1), (2, .int p2), (3, .int p3), (4, .int (jb p4))]) hx hb dX6_ofWhole_58 hl (by decide) rfl (fun ls hl => ?_)
    refine lv_lload hx hb dX6_ofWhole_60 (lv_at hl 0 rfl) ?_
    refine lv_lconst (v := 0) hx hb dX6_ofWhole_62 (by decide) ?_
    refine W.lcmp hx hb dX6_ofWhole_63 ?_
    refine lv_if_ne (tgt := 71) hx hb dX6_ofWhole_64 (by decide) (fun c11 => ?_) (fun c11 => ?_)
    · have hT : fm_X6_ofWhole h0_format h0_code h0_minus h0_m h0_power h0_infinite h0_none p1 p2 p3 p4 = fm_X6_ofWhole_s8 h0_format h0_code h0_minus h0_m h0_power h0_infinite h0_none p1 p2 p3 p4 x1 z5 x7 x8 := hT.trans (if_neg c11)
      refine lv_iload_n hx hb dX6_ofWhole_71 rfl (lv_at hl 3 rfl) ?_
      refine lv_lload hx hb dX6_ofWhole_72 (lv_at hl 0 rfl) ?_
      refine lv_lconst (v := 0) hx hb dX6_ofWhole_74 (by decide) ?_
      refine W.lcmp hx hb dX6_ofWhole_75 ?_
      refine fw_join (j := 84) (ι := Bool) (LS := fun i ls => lv_has ls 9 [(7, .long x8), (5, .long x7), (0, .ref h0), (1, .int p1), (2, .int p2), (3, .int p3), (4, .int (jb p4))] ∧ i = (if 0 ≤ (lg_cmp x8 0) then false else true)) (ST := fun i => [.int (jb i), .int p1]) ?_ (fun J13 => ?_)
      rotate_left
      · refine lv_if_ge (tgt := 83) hx hb dX6_ofWhole_76 (by decide) (fun c14 => ?_) (fun c14 => ?_)
        · refine lv_iconst (v := 0) hx hb dX6_ofWhole_83 (by decide) ?_
          exact J13 false ls ⟨lv_sub hl [0, 1, 2, 3, 4, 5, 6] rfl, by simp only [if_pos c14] <;> first | assumption | contradiction⟩
        · refine lv_iconst (v := 1) hx hb dX6_ofWhole_79 (by decide) ?_
          refine lv_goto (tgt := 84) hx hb dX6_ofWhole_80 (by decide) ?_
          exact J13 true ls ⟨lv_sub hl [0, 1, 2, 3, 4, 5, 6] rfl, by simp only [if_neg c14] <;> first | assumption | contradiction⟩
      rintro x12 ls ⟨hl, ex12⟩
      try dsimp only at hl ex12 ⊢
      have hT : fm_X6_ofWhole h0_format h0_code h0_minus h0_m h0_power h0_infinite h0_none p1 p2 p3 p4 = fm_X6_ofWhole_s9 h0_format h0_code h0_minus h0_m h0_power h0_infinite h0_none p1 p2 p3 p4 x1 z5 x7 x8 x12 := by rw [ex12]; exact hT
      refine lv_lload hx hb dX6_ofWhole_84 (lv_at hl 0 rfl) ?_
      refine lv_lconst (v := 0) hx hb dX6_ofWhole_86 (by decide) ?_
      refine W.lcmp hx hb dX6_ofWhole_87 ?_
      refine fw_join (j := 100) (ι := Int64) (LS := fun i ls => lv_has ls 9 [(7, .long x8), (5, .long x7), (0, .ref h0), (1, .int p1), (2, .int p2), (3, .int p3), (4, .int (jb p4))] ∧ i = (if 0 ≤ (lg_cmp x8 0) then x8 else 0 - x8)) (ST := fun i => [.long i, .int (jb x12), .int p1]) ?_ (fun J16 => ?_)
      rotate_left
      · refine lv_if_ge (tgt := 98) hx hb dX6_ofWhole_88 (by decide) (fun c17 => ?_) (fun c17 => ?_)
        · refine lv_lload hx hb dX6_ofWhole_98 (lv_at hl 0 rfl) ?_
          exact J16 x8 ls ⟨lv_sub hl [0, 1, 2, 3, 4, 5, 6] rfl, by simp only [if_pos c17] <;> first | assumption | contradiction⟩
        · refine lv_lconst (v := 0) hx hb dX6_ofWhole_91 (by decide) ?_
          refine lv_lload hx hb dX6_ofWhole_92 (lv_at hl 0 rfl) ?_
          refine lv_lsub hx hb dX6_ofWhole_94 ?_
          refine lv_goto (tgt := 100) hx hb dX6_ofWhole_95 (by decide) ?_
          exact J16 (0 - x8) ls ⟨lv_sub hl [0, 1, 2, 3, 4, 5, 6] rfl, by simp only [if_neg c17] <;> first | assumption | contradiction⟩
      rintro x15 ls ⟨hl, ex15⟩
      try dsimp only at hl ex15 ⊢
      have hT : fm_X6_ofWhole h0_format h0_code h0_minus h0_m h0_power h0_infinite h0_none p1 p2 p3 p4 = fm_X6_ofWhole_s10 h0_format h0_code h0_minus h0_m h0_power h0_infinite h0_none p1 p2 p3 p4 x1 z5 x7 x8 x12 x15 := by rw [ex15]; exact hT
      refine lv_iconst (v := 0) hx hb dX6_ofWhole_100 (by decide) ?_
      refine lv_iconst (v := 0) hx hb dX6_ofWhole_101 (by decide) ?_
      refine lv_aload_n hx hb dX6_ofWhole_102 rfl (lv_at hl 2 rfl) ?_
      refine va_get (D := (dC, dI)) (ci := 3) (v := .int z5.2.1) (C := RX6) (T := TX6) (N := 7) hx hb htf hiX6 hown hK hP 0 rfl rfl 0 (by decide) (htf _ wk351) (fun _ h9 => h9) rfl dX6_ofWhole_103 ?_
      refine fw_call (va_runS (As := [.int p1, .int (jb x12), .long x15, .int 0, .int (jb false), .int z5.2.1]) (rest := []) ⟨hx, hb, hml, hown, htf⟩ (k_X6_round l p1 x12 x15 0 false z5.2.1) (va_cwS 6 htf (gd_S wk403 wk404 wk3 wk405) rfl rfl rfl ndX6_round ⟨Nat.le_of_ble_eq_true rfl, Nat.le_of_ble_eq_true rfl⟩) fw_PS rfl rfl hl.1 rfl (lv_room (Nat.le_of_ble_eq_true rfl)) dX6_ofWhole_106 ⟨Nat.le_refl _, Nat.le_refl _⟩) ?_
      refine lv_l2i (v := (fm_X6_round p1 x12 x15 0 false z5.2.1).toInt32) hx hb dX6_ofWhole_109 rfl ?_
      have hEQ : fm_X6_ofWhole h0_format h0_code h0_minus h0_m h0_power h0_infinite h0_none p1 p2 p3 p4 = ((fm_X6_round p1 x12 x15 0 false z5.2.1).toInt32, z5.2.1, z5.2.2.1, z5.2.2.2.1, z5.2.2.2.2.1, z5.2.2.2.2.2.1, z5.2.2.2.2.2.2.1, z5.2.2.2.2.2.2.2) := hT
      exact W.iret (v := (fm_X6_round p1 x12 x15 0 false z5.2.1).toInt32) hx hb hr (fun t ht hW => ⟨by simp only [hEQ], by rw [ht]; simp only [hEQ, fw_sl]; exact hP, hS.F ht⟩) hS.2.2 dX6_ofWhole_110
    · have hT : fm_X6_ofWhole h0_format h0_code h0_minus h0_m h0_power h0_infinite h0_none p1 p2 p3 p4 = fm_X6_ofWhole_s7 h0_format h0_code h0_minus h0_m h0_power h0_infinite h0_none p1 p2 p3 p4 x1 z5 x7 x8 := hT.trans (if_pos c11)
      refine lv_iconst (v := 0) hx hb dX6_ofWhole_67 (by decide) ?_
      refine lv_goto (tgt := 110) hx hb dX6_ofWhole_68 (by decide) ?_
      have hEQ : fm_X6_ofWhole h0_format h0_code h0_minus h0_m h0_power h0_infinite h0_none p1 p2 p3 p4 = (0, z5.2.1, z5.2.2.1, z5.2.2.2.1, z5.2.2.2.2.1, z5.2.2.2.2.2.1, z5.2.2.2.2.2.2.1, z5.2.2.2.2.2.2.2) := hT
      exact W.iret (v := 0) hx hb hr (fun t ht hW => ⟨by simp only [hEQ], by rw [ht]; simp only [hEQ, fw_sl]; exact hP, hS.F ht⟩) hS.2.2 dX6_ofWhole_110
  · have hT : fm_X6_ofWhole h0_format h0_code h0_minus h0_m h0_power h0_infinite h0_none p1 p2 p3 p4 = fm_X6_ofWhole_s3 h0_format h0_code h0_minus h0_m h0_power h0_infinite h0_none p1 p2 p3 p4 x1 z5 := hT.trans (if_pos c6)
    refine lv_iconst (v := 0) hx hb dX6_ofWhole_31 (by decide) ?_
    have hEQ : fm_X6_ofWhole h0_format h0_code h0_minus h0_m h0_power h0_infinite h0_none p1 p2 p3 p4 = (0, z5.2.1, z5.2.2.1, z5.2.2.2.1, z5.2.2.2.2.1, z5.2.2.2.2.2.1, z5.2.2.2.2.2.2.1, z5.2.2.2.2.2.2.2) := hT
    exact W.iret (v := 0) hx hb hr (fun t ht hW => ⟨by simp only [hEQ], by rw [ht]; simp only [hEQ, fw_sl]; exact hP, hS.F ht⟩) hS.2.2 dX6_ofWhole_32
