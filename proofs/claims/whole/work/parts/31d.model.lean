theorem ndX6_compared : yX6_compared.cls = RX6 ∧ yX6_compared.cls ≠ "java/lang/invoke/MethodHandle" ∧ yX6_compared.cls ≠ "java/lang/invoke/VarHandle" ∧ (parseMethodDescriptor yX6_compared.desc).map (fun d => d.parameters.length) = some 4 := by decide +kernel
def fm_X6_compared_s4 (h0_format : Int32) (h0_code : Int32) (h0_minus : Bool) (h0_m : Int64) (h0_power : Int32) (h0_infinite : Bool) (h0_none : Bool) (p1 : Int32) (p2 : Int64) (p3 : Int64) (p4 : Int32) (z1 : Int32 × fw_S7) (x2 : Bool) : Int64 × fw_S7 := (1, z1.2.1, z1.2.2.1, z1.2.2.2.1, z1.2.2.2.2.1, z1.2.2.2.2.2.1, z1.2.2.2.2.2.2.1, z1.2.2.2.2.2.2.2)
def fm_X6_compared_s3 (h0_format : Int32) (h0_code : Int32) (h0_minus : Bool) (h0_m : Int64) (h0_power : Int32) (h0_infinite : Bool) (h0_none : Bool) (p1 : Int32) (p2 : Int64) (p3 : Int64) (p4 : Int32) (z1 : Int32 × fw_S7) (x2 : Bool) : Int64 × fw_S7 := (0, z1.2.1, z1.2.2.1, z1.2.2.2.1, z1.2.2.2.2.1, z1.2.2.2.2.2.1, z1.2.2.2.2.2.2.1, z1.2.2.2.2.2.2.2)
def fm_X6_compared_s2 (h0_format : Int32) (h0_code : Int32) (h0_minus : Bool) (h0_m : Int64) (h0_power : Int32) (h0_infinite : Bool) (h0_none : Bool) (p1 : Int32) (p2 : Int64) (p3 : Int64) (p4 : Int32) (z1 : Int32 × fw_S7) (x2 : Bool) : Int64 × fw_S7 := if (jb x2) = 0 then fm_X6_compared_s3 h0_format h0_code h0_minus h0_m h0_power h0_infinite h0_none p1 p2 p3 p4 z1 x2 else fm_X6_compared_s4 h0_format h0_code h0_minus h0_m h0_power h0_infinite h0_none p1 p2 p3 p4 z1 x2
def fm_X6_compared_s1 (h0_format : Int32) (h0_code : Int32) (h0_minus : Bool) (h0_m : Int64) (h0_power : Int32) (h0_infinite : Bool) (h0_none : Bool) (p1 : Int32) (p2 : Int64) (p3 : Int64) (p4 : Int32) (z1 : Int32 × fw_S7) : Int64 × fw_S7 := fm_X6_compared_s2 h0_format h0_code h0_minus h0_m h0_power h0_infinite h0_none p1 p2 p3 p4 z1 (if z1.1 = 2 then false else (if p1 = 54 then (if 0 < z1.1 then false else true) else (if p1 = 55 then (if 0 ≤ z1.1 then false else true) else (if p1 = 56 then (if z1.1 < 0 then false else true) else (if p1 = 57 then (if z1.1 ≤ 0 then false else true) else (if z1.1 = 0 then true else false))))))
def fm_X6_compared (h0_format : Int32) (h0_code : Int32) (h0_minus : Bool) (h0_m : Int64) (h0_power : Int32) (h0_infinite : Bool) (h0_none : Bool) (p1 : Int32) (p2 : Int64) (p3 : Int64) (p4 : Int32) : Int64 × fw_S7 := fm_X6_compared_s1 h0_format h0_code h0_minus h0_m h0_power h0_infinite h0_none p1 p2 p3 p4 (fm_X6_order h0_format h0_code h0_minus h0_m h0_power h0_infinite h0_none p2 p3 p4)
-- SIMP X6_compared: fm_X6_compared, fm_X6_compared_s1, fm_X6_compared_s2, fm_X6_compared_s3, fm_X6_compared_s4
set_option maxHeartbeats 4000000 in
set_option maxRecDepth 100000 in
theorem k_X6_compared (l : Launch) (dC : Nat → ClassId) (dI : Nat → Nat → Nat) (h0 : Nat) (h0_format : Int32) (h0_code : Int32) (h0_minus : Bool) (h0_m : Int64) (h0_power : Int32) (h0_infinite : Bool) (h0_none : Bool) (p1 : Int32) (p2 : Int64) (p3 : Int64) (p4 : Int32) : Met l yX6_compared wsX6_compared { frames := 3, cells := 0, slots := 0, locals := 80 } (fw_R (dC, dI) vwCl [(h0, .inr (3, [.int h0_format, .int h0_code, .int (jb h0_minus), .long h0_m, .int h0_power, .int (jb h0_infinite), .int (jb h0_none)]))] [.ref h0, .int p1, .long p2, .long p3, .int p4]) (fw_M (dC, dI) vwCl h0 3 (fw_sl (fm_X6_compared h0_format h0_code h0_minus h0_m h0_power h0_infinite h0_none p1 p2 p3 p4).2) (some (.long ((fm_X6_compared h0_format h0_code h0_minus h0_m h0_power h0_infinite h0_none p1 p2 p3 p4).1)))) 0 0 (fun q => q = h0) := by
  refine Met.ofW (cc := cX6_compared) (maxL := 9) (ret := (some .long)) (by decide) rfl ?_
  intro p e s m args below meth c s₁ B hml hv
  obtain ⟨rfl, hP, hK⟩ := hv
  have hx := B.exec
  have hb := B.bytes
  have hr := B.returns
  have hts := atoms_spec (ws := wsX6_compared) B.pre
  have htf : ∀ w ∈ fc_all, w.before _ s = true := fun w h => hts w (List.mem_cons_of_mem _ h)
  have hown : s.vm.findClass RX6 = some m.cls := findClass_of_methodNamed B.named
  have hlocks := B.notSynchronized
  have hP : va_P (dC, dI) vwCl [(h0, .inr (3, [.int h0_format, .int h0_code, .int (jb h0_minus), .long h0_m, .int h0_power, .int (jb h0_infinite), .int (jb h0_none)]))] s.heap := hP
  have hD : va_D (fun q => q = h0) [(h0, .inr (3, [.int h0_format, .int h0_code, .int (jb h0_minus), .long h0_m, .int h0_power, .int (jb h0_infinite), .int (jb h0_none)]))] := fw_D1 rfl
  have hS : va_S (fun q => q = h0) s.heap s.heap [] := va_S.rf
  have hl := lv_entry ([.ref h0, .int p1, .long p2, .long p3, .int p4]) (n := 9) (Nat.le_of_ble_eq_true rfl)
  rw [lg_entry_eq]
  generalize (lg_sl ([.ref h0, .int p1, .long p2, .long p3, .int p4]) ++ List.replicate (9 - (lg_sl ([.ref h0, .int p1, .long p2, .long p3, .int p4])).length) Slot.unset).toArray = ls at hl ⊢
  have hl : lv_has ls 9 [(0, .ref h0), (1, .int p1), (2, .long p2), (4, .long p3), (6, .int p4)] := hl
  have hT : fm_X6_compared h0_format h0_code h0_minus h0_m h0_power h0_infinite h0_none p1 p2 p3 p4 = fm_X6_compared h0_format h0_code h0_minus h0_m h0_power h0_infinite h0_none p1 p2 p3 p4 := rfl
  refine lv_aload_n hx hb dX6_compared_0 rfl (lv_at hl 0 rfl) ?_
  refine lv_lload_n hx hb dX6_compared_1 rfl (lv_at hl 2 rfl) ?_
  refine lv_lload hx hb dX6_compared_2 (lv_at hl 3 rfl) ?_
  refine lv_iload hx hb dX6_compared_4 (lv_at hl 4 rfl) ?_
  refine fw_callM (va_runV (As := [.long p2, .long p3, .int p4]) (rest := []) ⟨hx, hb, hml, hown, htf⟩ (k_X6_order l dC dI h0 h0_format h0_code h0_minus h0_m h0_power h0_infinite h0_none p2 p3 p4) (cwV 3 htf (gd_V wk441 wk442 ws14 wk3 wk443) rfl rfl rfl ndX6_order ⟨Nat.le_of_ble_eq_true rfl, Nat.le_of_ble_eq_true rfl⟩) (fw_RV (va_recv hK hP (ci := 3) (q0 := 0) rfl rfl) hP hK) rfl rfl hl.1 rfl (lv_room (Nat.le_of_ble_eq_true rfl)) dX6_compared_6 ⟨Nat.le_refl _, Nat.le_refl _⟩) hS rfl (fun H locs hP _ _ hS => ?_)
  have hT : fm_X6_compared h0_format h0_code h0_minus h0_m h0_power h0_infinite h0_none p1 p2 p3 p4 = fm_X6_compared_s1 h0_format h0_code h0_minus h0_m h0_power h0_infinite h0_none p1 p2 p3 p4 (fm_X6_order h0_format h0_code h0_minus h0_m h0_power h0_infinite h0_none p2 p3 p4) := hT
  generalize ez1 : fm_X6_order h0_format h0_code h0_minus h0_m h0_power h0_infinite h0_none p2 p3 p4 = z1 at hP hT ⊢
  have hP : va_P (dC, dI) vwCl [(h0, .inr (3, [.int z1.2.1, .int z1.2.2.1, .int (jb z1.2.2.2.1), .long z1.2.2.2.2.1, .int z1.2.2.2.2.2.1, .int (jb z1.2.2.2.2.2.2.1), .int (jb z1.2.2.2.2.2.2.2)]))] H := hP
  have hD : va_D (fun q => q = h0) [(h0, .inr (3, [.int z1.2.1, .int z1.2.2.1, .int (jb z1.2.2.2.1), .long z1.2.2.2.2.1, .int z1.2.2.2.2.2.1, .int (jb z1.2.2.2.2.2.2.1), .int (jb z1.2.2.2.2.2.2.2)]))] := fw_D1 rfl
  refine W.eq (g2 := F0 m 9 ls [.int z1.1]) rfl ?_
  refine lv_istore (lv' := [(7, .int z1.1), (0, .ref h0), (1, .int p1), (2, .long p2), (4, .long p3), (6, .int p4)]) hx hb dX6_compared_9 hl (by decide) rfl (fun ls hl => ?_)
  refine lv_iload hx hb dX6_compared_11 (lv_at hl 0 rfl) ?_
  refine lv_iconst (v := 2) hx hb dX6_compared_13 (by decide) ?_
  refine fw_join (j := 83) (ι := Bool) (LS := fun i ls => lv_has ls 9 [(7, .int z1.1), (0, .ref h0), (1, .int p1), (2, .long p2), (4, .long p3), (6, .int p4)] ∧ i = (if z1.1 = 2 then false else (if p1 = 54 then (if 0 < z1.1 then false else true) else (if p1 = 55 then (if 0 ≤ z1.1 then false else true) else (if p1 = 56 then (if z1.1 < 0 then false else true) else (if p1 = 57 then (if z1.1 ≤ 0 then false else true) else (if z1.1 = 0 then true else false))))))) (ST := fun i => [.int (jb i)]) ?_ (fun J3 => ?_)
  rotate_left
  · refine lv_icmp_eq (tgt := 82) hx hb dX6_compared_14 (by decide) (fun c4 => ?_) (fun c4 => ?_)
    · refine lv_iconst (v := 0) hx hb dX6_compared_82 (by decide) ?_
      exact J3 false ls ⟨lv_sub hl [0, 1, 2, 3, 4, 5] rfl, by simp only [if_pos c4] <;> first | assumption | contradiction⟩
    · refine lv_iload_n hx hb dX6_compared_17 rfl (lv_at hl 2 rfl) ?_
      refine lv_bipush (v := 54) hx hb dX6_compared_18 (by decide) ?_
      refine lv_icmp_ne (tgt := 31) hx hb dX6_compared_20 (by decide) (fun c5 => ?_) (fun c5 => ?_)
      · refine lv_iload_n hx hb dX6_compared_31 rfl (lv_at hl 2 rfl) ?_
        refine lv_bipush (v := 55) hx hb dX6_compared_32 (by decide) ?_
        refine lv_icmp_ne (tgt := 45) hx hb dX6_compared_34 (by decide) (fun c6 => ?_) (fun c6 => ?_)
        · refine lv_iload_n hx hb dX6_compared_45 rfl (lv_at hl 2 rfl) ?_
          refine lv_bipush (v := 56) hx hb dX6_compared_46 (by decide) ?_
          refine lv_icmp_ne (tgt := 59) hx hb dX6_compared_48 (by decide) (fun c7 => ?_) (fun c7 => ?_)
          · refine lv_iload_n hx hb dX6_compared_59 rfl (lv_at hl 2 rfl) ?_
            refine lv_bipush (v := 57) hx hb dX6_compared_60 (by decide) ?_
            refine lv_icmp_ne (tgt := 73) hx hb dX6_compared_62 (by decide) (fun c8 => ?_) (fun c8 => ?_)
            · refine lv_iload hx hb dX6_compared_73 (lv_at hl 0 rfl) ?_
              refine lv_if_ne (tgt := 82) hx hb dX6_compared_75 (by decide) (fun c9 => ?_) (fun c9 => ?_)
              · refine lv_iconst (v := 0) hx hb dX6_compared_82 (by decide) ?_
                exact J3 false ls ⟨lv_sub hl [0, 1, 2, 3, 4, 5] rfl, by simp only [if_neg c4, if_neg c5, if_neg c6, if_neg c7, if_neg c8, if_neg c9] <;> first | assumption | contradiction⟩
              · refine lv_iconst (v := 1) hx hb dX6_compared_78 (by decide) ?_
                refine lv_goto (tgt := 83) hx hb dX6_compared_79 (by decide) ?_
                exact J3 true ls ⟨lv_sub hl [0, 1, 2, 3, 4, 5] rfl, by simp only [if_neg c4, if_neg c5, if_neg c6, if_neg c7, if_neg c8, if_pos c9] <;> first | assumption | contradiction⟩
            · refine lv_iload hx hb dX6_compared_65 (lv_at hl 0 rfl) ?_
              refine lv_if_le (tgt := 82) hx hb dX6_compared_67 (by decide) (fun c10 => ?_) (fun c10 => ?_)
              · refine lv_iconst (v := 0) hx hb dX6_compared_82 (by decide) ?_
                exact J3 false ls ⟨lv_sub hl [0, 1, 2, 3, 4, 5] rfl, by simp only [if_neg c4, if_neg c5, if_neg c6, if_neg c7, if_pos c8, if_pos c10] <;> first | assumption | contradiction⟩
              · refine lv_goto (tgt := 78) hx hb dX6_compared_70 (by decide) ?_
                refine lv_iconst (v := 1) hx hb dX6_compared_78 (by decide) ?_
                refine lv_goto (tgt := 83) hx hb dX6_compared_79 (by decide) ?_
                exact J3 true ls ⟨lv_sub hl [0, 1, 2, 3, 4, 5] rfl, by simp only [if_neg c4, if_neg c5, if_neg c6, if_neg c7, if_pos c8, if_neg c10] <;> first | assumption | contradiction⟩
          · refine lv_iload hx hb dX6_compared_51 (lv_at hl 0 rfl) ?_
            refine lv_if_lt (tgt := 82) hx hb dX6_compared_53 (by decide) (fun c11 => ?_) (fun c11 => ?_)
            · refine lv_iconst (v := 0) hx hb dX6_compared_82 (by decide) ?_
              exact J3 false ls ⟨lv_sub hl [0, 1, 2, 3, 4, 5] rfl, by simp only [if_neg c4, if_neg c5, if_neg c6, if_pos c7, if_pos c11] <;> first | assumption | contradiction⟩
            · refine lv_goto (tgt := 78) hx hb dX6_compared_56 (by decide) ?_
              refine lv_iconst (v := 1) hx hb dX6_compared_78 (by decide) ?_
              refine lv_goto (tgt := 83) hx hb dX6_compared_79 (by decide) ?_
              exact J3 true ls ⟨lv_sub hl [0, 1, 2, 3, 4, 5] rfl, by simp only [if_neg c4, if_neg c5, if_neg c6, if_pos c7, if_neg c11] <;> first | assumption | contradiction⟩
        · refine lv_iload hx hb dX6_compared_37 (lv_at hl 0 rfl) ?_
          refine lv_if_ge (tgt := 82) hx hb dX6_compared_39 (by decide) (fun c12 => ?_) (fun c12 => ?_)
          · refine lv_iconst (v := 0) hx hb dX6_compared_82 (by decide) ?_
            exact J3 false ls ⟨lv_sub hl [0, 1, 2, 3, 4, 5] rfl, by simp only [if_neg c4, if_neg c5, if_pos c6, if_pos c12] <;> first | assumption | contradiction⟩
          · refine lv_goto (tgt := 78) hx hb dX6_compared_42 (by decide) ?_
            refine lv_iconst (v := 1) hx hb dX6_compared_78 (by decide) ?_
            refine lv_goto (tgt := 83) hx hb dX6_compared_79 (by decide) ?_
            exact J3 true ls ⟨lv_sub hl [0, 1, 2, 3, 4, 5] rfl, by simp only [if_neg c4, if_neg c5, if_pos c6, if_neg c12] <;> first | assumption | contradiction⟩
      · refine lv_iload hx hb dX6_compared_23 (lv_at hl 0 rfl) ?_
        refine lv_if_gt (tgt := 82) hx hb dX6_compared_25 (by decide) (fun c13 => ?_) (fun c13 => ?_)
        · refine lv_iconst (v := 0) hx hb dX6_compared_82 (by decide) ?_
          exact J3 false ls ⟨lv_sub hl [0, 1, 2, 3, 4, 5] rfl, by simp only [if_neg c4, if_pos c5, if_pos c13] <;> first | assumption | contradiction⟩
        · refine lv_goto (tgt := 78) hx hb dX6_compared_28 (by decide) ?_
          refine lv_iconst (v := 1) hx hb dX6_compared_78 (by decide) ?_
          refine lv_goto (tgt := 83) hx hb dX6_compared_79 (by decide) ?_
          exact J3 true ls ⟨lv_sub hl [0, 1, 2, 3, 4, 5] rfl, by simp only [if_neg c4, if_pos c5, if_neg c13] <;> first | assumption | contradiction⟩
  rintro x2 ls ⟨hl, ex2⟩
  try dsimp only at hl ex2 ⊢
  have hT : fm_X6_compared h0_format h0_code h0_minus h0_m h0_power h0_infinite h0_none p1 p2 p3 p4 = fm_X6_compared_s2 h0_format h0_code h0_minus h0_m h0_power h0_infinite h0_none p1 p2 p3 p4 z1 x2 := by rw [ex2]; exact hT
  refine lv_istore (lv' := [(8, .int (jb x2)), (7, .int z1.1), (0, .ref h0), (1, .int p1), (2, .long p2), (4, .long p3), (6, .int p4)]) hx hb dX6_compared_83 hl (by decide) rfl (fun ls hl => ?_)
  refine lv_iload hx hb dX6_compared_85 (lv_at hl 0 rfl) ?_
  refine lv_if_eq (tgt := 94) hx hb dX6_compared_87 (by decide) (fun c14 => ?_) (fun c14 => ?_)
  · have hT : fm_X6_compared h0_format h0_code h0_minus h0_m h0_power h0_infinite h0_none p1 p2 p3 p4 = fm_X6_compared_s3 h0_format h0_code h0_minus h0_m h0_power h0_infinite h0_none p1 p2 p3 p4 z1 x2 := hT.trans (if_pos c14)
    refine lv_lconst (v := 0) hx hb dX6_compared_94 (by decide) ?_
    have hEQ : fm_X6_compared h0_format h0_code h0_minus h0_m h0_power h0_infinite h0_none p1 p2 p3 p4 = (0, z1.2.1, z1.2.2.1, z1.2.2.2.1, z1.2.2.2.2.1, z1.2.2.2.2.2.1, z1.2.2.2.2.2.2.1, z1.2.2.2.2.2.2.2) := hT
    exact W.lret (v := 0) hx hb hr (fun t ht hW => ⟨by simp only [hEQ], by rw [ht]; simp only [hEQ, fw_sl]; exact hP, hS.F ht⟩) hS.2.2 dX6_compared_95
  · have hT : fm_X6_compared h0_format h0_code h0_minus h0_m h0_power h0_infinite h0_none p1 p2 p3 p4 = fm_X6_compared_s4 h0_format h0_code h0_minus h0_m h0_power h0_infinite h0_none p1 p2 p3 p4 z1 x2 := hT.trans (if_neg c14)
    refine lv_lconst (v := 1) hx hb dX6_compared_90 (by decide) ?_
    refine lv_goto (tgt := 95) hx hb dX6_compared_91 (by decide) ?_
    have hEQ : fm_X6_compared h0_format h0_code h0_minus h0_m h0_power h0_infinite h0_none p1 p2 p3 p4 = (1, z1.2.1, z1.2.2.1, z1.2.2.2.1, z1.2.2.2.2.1, z1.2.2.2.2.2.1, z1.2.2.2.2.2.2.1, z1.2.2.2.2.2.2.2) := hT
    exact W.lret (v := 1) hx hb hr (fun t ht hW => ⟨by simp only [hEQ], by rw [ht]; simp only [hEQ, fw_sl]; exact hP, hS.F ht⟩) hS.2.2 dX6_compared_95
