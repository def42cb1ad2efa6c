def jl (b : Bool) : Int64 := cond b 1 0
theorem jb_1 {b : Bool} (h : ¬ jb b = 0) : b = true := by cases b with
  | true => rfl
  | false => exact absurd rfl h
theorem vp_in0 : vp_in 0 1 := by unfold vp_in; decide

set_option maxHeartbeats 4000000 in
set_option maxRecDepth 100000 in
theorem k_L_reckon (l : Launch) (hl9 : l.stackTraces = false) (dC : Nat → ClassId) (dI : Nat → Nat → Nat) (sz x xf o : Nat) (cA : ClassId) (g : Nat → Int64) (f0 f1 f2 f3 f4 f5 : Int32) (p1 : Int32) (p2 : Int32) (p3 : Int32) (p4 : Int32) : Met l yL_reckon wsL_reckon { frames := 8, cells := 5, slots := 26, locals := 193 } (fw_H (dC, dI) [(x, .inr (2, [.ref xf])), (xf, .inr (0, [.int f0, .int f1, .int f2, .int f3, .int f4, .int f5])), (o, .inl (cA, 1, .inr (.inl g)))] cA sz [.ref x, .int p1, .int p2, .int p3, .int p4, .ref o]) (fw_HQ (dC, dI) o cA sz (fc_X5_reckon f0 f1 f2 f3 f4 f5 p1 p2 p3 p4) (fm_X5_reckon f0 f1 f2 f3 f4 f5 p1 p2 p3 p4).toInt64) 5 26 (fun a => a = o ∨ sz ≤ a) := by
  refine va_MetW (cc := cL_reckon) (maxL := 7) (ret := some .int) (hh := [(0, 14, 17, 13)]) (by decide) rfl ?_
  intro p e s m args below meth c s₁ B0 hml hv
  obtain ⟨rfl, hE, hP, hK⟩ := hv
  have hsz := hE.1
  subst hsz
  have hx := B0.exec
  have hb := B0.bytes
  have hr := B0.returns
  have hts := atoms_spec (ws := wsL_reckon) B0.pre
  have htf : ∀ w ∈ fc_all, w.before _ s = true := fun w h => hts w (List.mem_cons_of_mem _ h)
  have hown : s.vm.findClass RL = some m.cls := findClass_of_methodNamed B0.named
  have htb := vx_table (x := yL_format) B0 (hts _ List.mem_cons_self)
  have hP : va_P (dC, dI) vwCl [(x, .inr (2, [.ref xf])), (xf, .inr (0, [.int f0, .int f1, .int f2, .int f3, .int f4, .int f5])), (o, .inl (cA, 1, .inr (.inl g)))] s.heap := hP
  have hS : va_S (fun a => a = o ∨ s.heap.size ≤ a) s.heap s.heap [] := va_S.rf
  have hA : ∀ q : Nat, s.heap.size ≤ q → (fun a => a = o ∨ s.heap.size ≤ a) q := fun _ h => Or.inr h
  have hl := lv_entry ([.ref x, .int p1, .int p2, .int p3, .int p4, .ref o]) (n := 7) (Nat.le_of_ble_eq_true rfl)
  rw [lg_entry_eq]
  generalize (lg_sl ([.ref x, .int p1, .int p2, .int p3, .int p4, .ref o]) ++ List.replicate (7 - (lg_sl ([.ref x, .int p1, .int p2, .int p3, .int p4, .ref o])).length) Slot.unset).toArray = ls at hl ⊢
  have hl : lv_has ls 7 [(0, .ref x), (1, .int p1), (2, .int p2), (3, .int p3), (4, .int p4), (5, .ref o)] := hl
  refine lv_aload hx hb dL_reckon_0 (lv_at hl 5 rfl) ?_
  refine lv_iconst (v := 0) hx hb dL_reckon_2 (by decide) ?_
  refine lv_aload_n hx hb dL_reckon_3 rfl (lv_at hl 0 rfl) ?_
  refine lv_iload_n hx hb dL_reckon_4 rfl (lv_at hl 1 rfl) ?_
  refine lv_iload_n hx hb dL_reckon_5 rfl (lv_at hl 2 rfl) ?_
  refine lv_iload_n hx hb dL_reckon_6 rfl (lv_at hl 3 rfl) ?_
  refine lv_iload hx hb dL_reckon_7 (lv_at hl 4 rfl) ?_
  refine fw_callH (vx_runV (As := [.int p1, .int p2, .int p3, .int p4]) (rest := [.int 0, .ref o]) ⟨hx, hb, hml, hown, htf⟩ (k_X5_reckon l hl9 dC dI s.heap.size x xf f0 f1 f2 f3 f4 f5 p1 p2 p3 p4) (cwV 4 htf (gd_V wk87 wk88 wk89 wk1 wk90) rfl rfl rfl ndX5_reckon ⟨Nat.le_of_ble_eq_true rfl, Nat.le_of_ble_eq_true rfl⟩) (fw_XV (va_recv hK hP (ci := 2) (q0 := 0) rfl rfl) hE fw_pre.rf (hP.sub (ws' := [(x, .inr (2, [.ref xf])), (xf, .inr (0, [.int f0, .int f1, .int f2, .int f3, .int f4, .int f5]))]) [0, 1] rfl) hK) rfl rfl hl.1 rfl (lv_room (Nat.le_of_ble_eq_true rfl)) dL_reckon_9 ⟨Nat.le_of_ble_eq_true rfl, Nat.le_of_ble_eq_true rfl⟩) hS hA (fun hB q ce H1 locs hg hS hce hcv hcl => ?_) (fun hB H1 locs hg hS => ?_)
  · refine vx_catch (E := fw_IAE) (name := fw_IAE) hown [] { startPc := 0, endPc := 14, handlerPc := 17, catchType := 13 } [] (htb.trans fw_tab) (fun z hz => nomatch hz) (by decide) (by decide) (htf _ wk41) (va_Nw.use rfl hE.2.1.2.2.2.2) hce hcv hcl ?_
    refine lv_astore (lv' := (6, .ref q) :: [(0, .ref x), (1, .int p1), (2, .int p2), (3, .int p3), (4, .int p4), (5, .ref o)]) hx hb dL_reckon_17 hl (by decide) rfl (fun ls hl => ?_)
    refine lv_iconst (v := 1) hx hb dL_reckon_19 (by decide) ?_
    exact W.iret (v := 1) hx hb hr (fun t ht hW => ⟨⟨1, g, rfl, ⟨by rw [hB]; rfl, fun h => absurd (hB.symm.trans h) (by decide)⟩, by dsimp only; rw [ht]; exact hg.P (hP.sub (ws' := [fw_oc o cA g]) [2] rfl)⟩, hS.F ht⟩) hS.2.2 dL_reckon_20
  · have hPo : va_P (dC, dI) vwCl [fw_oc o cA g] H1 := hg.P (hP.sub (ws' := [fw_oc o cA g]) [2] rfl)
    have hDo : va_D (fun a => a = o ∨ s.heap.size ≤ a) [fw_oc o cA g] := fw_D1 (Or.inl rfl)
    refine lv_i2l (v := (fm_X5_reckon f0 f1 f2 f3 f4 f5 p1 p2 p3 p4).toInt64) hx hb dL_reckon_12 rfl ?_
    refine va_last hx hb hK hPo hDo hS 0 0 rfl rfl (i := 0) (x := (fm_X5_reckon f0 f1 f2 f3 f4 f5 p1 p2 p3 p4).toInt64) (vp_in0) dL_reckon_13 (fun H2 locs2 hPo hDo hS => ?_)
    refine lv_goto (tgt := 21) hx hb dL_reckon_14 (by decide) ?_
    refine lv_iconst (v := 0) hx hb dL_reckon_21 (by decide) ?_
    exact W.iret (v := 0) hx hb hr (fun t ht hW => ⟨⟨0, vp_updL g (0 : Int32).toNatClampNeg (fm_X5_reckon f0 f1 f2 f3 f4 f5 p1 p2 p3 p4).toInt64, rfl, ⟨by rw [hB]; rfl, fun _ => rfl⟩, by dsimp only; rw [ht]; exact hPo⟩, hS.F ht⟩) hS.2.2 dL_reckon_22
set_option maxHeartbeats 4000000 in
set_option maxRecDepth 100000 in
theorem k_L_change (l : Launch) (hl9 : l.stackTraces = false) (dC : Nat → ClassId) (dI : Nat → Nat → Nat) (sz x xf o : Nat) (cA : ClassId) (g : Nat → Int64) (f0 f1 f2 f3 f4 f5 : Int32) (p1 : Int32) (p2 : Int32) (p3 : Int32) : Met l yL_change wsL_change { frames := 8, cells := 3, slots := 16, locals := 191 } (fw_H (dC, dI) [(x, .inr (2, [.ref xf])), (xf, .inr (0, [.int f0, .int f1, .int f2, .int f3, .int f4, .int f5])), (o, .inl (cA, 1, .inr (.inl g)))] cA sz [.ref x, .int p1, .int p2, .int p3, .ref o]) (fw_HQ (dC, dI) o cA sz (fc_X5_change f0 f1 f2 f3 f4 f5 p1 p2 p3) (fm_X5_change f0 f1 f2 f3 f4 f5 p1 p2 p3).toInt64) 3 16 (fun a => a = o ∨ sz ≤ a) := by
  refine va_MetW (cc := cL_change) (maxL := 6) (ret := some .int) (hh := [(0, 12, 15, 13)]) (by decide) rfl ?_
  intro p e s m args below meth c s₁ B0 hml hv
  obtain ⟨rfl, hE, hP, hK⟩ := hv
  have hsz := hE.1
  subst hsz
  have hx := B0.exec
  have hb := B0.bytes
  have hr := B0.returns
  have hts := atoms_spec (ws := wsL_change) B0.pre
  have htf : ∀ w ∈ fc_all, w.before _ s = true := fun w h => hts w (List.mem_cons_of_mem _ h)
  have hown : s.vm.findClass RL = some m.cls := findClass_of_methodNamed B0.named
  have htb := vx_table (x := yL_format) B0 (hts _ List.mem_cons_self)
  have hP : va_P (dC, dI) vwCl [(x, .inr (2, [.ref xf])), (xf, .inr (0, [.int f0, .int f1, .int f2, .int f3, .int f4, .int f5])), (o, .inl (cA, 1, .inr (.inl g)))] s.heap := hP
  have hS : va_S (fun a => a = o ∨ s.heap.size ≤ a) s.heap s.heap [] := va_S.rf
  have hA : ∀ q : Nat, s.heap.size ≤ q → (fun a => a = o ∨ s.heap.size ≤ a) q := fun _ h => Or.inr h
  have hl := lv_entry ([.ref x, .int p1, .int p2, .int p3, .ref o]) (n := 6) (Nat.le_of_ble_eq_true rfl)
  rw [lg_entry_eq]
  generalize (lg_sl ([.ref x, .int p1, .int p2, .int p3, .ref o]) ++ List.replicate (6 - (lg_sl ([.ref x, .int p1, .int p2, .int p3, .ref o])).length) Slot.unset).toArray = ls at hl ⊢
  have hl : lv_has ls 6 [(0, .ref x), (1, .int p1), (2, .int p2), (3, .int p3), (4, .ref o)] := hl
  refine lv_aload hx hb dL_change_0 (lv_at hl 4 rfl) ?_
  refine lv_iconst (v := 0) hx hb dL_change_2 (by decide) ?_
  refine lv_aload_n hx hb dL_change_3 rfl (lv_at hl 0 rfl) ?_
  refine lv_iload_n hx hb dL_change_4 rfl (lv_at hl 1 rfl) ?_
  refine lv_iload_n hx hb dL_change_5 rfl (lv_at hl 2 rfl) ?_
  refine lv_iload_n hx hb dL_change_6 rfl (lv_at hl 3 rfl) ?_
  refine fw_callH (vx_runV (As := [.int p1, .int p2, .int p3]) (rest := [.int 0, .ref o]) ⟨hx, hb, hml, hown, htf⟩ (k_X5_change l hl9 dC dI s.heap.size x xf f0 f1 f2 f3 f4 f5 p1 p2 p3) (cwV 3 htf (gd_V wk263 wk264 wk265 wk1 wk266) rfl rfl rfl ndX5_change ⟨Nat.le_of_ble_eq_true rfl, Nat.le_of_ble_eq_true rfl⟩) (fw_XV (va_recv hK hP (ci := 2) (q0 := 0) rfl rfl) hE fw_pre.rf (hP.sub (ws' := [(x, .inr (2, [.ref xf])), (xf, .inr (0, [.int f0, .int f1, .int f2, .int f3, .int f4, .int f5]))]) [0, 1] rfl) hK) rfl rfl hl.1 rfl (lv_room (Nat.le_of_ble_eq_true rfl)) dL_change_7 ⟨Nat.le_of_ble_eq_true rfl, Nat.le_of_ble_eq_true rfl⟩) hS hA (fun hB q ce H1 locs hg hS hce hcv hcl => ?_) (fun hB H1 locs hg hS => ?_)
  · refine vx_catch (E := fw_IAE) (name := fw_IAE) hown [] { startPc := 0, endPc := 12, handlerPc := 15, catchType := 13 } [] (htb.trans fw_tab) (fun z hz => nomatch hz) (by decide) (by decide) (htf _ wk41) (va_Nw.use rfl hE.2.1.2.2.2.2) hce hcv hcl ?_
    refine lv_astore (lv' := (5, .ref q) :: [(0, .ref x), (1, .int p1), (2, .int p2), (3, .int p3), (4, .ref o)]) hx hb dL_change_15 hl (by decide) rfl (fun ls hl => ?_)
    refine lv_iconst (v := 1) hx hb dL_change_17 (by decide) ?_
    exact W.iret (v := 1) hx hb hr (fun t ht hW => ⟨⟨1, g, rfl, ⟨by rw [hB]; rfl, fun h => absurd (hB.symm.trans h) (by decide)⟩, by dsimp only; rw [ht]; exact hg.P (hP.sub (ws' := [fw_oc o cA g]) [2] rfl)⟩, hS.F ht⟩) hS.2.2 dL_change_18
  · have hPo : va_P (dC, dI) vwCl [fw_oc o cA g] H1 := hg.P (hP.sub (ws' := [fw_oc o cA g]) [2] rfl)
    have hDo : va_D (fun a => a = o ∨ s.heap.size ≤ a) [fw_oc o cA g] := fw_D1 (Or.inl rfl)
    refine lv_i2l (v := (fm_X5_change f0 f1 f2 f3 f4 f5 p1 p2 p3).toInt64) hx hb dL_change_10 rfl ?_
    refine va_last hx hb hK hPo hDo hS 0 0 rfl rfl (i := 0) (x := (fm_X5_change f0 f1 f2 f3 f4 f5 p1 p2 p3).toInt64) (vp_in0) dL_change_11 (fun H2 locs2 hPo hDo hS => ?_)
    refine lv_goto (tgt := 19) hx hb dL_change_12 (by decide) ?_
    refine lv_iconst (v := 0) hx hb dL_change_19 (by decide) ?_
    exact W.iret (v := 0) hx hb hr (fun t ht hW => ⟨⟨0, vp_updL g (0 : Int32).toNatClampNeg (fm_X5_change f0 f1 f2 f3 f4 f5 p1 p2 p3).toInt64, rfl, ⟨by rw [hB]; rfl, fun _ => rfl⟩, by dsimp only; rw [ht]; exact hPo⟩, hS.F ht⟩) hS.2.2 dL_change_20
set_option maxHeartbeats 4000000 in
set_option maxRecDepth 100000 in
theorem k_L_least (l : Launch) (hl9 : l.stackTraces = false) (dC : Nat → ClassId) (dI : Nat → Nat → Nat) (sz x xf o : Nat) (cA : ClassId) (g : Nat → Int64) (f0 f1 f2 f3 f4 f5 : Int32) (p1 : Int32) (p2 : Int32) (p3 : Bool) : Met l yL_least wsL_least { frames := 8, cells := 1, slots := 6, locals := 125 } (fw_H (dC, dI) [(x, .inr (2, [.ref xf])), (xf, .inr (0, [.int f0, .int f1, .int f2, .int f3, .int f4, .int f5])), (o, .inl (cA, 1, .inr (.inl g)))] cA sz [.ref x, .int p1, .int p2, .int (jb p3), .ref o]) (fw_HQ (dC, dI) o cA sz (fc_X5_least f0 f1 f2 f3 f4 f5 p1 p2 p3) (fm_X5_least f0 f1 f2 f3 f4 f5 p1 p2 p3).toInt64) 1 6 (fun a => a = o ∨ sz ≤ a) := by
  refine va_MetW (cc := cL_least) (maxL := 6) (ret := some .int) (hh := [(0, 12, 15, 13)]) (by decide) rfl ?_
  intro p e s m args below meth c s₁ B0 hml hv
  obtain ⟨rfl, hE, hP, hK⟩ := hv
  have hsz := hE.1
  subst hsz
  have hx := B0.exec
  have hb := B0.bytes
  have hr := B0.returns
  have hts := atoms_spec (ws := wsL_least) B0.pre
  have htf : ∀ w ∈ fc_all, w.before _ s = true := fun w h => hts w (List.mem_cons_of_mem _ h)
  have hown : s.vm.findClass RL = some m.cls := findClass_of_methodNamed B0.named
  have htb := vx_table (x := yL_format) B0 (hts _ List.mem_cons_self)
  have hP : va_P (dC, dI) vwCl [(x, .inr (2, [.ref xf])), (xf, .inr (0, [.int f0, .int f1, .int f2, .int f3, .int f4, .int f5])), (o, .inl (cA, 1, .inr (.inl g)))] s.heap := hP
  have hS : va_S (fun a => a = o ∨ s.heap.size ≤ a) s.heap s.heap [] := va_S.rf
  have hA : ∀ q : Nat, s.heap.size ≤ q → (fun a => a = o ∨ s.heap.size ≤ a) q := fun _ h => Or.inr h
  have hl := lv_entry ([.ref x, .int p1, .int p2, .int (jb p3), .ref o]) (n := 6) (Nat.le_of_ble_eq_true rfl)
  rw [lg_entry_eq]
  generalize (lg_sl ([.ref x, .int p1, .int p2, .int (jb p3), .ref o]) ++ List.replicate (6 - (lg_sl ([.ref x, .int p1, .int p2, .int (jb p3), .ref o])).length) Slot.unset).toArray = ls at hl ⊢
  have hl : lv_has ls 6 [(0, .ref x), (1, .int p1), (2, .int p2), (3, .int (jb p3)), (4, .ref o)] := hl
  refine lv_aload hx hb dL_least_0 (lv_at hl 4 rfl) ?_
  refine lv_iconst (v := 0) hx hb dL_least_2 (by decide) ?_
  refine lv_aload_n hx hb dL_least_3 rfl (lv_at hl 0 rfl) ?_
  refine lv_iload_n hx hb dL_least_4 rfl (lv_at hl 1 rfl) ?_
  refine lv_iload_n hx hb dL_least_5 rfl (lv_at hl 2 rfl) ?_
  refine lv_iload_n hx hb dL_least_6 rfl (lv_at hl 3 rfl) ?_
  refine fw_callH (vx_runV (As := [.int p1, .int p2, .int (jb p3)]) (rest := [.int 0, .ref o]) ⟨hx, hb, hml, hown, htf⟩ (k_X5_least l hl9 dC dI s.heap.size x xf f0 f1 f2 f3 f4 f5 p1 p2 p3) (cwV 3 htf (gd_V wk282 wk283 wk284 wk1 wk285) rfl rfl rfl ndX5_least ⟨Nat.le_of_ble_eq_true rfl, Nat.le_of_ble_eq_true rfl⟩) (fw_XV (va_recv hK hP (ci := 2) (q0 := 0) rfl rfl) hE fw_pre.rf (hP.sub (ws' := [(x, .inr (2, [.ref xf])), (xf, .inr (0, [.int f0, .int f1, .int f2, .int f3, .int f4, .int f5]))]) [0, 1] rfl) hK) rfl rfl hl.1 rfl (lv_room (Nat.le_of_ble_eq_true rfl)) dL_least_7 ⟨Nat.le_of_ble_eq_true rfl, Nat.le_of_ble_eq_true rfl⟩) hS hA (fun hB q ce H1 locs hg hS hce hcv hcl => ?_) (fun hB H1 locs hg hS => ?_)
  · refine vx_catch (E := fw_IAE) (name := fw_IAE) hown [] { startPc := 0, endPc := 12, handlerPc := 15, catchType := 13 } [] (htb.trans fw_tab) (fun z hz => nomatch hz) (by decide) (by decide) (htf _ wk41) (va_Nw.use rfl hE.2.1.2.2.2.2) hce hcv hcl ?_
    refine lv_astore (lv' := (5, .ref q) :: [(0, .ref x), (1, .int p1), (2, .int p2), (3, .int (jb p3)), (4, .ref o)]) hx hb dL_least_15 hl (by decide) rfl (fun ls hl => ?_)
    refine lv_iconst (v := 1) hx hb dL_least_17 (by decide) ?_
    exact W.iret (v := 1) hx hb hr (fun t ht hW => ⟨⟨1, g, rfl, ⟨by rw [hB]; rfl, fun h => absurd (hB.symm.trans h) (by decide)⟩, by dsimp only; rw [ht]; exact hg.P (hP.sub (ws' := [fw_oc o cA g]) [2] rfl)⟩, hS.F ht⟩) hS.2.2 dL_least_18
  · have hPo : va_P (dC, dI) vwCl [fw_oc o cA g] H1 := hg.P (hP.sub (ws' := [fw_oc o cA g]) [2] rfl)
    have hDo : va_D (fun a => a = o ∨ s.heap.size ≤ a) [fw_oc o cA g] := fw_D1 (Or.inl rfl)
    refine lv_i2l (v := (fm_X5_least f0 f1 f2 f3 f4 f5 p1 p2 p3).toInt64) hx hb dL_least_10 rfl ?_
    refine va_last hx hb hK hPo hDo hS 0 0 rfl rfl (i := 0) (x := (fm_X5_least f0 f1 f2 f3 f4 f5 p1 p2 p3).toInt64) (vp_in0) dL_least_11 (fun H2 locs2 hPo hDo hS => ?_)
    refine lv_goto (tgt := 19) hx hb dL_least_12 (by decide) ?_
    refine lv_iconst (v := 0) hx hb dL_least_19 (by decide) ?_
    exact W.iret (v := 0) hx hb hr (fun t ht hW => ⟨⟨0, vp_updL g (0 : Int32).toNatClampNeg (fm_X5_least f0 f1 f2 f3 f4 f5 p1 p2 p3).toInt64, rfl, ⟨by rw [hB]; rfl, fun _ => rfl⟩, by dsimp only; rw [ht]; exact hPo⟩, hS.F ht⟩) hS.2.2 dL_least_20
set_option maxHeartbeats 4000000 in
set_option maxRecDepth 100000 in
theorem k_L_compare (l : Launch) (hl9 : l.stackTraces = false) (dC : Nat → ClassId) (dI : Nat → Nat → Nat) (sz x xf o : Nat) (cA : ClassId) (g : Nat → Int64) (f0 f1 f2 f3 f4 f5 : Int32) (p1 : Int32) (p2 : Int32) (p3 : Int32) : Met l yL_compare wsL_compare { frames := 8, cells := 1, slots := 6, locals := 124 } (fw_H (dC, dI) [(x, .inr (2, [.ref xf])), (xf, .inr (0, [.int f0, .int f1, .int f2, .int f3, .int f4, .int f5])), (o, .inl (cA, 1, .inr (.inl g)))] cA sz [.ref x, .int p1, .int p2, .int p3, .ref o]) (fw_HQ (dC, dI) o cA sz (fc_X5_compare f0 f1 f2 f3 f4 f5 p1 p2 p3) (jl (fm_X5_compare f0 f1 f2 f3 f4 f5 p1 p2 p3))) 1 6 (fun a => a = o ∨ sz ≤ a) := by
  refine va_MetW (cc := cL_compare) (maxL := 6) (ret := some .int) (hh := [(0, 19, 22, 13)]) (by decide) rfl ?_
  intro p e s m args below meth c s₁ B0 hml hv
  obtain ⟨rfl, hE, hP, hK⟩ := hv
  have hsz := hE.1
  subst hsz
  have hx := B0.exec
  have hb := B0.bytes
  have hr := B0.returns
  have hts := atoms_spec (ws := wsL_compare) B0.pre
  have htf : ∀ w ∈ fc_all, w.before _ s = true := fun w h => hts w (List.mem_cons_of_mem _ h)
  have hown : s.vm.findClass RL = some m.cls := findClass_of_methodNamed B0.named
  have htb := vx_table (x := yL_format) B0 (hts _ List.mem_cons_self)
  have hP : va_P (dC, dI) vwCl [(x, .inr (2, [.ref xf])), (xf, .inr (0, [.int f0, .int f1, .int f2, .int f3, .int f4, .int f5])), (o, .inl (cA, 1, .inr (.inl g)))] s.heap := hP
  have hS : va_S (fun a => a = o ∨ s.heap.size ≤ a) s.heap s.heap [] := va_S.rf
  have hA : ∀ q : Nat, s.heap.size ≤ q → (fun a => a = o ∨ s.heap.size ≤ a) q := fun _ h => Or.inr h
  have hl := lv_entry ([.ref x, .int p1, .int p2, .int p3, .ref o]) (n := 6) (Nat.le_of_ble_eq_true rfl)
  rw [lg_entry_eq]
  generalize (lg_sl ([.ref x, .int p1, .int p2, .int p3, .ref o]) ++ List.replicate (6 - (lg_sl ([.ref x, .int p1, .int p2, .int p3, .ref o])).length) Slot.unset).toArray = ls at hl ⊢
  have hl : lv_has ls 6 [(0, .ref x), (1, .int p1), (2, .int p2), (3, .int p3), (4, .ref o)] := hl
  refine lv_aload hx hb dL_compare_0 (lv_at hl 4 rfl) ?_
  refine lv_iconst (v := 0) hx hb dL_compare_2 (by decide) ?_
  refine lv_aload_n hx hb dL_compare_3 rfl (lv_at hl 0 rfl) ?_
  refine lv_iload_n hx hb dL_compare_4 rfl (lv_at hl 1 rfl) ?_
  refine lv_iload_n hx hb dL_compare_5 rfl (lv_at hl 2 rfl) ?_
  refine lv_iload_n hx hb dL_compare_6 rfl (lv_at hl 3 rfl) ?_
  refine fw_callH (vx_runV (As := [.int p1, .int p2, .int p3]) (rest := [.int 0, .ref o]) ⟨hx, hb, hml, hown, htf⟩ (k_X5_compare l hl9 dC dI s.heap.size x xf f0 f1 f2 f3 f4 f5 p1 p2 p3) (cwV 3 htf (gd_V wk298 wk299 wk300 wk1 wk301) rfl rfl rfl ndX5_compare ⟨Nat.le_of_ble_eq_true rfl, Nat.le_of_ble_eq_true rfl⟩) (fw_XV (va_recv hK hP (ci := 2) (q0 := 0) rfl rfl) hE fw_pre.rf (hP.sub (ws' := [(x, .inr (2, [.ref xf])), (xf, .inr (0, [.int f0, .int f1, .int f2, .int f3, .int f4, .int f5]))]) [0, 1] rfl) hK) rfl rfl hl.1 rfl (lv_room (Nat.le_of_ble_eq_true rfl)) dL_compare_7 ⟨Nat.le_of_ble_eq_true rfl, Nat.le_of_ble_eq_true rfl⟩) hS hA (fun hB q ce H1 locs hg hS hce hcv hcl => ?_) (fun hB H1 locs hg hS => ?_)
  · refine vx_catch (E := fw_IAE) (name := fw_IAE) hown [] { startPc := 0, endPc := 19, handlerPc := 22, catchType := 13 } [] (htb.trans fw_tab) (fun z hz => nomatch hz) (by decide) (by decide) (htf _ wk41) (va_Nw.use rfl hE.2.1.2.2.2.2) hce hcv hcl ?_
    refine lv_astore (lv' := (5, .ref q) :: [(0, .ref x), (1, .int p1), (2, .int p2), (3, .int p3), (4, .ref o)]) hx hb dL_compare_22 hl (by decide) rfl (fun ls hl => ?_)
    refine lv_iconst (v := 1) hx hb dL_compare_24 (by decide) ?_
    exact W.iret (v := 1) hx hb hr (fun t ht hW => ⟨⟨1, g, rfl, ⟨by rw [hB]; rfl, fun h => absurd (hB.symm.trans h) (by decide)⟩, by dsimp only; rw [ht]; exact hg.P (hP.sub (ws' := [fw_oc o cA g]) [2] rfl)⟩, hS.F ht⟩) hS.2.2 dL_compare_25
  · have hPo : va_P (dC, dI) vwCl [fw_oc o cA g] H1 := hg.P (hP.sub (ws' := [fw_oc o cA g]) [2] rfl)
    have hDo : va_D (fun a => a = o ∨ s.heap.size ≤ a) [fw_oc o cA g] := fw_D1 (Or.inl rfl)
    have key : ∀ v : Int64, v = (jl (fm_X5_compare f0 f1 f2 f3 f4 f5 p1 p2 p3)) → W p l e (headSpec wsL_compare { frames := 8, cells := 1, slots := 6, locals := 124 }).room s m ([.ref x, .int p1, .int p2, .int p3, .ref o]).toArray below meth c H1 locs (0 + 1) (0 + 6) (MQ below (fw_HQ (dC, dI) o cA s.heap.size (fc_X5_compare f0 f1 f2 f3 f4 f5 p1 p2 p3) (jl (fm_X5_compare f0 f1 f2 f3 f4 f5 p1 p2 p3))) ([.ref x, .int p1, .int p2, .int p3, .ref o]).toArray s 1 6 (fun a => a = o ∨ s.heap.size ≤ a)) (F0 m 18 ls [.long v, .int 0, .ref o]) := by
      intro v hv
      subst hv
      refine va_last hx hb hK hPo hDo hS 0 0 rfl rfl (i := 0) (x := (jl (fm_X5_compare f0 f1 f2 f3 f4 f5 p1 p2 p3))) (vp_in0) dL_compare_18 (fun H2 locs2 hPo hDo hS => ?_)
      refine lv_goto (tgt := 26) hx hb dL_compare_19 (by decide) ?_
      refine lv_iconst (v := 0) hx hb dL_compare_26 (by decide) ?_
      exact W.iret (v := 0) hx hb hr (fun t ht hW => ⟨⟨0, vp_updL g (0 : Int32).toNatClampNeg (jl (fm_X5_compare f0 f1 f2 f3 f4 f5 p1 p2 p3)), rfl, ⟨by rw [hB]; rfl, fun _ => rfl⟩, by dsimp only; rw [ht]; exact hPo⟩, hS.F ht⟩) hS.2.2 dL_compare_27
    refine lv_if_eq (tgt := 17) hx hb dL_compare_10 (by decide) (fun c1 => ?_) (fun c1 => ?_)
    · refine lv_lconst (v := 0) hx hb dL_compare_17 (by decide) ?_
      exact key 0 (by rw [(jb_0 _).mp c1]; rfl)
    · refine lv_lconst (v := 1) hx hb dL_compare_13 (by decide) ?_
      refine lv_goto (tgt := 18) hx hb dL_compare_14 (by decide) ?_
      exact key 1 (by rw [jb_1 c1]; rfl)
set_option maxHeartbeats 4000000 in
set_option maxRecDepth 100000 in
theorem k_L_is (l : Launch) (hl9 : l.stackTraces = false) (dC : Nat → ClassId) (dI : Nat → Nat → Nat) (sz x xf o : Nat) (cA : ClassId) (g : Nat → Int64) (f0 f1 f2 f3 f4 f5 : Int32) (p1 : Int32) (p2 : Int32) : Met l yL_is wsL_is { frames := 8, cells := 2, slots := 11, locals := 155 } (fw_H (dC, dI) [(x, .inr (2, [.ref xf])), (xf, .inr (0, [.int f0, .int f1, .int f2, .int f3, .int f4, .int f5])), (o, .inl (cA, 1, .inr (.inl g)))] cA sz [.ref x, .int p1, .int p2, .ref o]) (fw_HQ (dC, dI) o cA sz (fc_X5_is f0 f1 f2 f3 f4 f5 p1 p2) (jl (fm_X5_is f0 f1 f2 f3 f4 f5 p1 p2))) 2 11 (fun a => a = o ∨ sz ≤ a) := by
  refine va_MetW (cc := cL_is) (maxL := 5) (ret := some .int) (hh := [(0, 17, 20, 13)]) (by decide) rfl ?_
  intro p e s m args below meth c s₁ B0 hml hv
  obtain ⟨rfl, hE, hP, hK⟩ := hv
  have hsz := hE.1
  subst hsz
  have hx := B0.exec
  have hb := B0.bytes
  have hr := B0.returns
  have hts := atoms_spec (ws := wsL_is) B0.pre
  have htf : ∀ w ∈ fc_all, w.before _ s = true := fun w h => hts w (List.mem_cons_of_mem _ h)
  have hown : s.vm.findClass RL = some m.cls := findClass_of_methodNamed B0.named
  have htb := vx_table (x := yL_format) B0 (hts _ List.mem_cons_self)
  have hP : va_P (dC, dI) vwCl [(x, .inr (2, [.ref xf])), (xf, .inr (0, [.int f0, .int f1, .int f2, .int f3, .int f4, .int f5])), (o, .inl (cA, 1, .inr (.inl g)))] s.heap := hP
  have hS : va_S (fun a => a = o ∨ s.heap.size ≤ a) s.heap s.heap [] := va_S.rf
  have hA : ∀ q : Nat, s.heap.size ≤ q → (fun a => a = o ∨ s.heap.size ≤ a) q := fun _ h => Or.inr h
  have hl := lv_entry ([.ref x, .int p1, .int p2, .ref o]) (n := 5) (Nat.le_of_ble_eq_true rfl)
  rw [lg_entry_eq]
  generalize (lg_sl ([.ref x, .int p1, .int p2, .ref o]) ++ List.replicate (5 - (lg_sl ([.ref x, .int p1, .int p2, .ref o])).length) Slot.unset).toArray = ls at hl ⊢
  have hl : lv_has ls 5 [(0, .ref x), (1, .int p1), (2, .int p2), (3, .ref o)] := hl
  refine lv_aload_n hx hb dL_is_0 rfl (lv_at hl 3 rfl) ?_
  refine lv_iconst (v := 0) hx hb dL_is_1 (by decide) ?_
  refine lv_aload_n hx hb dL_is_2 rfl (lv_at hl 0 rfl) ?_
  refine lv_iload_n hx hb dL_is_3 rfl (lv_at hl 1 rfl) ?_
  refine lv_iload_n hx hb dL_is_4 rfl (lv_at hl 2 rfl) ?_
  refine fw_callH (vx_runV (As := [.int p1, .int p2]) (rest := [.int 0, .ref o]) ⟨hx, hb, hml, hown, htf⟩ (k_X5_is l hl9 dC dI s.heap.size x xf f0 f1 f2 f3 f4 f5 p1 p2) (cwV 2 htf (gd_V wk306 wk307 wk308 wk1 wk309) rfl rfl rfl ndX5_is ⟨Nat.le_of_ble_eq_true rfl, Nat.le_of_ble_eq_true rfl⟩) (fw_XV (va_recv hK hP (ci := 2) (q0 := 0) rfl rfl) hE fw_pre.rf (hP.sub (ws' := [(x, .inr (2, [.ref xf])), (xf, .inr (0, [.int f0, .int f1, .int f2, .int f3, .int f4, .int f5]))]) [0, 1] rfl) hK) rfl rfl hl.1 rfl (lv_room (Nat.le_of_ble_eq_true rfl)) dL_is_5 ⟨Nat.le_of_ble_eq_true rfl, Nat.le_of_ble_eq_true rfl⟩) hS hA (fun hB q ce H1 locs hg hS hce hcv hcl => ?_) (fun hB H1 locs hg hS => ?_)
  · refine vx_catch (E := fw_IAE) (name := fw_IAE) hown [] { startPc := 0, endPc := 17, handlerPc := 20, catchType := 13 } [] (htb.trans fw_tab) (fun z hz => nomatch hz) (by decide) (by decide) (htf _ wk41) (va_Nw.use rfl hE.2.1.2.2.2.2) hce hcv hcl ?_
    refine lv_astore (lv' := (4, .ref q) :: [(0, .ref x), (1, .int p1), (2, .int p2), (3, .ref o)]) hx hb dL_is_20 hl (by decide) rfl (fun ls hl => ?_)
    refine lv_iconst (v := 1) hx hb dL_is_22 (by decide) ?_
    exact W.iret (v := 1) hx hb hr (fun t ht hW => ⟨⟨1, g, rfl, ⟨by rw [hB]; rfl, fun h => absurd (hB.symm.trans h) (by decide)⟩, by dsimp only; rw [ht]; exact hg.P (hP.sub (ws' := [fw_oc o cA g]) [2] rfl)⟩, hS.F ht⟩) hS.2.2 dL_is_23
  · have hPo : va_P (dC, dI) vwCl [fw_oc o cA g] H1 := hg.P (hP.sub (ws' := [fw_oc o cA g]) [2] rfl)
    have hDo : va_D (fun a => a = o ∨ s.heap.size ≤ a) [fw_oc o cA g] := fw_D1 (Or.inl rfl)
    have key : ∀ v : Int64, v = (jl (fm_X5_is f0 f1 f2 f3 f4 f5 p1 p2)) → W p l e (headSpec wsL_is { frames := 8, cells := 2, slots := 11, locals := 155 }).room s m ([.ref x, .int p1, .int p2, .ref o]).toArray below meth c H1 locs (0 + 2) (0 + 11) (MQ below (fw_HQ (dC, dI) o cA s.heap.size (fc_X5_is f0 f1 f2 f3 f4 f5 p1 p2) (jl (fm_X5_is f0 f1 f2 f3 f4 f5 p1 p2))) ([.ref x, .int p1, .int p2, .ref o]).toArray s 2 11 (fun a => a = o ∨ s.heap.size ≤ a)) (F0 m 16 ls [.long v, .int 0, .ref o]) := by
      intro v hv
      subst hv
      refine va_last hx hb hK hPo hDo hS 0 0 rfl rfl (i := 0) (x := (jl (fm_X5_is f0 f1 f2 f3 f4 f5 p1 p2))) (vp_in0) dL_is_16 (fun H2 locs2 hPo hDo hS => ?_)
      refine lv_goto (tgt := 24) hx hb dL_is_17 (by decide) ?_
      refine lv_iconst (v := 0) hx hb dL_is_24 (by decide) ?_
      exact W.iret (v := 0) hx hb hr (fun t ht hW => ⟨⟨0, vp_updL g (0 : Int32).toNatClampNeg (jl (fm_X5_is f0 f1 f2 f3 f4 f5 p1 p2)), rfl, ⟨by rw [hB]; rfl, fun _ => rfl⟩, by dsimp only; rw [ht]; exact hPo⟩, hS.F ht⟩) hS.2.2 dL_is_25
    refine lv_if_eq (tgt := 15) hx hb dL_is_8 (by decide) (fun c1 => ?_) (fun c1 => ?_)
    · refine lv_lconst (v := 0) hx hb dL_is_15 (by decide) ?_
      exact key 0 (by rw [(jb_0 _).mp c1]; rfl)
    · refine lv_lconst (v := 1) hx hb dL_is_11 (by decide) ?_
      refine lv_goto (tgt := 16) hx hb dL_is_12 (by decide) ?_
      exact key 1 (by rw [jb_1 c1]; rfl)
set_option maxHeartbeats 4000000 in
set_option maxRecDepth 100000 in
theorem k_L_from (l : Launch) (hl9 : l.stackTraces = false) (dC : Nat → ClassId) (dI : Nat → Nat → Nat) (sz x xf o : Nat) (cA : ClassId) (g : Nat → Int64) (f0 f1 f2 f3 f4 f5 : Int32) (p1 : Int32) (p2 : Int32) (p3 : Int32) (p4 : Int32) : Met l yL_from wsL_from { frames := 8, cells := 4, slots := 23, locals := 192 } (fw_H (dC, dI) [(x, .inr (2, [.ref xf])), (xf, .inr (0, [.int f0, .int f1, .int f2, .int f3, .int f4, .int f5])), (o, .inl (cA, 1, .inr (.inl g)))] cA sz [.ref x, .int p1, .int p2, .int p3, .int p4, .ref o]) (fw_HQ (dC, dI) o cA sz (fc_X5_from f0 f1 f2 f3 f4 f5 p1 p2 p3 p4) (fm_X5_from f0 f1 f2 f3 f4 f5 p1 p2 p3 p4).toInt64) 4 23 (fun a => a = o ∨ sz ≤ a) := by
  refine va_MetW (cc := cL_from) (maxL := 7) (ret := some .int) (hh := [(0, 14, 17, 13)]) (by decide) rfl ?_
  intro p e s m args below meth c s₁ B0 hml hv
  obtain ⟨rfl, hE, hP, hK⟩ := hv
  have hsz := hE.1
  subst hsz
  have hx := B0.exec
  have hb := B0.bytes
  have hr := B0.returns
  have hts := atoms_spec (ws := wsL_from) B0.pre
  have htf : ∀ w ∈ fc_all, w.before _ s = true := fun w h => hts w (List.mem_cons_of_mem _ h)
  have hown : s.vm.findClass RL = some m.cls := findClass_of_methodNamed B0.named
  have htb := vx_table (x := yL_format) B0 (hts _ List.mem_cons_self)
  have hP : va_P (dC, dI) vwCl [(x, .inr (2, [.ref xf])), (xf, .inr (0, [.int f0, .int f1, .int f2, .int f3, .int f4, .int f5])), (o, .inl (cA, 1, .inr (.inl g)))] s.heap := hP
  have hS : va_S (fun a => a = o ∨ s.heap.size ≤ a) s.heap s.heap [] := va_S.rf
  have hA : ∀ q : Nat, s.heap.size ≤ q → (fun a => a = o ∨ s.heap.size ≤ a) q := fun _ h => Or.inr h
  have hl := lv_entry ([.ref x, .int p1, .int p2, .int p3, .int p4, .ref o]) (n := 7) (Nat.le_of_ble_eq_true rfl)
  rw [lg_entry_eq]
  generalize (lg_sl ([.ref x, .int p1, .int p2, .int p3, .int p4, .ref o]) ++ List.replicate (7 - (lg_sl ([.ref x, .int p1, .int p2, .int p3, .int p4, .ref o])).length) Slot.unset).toArray = ls at hl ⊢
  have hl : lv_has ls 7 [(0, .ref x), (1, .int p1), (2, .int p2), (3, .int p3), (4, .int p4), (5, .ref o)] := hl
  refine lv_aload hx hb dL_from_0 (lv_at hl 5 rfl) ?_
  refine lv_iconst (v := 0) hx hb dL_from_2 (by decide) ?_
  refine lv_aload_n hx hb dL_from_3 rfl (lv_at hl 0 rfl) ?_
  refine lv_iload_n hx hb dL_from_4 rfl (lv_at hl 1 rfl) ?_
  refine lv_iload_n hx hb dL_from_5 rfl (lv_at hl 2 rfl) ?_
  refine lv_iload_n hx hb dL_from_6 rfl (lv_at hl 3 rfl) ?_
  refine lv_iload hx hb dL_from_7 (lv_at hl 4 rfl) ?_
  refine fw_callH (vx_runV (As := [.int p1, .int p2, .int p3, .int p4]) (rest := [.int 0, .ref o]) ⟨hx, hb, hml, hown, htf⟩ (k_X5_from l hl9 dC dI s.heap.size x xf f0 f1 f2 f3 f4 f5 p1 p2 p3 p4) (cwV 4 htf (gd_V wk318 wk319 wk320 wk1 wk321) rfl rfl rfl ndX5_from ⟨Nat.le_of_ble_eq_true rfl, Nat.le_of_ble_eq_true rfl⟩) (fw_XV (va_recv hK hP (ci := 2) (q0 := 0) rfl rfl) hE fw_pre.rf (hP.sub (ws' := [(x, .inr (2, [.ref xf])), (xf, .inr (0, [.int f0, .int f1, .int f2, .int f3, .int f4, .int f5]))]) [0, 1] rfl) hK) rfl rfl hl.1 rfl (lv_room (Nat.le_of_ble_eq_true rfl)) dL_from_9 ⟨Nat.le_of_ble_eq_true rfl, Nat.le_of_ble_eq_true rfl⟩) hS hA (fun hB q ce H1 locs hg hS hce hcv hcl => ?_) (fun hB H1 locs hg hS => ?_)
  · refine vx_catch (E := fw_IAE) (name := fw_IAE) hown [] { startPc := 0, endPc := 14, handlerPc := 17, catchType := 13 } [] (htb.trans fw_tab) (fun z hz => nomatch hz) (by decide) (by decide) (htf _ wk41) (va_Nw.use rfl hE.2.1.2.2.2.2) hce hcv hcl ?_
    refine lv_astore (lv' := (6, .ref q) :: [(0, .ref x), (1, .int p1), (2, .int p2), (3, .int p3), (4, .int p4), (5, .ref o)]) hx hb dL_from_17 hl (by decide) rfl (fun ls hl => ?_)
    refine lv_iconst (v := 1) hx hb dL_from_19 (by decide) ?_
    exact W.iret (v := 1) hx hb hr (fun t ht hW => ⟨⟨1, g, rfl, ⟨by rw [hB]; rfl, fun h => absurd (hB.symm.trans h) (by decide)⟩, by dsimp only; rw [ht]; exact hg.P (hP.sub (ws' := [fw_oc o cA g]) [2] rfl)⟩, hS.F ht⟩) hS.2.2 dL_from_20
  · have hPo : va_P (dC, dI) vwCl [fw_oc o cA g] H1 := hg.P (hP.sub (ws' := [fw_oc o cA g]) [2] rfl)
    have hDo : va_D (fun a => a = o ∨ s.heap.size ≤ a) [fw_oc o cA g] := fw_D1 (Or.inl rfl)
    refine lv_i2l (v := (fm_X5_from f0 f1 f2 f3 f4 f5 p1 p2 p3 p4).toInt64) hx hb dL_from_12 rfl ?_
    refine va_last hx hb hK hPo hDo hS 0 0 rfl rfl (i := 0) (x := (fm_X5_from f0 f1 f2 f3 f4 f5 p1 p2 p3 p4).toInt64) (vp_in0) dL_from_13 (fun H2 locs2 hPo hDo hS => ?_)
    refine lv_goto (tgt := 21) hx hb dL_from_14 (by decide) ?_
    refine lv_iconst (v := 0) hx hb dL_from_21 (by decide) ?_
    exact W.iret (v := 0) hx hb hr (fun t ht hW => ⟨⟨0, vp_updL g (0 : Int32).toNatClampNeg (fm_X5_from f0 f1 f2 f3 f4 f5 p1 p2 p3 p4).toInt64, rfl, ⟨by rw [hB]; rfl, fun _ => rfl⟩, by dsimp only; rw [ht]; exact hPo⟩, hS.F ht⟩) hS.2.2 dL_from_22
set_option maxHeartbeats 4000000 in
set_option maxRecDepth 100000 in
theorem k_L_ofWhole (l : Launch) (hl9 : l.stackTraces = false) (dC : Nat → ClassId) (dI : Nat → Nat → Nat) (sz x xf o : Nat) (cA : ClassId) (g : Nat → Int64) (f0 f1 f2 f3 f4 f5 : Int32) (p1 : Int32) (p2 : Int32) (p3 : Int32) (p4 : Bool) : Met l yL_ofWhole wsL_ofWhole { frames := 8, cells := 2, slots := 11, locals := 197 } (fw_H (dC, dI) [(x, .inr (2, [.ref xf])), (xf, .inr (0, [.int f0, .int f1, .int f2, .int f3, .int f4, .int f5])), (o, .inl (cA, 1, .inr (.inl g)))] cA sz [.ref x, .int p1, .int p2, .int p3, .int (jb p4), .ref o]) (fw_HQ (dC, dI) o cA sz (fc_X5_ofWhole f0 f1 f2 f3 f4 f5 p1 p2 p3 p4) (fm_X5_ofWhole f0 f1 f2 f3 f4 f5 p1 p2 p3 p4).toInt64) 2 11 (fun a => a = o ∨ sz ≤ a) := by
  refine va_MetW (cc := cL_ofWhole) (maxL := 7) (ret := some .int) (hh := [(0, 14, 17, 13)]) (by decide) rfl ?_
  intro p e s m args below meth c s₁ B0 hml hv
  obtain ⟨rfl, hE, hP, hK⟩ := hv
  have hsz := hE.1
  subst hsz
  have hx := B0.exec
  have hb := B0.bytes
  have hr := B0.returns
  have hts := atoms_spec (ws := wsL_ofWhole) B0.pre
  have htf : ∀ w ∈ fc_all, w.before _ s = true := fun w h => hts w (List.mem_cons_of_mem _ h)
  have hown : s.vm.findClass RL = some m.cls := findClass_of_methodNamed B0.named
  have htb := vx_table (x := yL_format) B0 (hts _ List.mem_cons_self)
  have hP : va_P (dC, dI) vwCl [(x, .inr (2, [.ref xf])), (xf, .inr (0, [.int f0, .int f1, .int f2, .int f3, .int f4, .int f5])), (o, .inl (cA, 1, .inr (.inl g)))] s.heap := hP
  have hS : va_S (fun a => a = o ∨ s.heap.size ≤ a) s.heap s.heap [] := va_S.rf
  have hA : ∀ q : Nat, s.heap.size ≤ q → (fun a => a = o ∨ s.heap.size ≤ a) q := fun _ h => Or.inr h
  have hl := lv_entry ([.ref x, .int p1, .int p2, .int p3, .int (jb p4), .ref o]) (n := 7) (Nat.le_of_ble_eq_true rfl)
  rw [lg_entry_eq]
  generalize (lg_sl ([.ref x, .int p1, .int p2, .int p3, .int (jb p4), .ref o]) ++ List.replicate (7 - (lg_sl ([.ref x, .int p1, .int p2, .int p3, .int (jb p4), .ref o])).length) Slot.unset).toArray = ls at hl ⊢
  have hl : lv_has ls 7 [(0, .ref x), (1, .int p1), (2, .int p2), (3, .int p3), (4, .int (jb p4)), (5, .ref o)] := hl
  refine lv_aload hx hb dL_ofWhole_0 (lv_at hl 5 rfl) ?_
  refine lv_iconst (v := 0) hx hb dL_ofWhole_2 (by decide) ?_
  refine lv_aload_n hx hb dL_ofWhole_3 rfl (lv_at hl 0 rfl) ?_
  refine lv_iload_n hx hb dL_ofWhole_4 rfl (lv_at hl 1 rfl) ?_
  refine lv_iload_n hx hb dL_ofWhole_5 rfl (lv_at hl 2 rfl) ?_
  refine lv_iload_n hx hb dL_ofWhole_6 rfl (lv_at hl 3 rfl) ?_
  refine lv_iload hx hb dL_ofWhole_7 (lv_at hl 4 rfl) ?_
  refine fw_callH (vx_runV (As := [.int p1, .int p2, .int p3, .int (jb p4)]) (rest := [.int 0, .ref o]) ⟨hx, hb, hml, hown, htf⟩ (k_X5_ofWhole l hl9 dC dI s.heap.size x xf f0 f1 f2 f3 f4 f5 p1 p2 p3 p4) (cwV 4 htf (gd_V wk325 wk326 wk327 wk1 wk328) rfl rfl rfl ndX5_ofWhole ⟨Nat.le_of_ble_eq_true rfl, Nat.le_of_ble_eq_true rfl⟩) (fw_XV (va_recv hK hP (ci := 2) (q0 := 0) rfl rfl) hE fw_pre.rf (hP.sub (ws' := [(x, .inr (2, [.ref xf])), (xf, .inr (0, [.int f0, .int f1, .int f2, .int f3, .int f4, .int f5]))]) [0, 1] rfl) hK) rfl rfl hl.1 rfl (lv_room (Nat.le_of_ble_eq_true rfl)) dL_ofWhole_9 ⟨Nat.le_of_ble_eq_true rfl, Nat.le_of_ble_eq_true rfl⟩) hS hA (fun hB q ce H1 locs hg hS hce hcv hcl => ?_) (fun hB H1 locs hg hS => ?_)
  · refine vx_catch (E := fw_IAE) (name := fw_IAE) hown [] { startPc := 0, endPc := 14, handlerPc := 17, catchType := 13 } [] (htb.trans fw_tab) (fun z hz => nomatch hz) (by decide) (by decide) (htf _ wk41) (va_Nw.use rfl hE.2.1.2.2.2.2) hce hcv hcl ?_
    refine lv_astore (lv' := (6, .ref q) :: [(0, .ref x), (1, .int p1), (2, .int p2), (3, .int p3), (4, .int (jb p4)), (5, .ref o)]) hx hb dL_ofWhole_17 hl (by decide) rfl (fun ls hl => ?_)
    refine lv_iconst (v := 1) hx hb dL_ofWhole_19 (by decide) ?_
    exact W.iret (v := 1) hx hb hr (fun t ht hW => ⟨⟨1, g, rfl, ⟨by rw [hB]; rfl, fun h => absurd (hB.symm.trans h) (by decide)⟩, by dsimp only; rw [ht]; exact hg.P (hP.sub (ws' := [fw_oc o cA g]) [2] rfl)⟩, hS.F ht⟩) hS.2.2 dL_ofWhole_20
  · have hPo : va_P (dC, dI) vwCl [fw_oc o cA g] H1 := hg.P (hP.sub (ws' := [fw_oc o cA g]) [2] rfl)
    have hDo : va_D (fun a => a = o ∨ s.heap.size ≤ a) [fw_oc o cA g] := fw_D1 (Or.inl rfl)
    refine lv_i2l (v := (fm_X5_ofWhole f0 f1 f2 f3 f4 f5 p1 p2 p3 p4).toInt64) hx hb dL_ofWhole_12 rfl ?_
    refine va_last hx hb hK hPo hDo hS 0 0 rfl rfl (i := 0) (x := (fm_X5_ofWhole f0 f1 f2 f3 f4 f5 p1 p2 p3 p4).toInt64) (vp_in0) dL_ofWhole_13 (fun H2 locs2 hPo hDo hS => ?_)
    refine lv_goto (tgt := 21) hx hb dL_ofWhole_14 (by decide) ?_
    refine lv_iconst (v := 0) hx hb dL_ofWhole_21 (by decide) ?_
    exact W.iret (v := 0) hx hb hr (fun t ht hW => ⟨⟨0, vp_updL g (0 : Int32).toNatClampNeg (fm_X5_ofWhole f0 f1 f2 f3 f4 f5 p1 p2 p3 p4).toInt64, rfl, ⟨by rw [hB]; rfl, fun _ => rfl⟩, by dsimp only; rw [ht]; exact hPo⟩, hS.F ht⟩) hS.2.2 dL_ofWhole_22
set_option maxHeartbeats 4000000 in
set_option maxRecDepth 100000 in
theorem k_L_toWhole (l : Launch) (hl9 : l.stackTraces = false) (dC : Nat → ClassId) (dI : Nat → Nat → Nat) (sz x xf o : Nat) (cA : ClassId) (g : Nat → Int64) (f0 f1 f2 f3 f4 f5 : Int32) (p1 : Int32) (p2 : Int32) (p3 : Int32) (p4 : Bool) : Met l yL_toWhole wsL_toWhole { frames := 8, cells := 3, slots := 16, locals := 158 } (fw_H (dC, dI) [(x, .inr (2, [.ref xf])), (xf, .inr (0, [.int f0, .int f1, .int f2, .int f3, .int f4, .int f5])), (o, .inl (cA, 1, .inr (.inl g)))] cA sz [.ref x, .int p1, .int p2, .int p3, .int (jb p4), .ref o]) (fw_HQ (dC, dI) o cA sz (fc_X5_toWhole f0 f1 f2 f3 f4 f5 p1 p2 p3 p4) (fm_X5_toWhole f0 f1 f2 f3 f4 f5 p1 p2 p3 p4).toInt64) 3 16 (fun a => a = o ∨ sz ≤ a) := by
  refine va_MetW (cc := cL_toWhole) (maxL := 7) (ret := some .int) (hh := [(0, 14, 17, 13)]) (by decide) rfl ?_
  intro p e s m args below meth c s₁ B0 hml hv
  obtain ⟨rfl, hE, hP, hK⟩ := hv
  have hsz := hE.1
  subst hsz
  have hx := B0.exec
  have hb := B0.bytes
  have hr := B0.returns
  have hts := atoms_spec (ws := wsL_toWhole) B0.pre
  have htf : ∀ w ∈ fc_all, w.before _ s = true := fun w h => hts w (List.mem_cons_of_mem _ h)
  have hown : s.vm.findClass RL = some m.cls := findClass_of_methodNamed B0.named
  have htb := vx_table (x := yL_format) B0 (hts _ List.mem_cons_self)
  have hP : va_P (dC, dI) vwCl [(x, .inr (2, [.ref xf])), (xf, .inr (0, [.int f0, .int f1, .int f2, .int f3, .int f4, .int f5])), (o, .inl (cA, 1, .inr (.inl g)))] s.heap := hP
  have hS : va_S (fun a => a = o ∨ s.heap.size ≤ a) s.heap s.heap [] := va_S.rf
  have hA : ∀ q : Nat, s.heap.size ≤ q → (fun a => a = o ∨ s.heap.size ≤ a) q := fun _ h => Or.inr h
  have hl := lv_entry ([.ref x, .int p1, .int p2, .int p3, .int (jb p4), .ref o]) (n := 7) (Nat.le_of_ble_eq_true rfl)
  rw [lg_entry_eq]
  generalize (lg_sl ([.ref x, .int p1, .int p2, .int p3, .int (jb p4), .ref o]) ++ List.replicate (7 - (lg_sl ([.ref x, .int p1, .int p2, .int p3, .int (jb p4), .ref o])).length) Slot.unset).toArray = ls at hl ⊢
  have hl : lv_has ls 7 [(0, .ref x), (1, .int p1), (2, .int p2), (3, .int p3), (4, .int (jb p4)), (5, .ref o)] := hl
  refine lv_aload hx hb dL_toWhole_0 (lv_at hl 5 rfl) ?_
  refine lv_iconst (v := 0) hx hb dL_toWhole_2 (by decide) ?_
  refine lv_aload_n hx hb dL_toWhole_3 rfl (lv_at hl 0 rfl) ?_
  refine lv_iload_n hx hb dL_toWhole_4 rfl (lv_at hl 1 rfl) ?_
  refine lv_iload_n hx hb dL_toWhole_5 rfl (lv_at hl 2 rfl) ?_
  refine lv_iload_n hx hb dL_toWhole_6 rfl (lv_at hl 3 rfl) ?_
  refine lv_iload hx hb dL_toWhole_7 (lv_at hl 4 rfl) ?_
  refine fw_callH (vx_runV (As := [.int p1, .int p2, .int p3, .int (jb p4)]) (rest := [.int 0, .ref o]) ⟨hx, hb, hml, hown, htf⟩ (k_X5_toWhole l hl9 dC dI s.heap.size x xf f0 f1 f2 f3 f4 f5 p1 p2 p3 p4) (cwV 4 htf (gd_V wk337 wk338 wk339 wk1 wk340) rfl rfl rfl ndX5_toWhole ⟨Nat.le_of_ble_eq_true rfl, Nat.le_of_ble_eq_true rfl⟩) (fw_XV (va_recv hK hP (ci := 2) (q0 := 0) rfl rfl) hE fw_pre.rf (hP.sub (ws' := [(x, .inr (2, [.ref xf])), (xf, .inr (0, [.int f0, .int f1, .int f2, .int f3, .int f4, .int f5]))]) [0, 1] rfl) hK) rfl rfl hl.1 rfl (lv_room (Nat.le_of_ble_eq_true rfl)) dL_toWhole_9 ⟨Nat.le_of_ble_eq_true rfl, Nat.le_of_ble_eq_true rfl⟩) hS hA (fun hB q ce H1 locs hg hS hce hcv hcl => ?_) (fun hB H1 locs hg hS => ?_)
  · refine vx_catch (E := fw_IAE) (name := fw_IAE) hown [] { startPc := 0, endPc := 14, handlerPc := 17, catchType := 13 } [] (htb.trans fw_tab) (fun z hz => nomatch hz) (by decide) (by decide) (htf _ wk41) (va_Nw.use rfl hE.2.1.2.2.2.2) hce hcv hcl ?_
    refine lv_astore (lv' := (6, .ref q) :: [(0, .ref x), (1, .int p1), (2, .int p2), (3, .int p3), (4, .int (jb p4)), (5, .ref o)]) hx hb dL_toWhole_17 hl (by decide) rfl (fun ls hl => ?_)
    refine lv_iconst (v := 1) hx hb dL_toWhole_19 (by decide) ?_
    exact W.iret (v := 1) hx hb hr (fun t ht hW => ⟨⟨1, g, rfl, ⟨by rw [hB]; rfl, fun h => absurd (hB.symm.trans h) (by decide)⟩, by dsimp only; rw [ht]; exact hg.P (hP.sub (ws' := [fw_oc o cA g]) [2] rfl)⟩, hS.F ht⟩) hS.2.2 dL_toWhole_20
  · have hPo : va_P (dC, dI) vwCl [fw_oc o cA g] H1 := hg.P (hP.sub (ws' := [fw_oc o cA g]) [2] rfl)
    have hDo : va_D (fun a => a = o ∨ s.heap.size ≤ a) [fw_oc o cA g] := fw_D1 (Or.inl rfl)
    refine lv_i2l (v := (fm_X5_toWhole f0 f1 f2 f3 f4 f5 p1 p2 p3 p4).toInt64) hx hb dL_toWhole_12 rfl ?_
    refine va_last hx hb hK hPo hDo hS 0 0 rfl rfl (i := 0) (x := (fm_X5_toWhole f0 f1 f2 f3 f4 f5 p1 p2 p3 p4).toInt64) (vp_in0) dL_toWhole_13 (fun H2 locs2 hPo hDo hS => ?_)
    refine lv_goto (tgt := 21) hx hb dL_toWhole_14 (by decide) ?_
    refine lv_iconst (v := 0) hx hb dL_toWhole_21 (by decide) ?_
    exact W.iret (v := 0) hx hb hr (fun t ht hW => ⟨⟨0, vp_updL g (0 : Int32).toNatClampNeg (fm_X5_toWhole f0 f1 f2 f3 f4 f5 p1 p2 p3 p4).toInt64, rfl, ⟨by rw [hB]; rfl, fun _ => rfl⟩, by dsimp only; rw [ht]; exact hPo⟩, hS.F ht⟩) hS.2.2 dL_toWhole_22
