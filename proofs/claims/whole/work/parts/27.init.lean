/-! FloatCircuits(), format: the object h0 gets a new Format -/
/-- the six fields of a Format(e, s) -/
def fw_F (e s : Int32) : List Value := [.int (fm_X0_init_0 e s), .int (fm_X0_init_1 e s), .int (fm_X0_init_2 e s), .int (fm_X0_init_3 e s), .int (fm_X0_init_4 e s), .int (fm_X0_init_5 e s)]
def fw_N (D : va_G) (h0 : Nat) (e s : Int32) (st t : State) : Prop := ∃ q : Nat, st.heap.size ≤ q ∧ va_P D vwCl [(h0, .inr (2, [.ref q])), (q, .inr (0, fw_F e s))] t.heap ∧ va_F (fun a => a = h0 ∨ st.heap.size ≤ a) st t
section FN
variable {p : Program} {l : Launch} {e : Env} {R : Room} {s : State} {m : MethodId} {args : Array Value} {below : List Frame} {meth : Method} {c : Code} {H : Heap} {locs : List Loc} {cells slots : Nat}
theorem fw_callX2 {pc mc ms : Nat} {ls : Array Slot} {st0 rest : List Value} {a : Array Value} {B : Bool} {Qc : Array Value → State → Outcome → State → Prop} {XC : String → State → State → Prop} {free : Addr → Prop}
    (hr : vx_Run p l e R s m args below meth c H locs cells slots 1 6 (F0 m pc ls st0) rest (fw_XQ B a) (fw_XX B) (fun q => H.size ≤ q)) (hp : fw_pre s.heap H) (hloc : ∀ z ∈ locs, free z.base) (hfree : ∀ q, s.heap.size ≤ q → free q) (hno : ∀ x ∈ c.exceptionTable.toList, False) (hlocks : meth.locks = false)
    (hx : B = false → ∀ t : State, fw_pre H t.heap → XC fw_IAE s t) (hc : cells + 1 ≤ mc) (hs : slots + 6 ≤ ms)
    (kk : B = true → W p l e R s m args below meth c H locs (cells + 1) (slots + 6) (vx_MQ below Qc XC args s mc ms free) (F0 m (pc + 3) ls rest)) :
    W p l e R s m args below meth c H locs cells slots (vx_MQ below Qc XC args s mc ms free) (F0 m pc ls st0) := by
  intro T hT X
  rcases hr T hT X with ⟨v, st₀, t, T', L, h0, X', hL, e1, e2, ⟨hB, hv, hh⟩, st⟩ | ⟨q, st₀, t, T', L, E, ce, h0, X', hL, e1, e2, ⟨hB, rfl, hg⟩, hce, hcv, hcl, st⟩
  · cases hv
    obtain ⟨t2, a1, b1⟩ := kk hB T' (by rw [e1, hh, h0]) (Stand.forget X' (fun z hz => Nat.le_trans hp.1 (hL z hz)))
    exact ⟨t2, st t2 a1, b1⟩
  · have hg' : fw_pre H T'.heap := by rw [e1, ← h0]; exact hg
    have hw : vx_W p l e R s m args below meth c T'.heap (locs ++ L) (cells + 1) (slots + 6) (vx_MQ below Qc XC args s mc ms free) (F0 m pc ls rest) q :=
      vx_out (fun x hx9 => (hno x hx9).elim) hlocks (by rw [e1]; exact hce) hcv hcl (fun t2 h2 _ => hx hB t2 (by rw [h2]; exact hg')) (fun z hz => by
        rcases List.mem_append.mp hz with h | h
        · exact hloc z h
        · exact hfree _ (Nat.le_trans hp.1 (hL z h))) hc hs
    obtain ⟨t2, a1, b1⟩ := hw T' rfl X'
    exact ⟨t2, st.trans a1, b1⟩
end FN
set_option maxHeartbeats 4000000 in
set_option maxRecDepth 100000 in
theorem k_X5_init (l : Launch) (dC : Nat → ClassId) (dI : Nat → Nat → Nat) (sz h0 : Nat) : Met l yX5_init wsX5_init { frames := 2, cells := 1, slots := 6, locals := 36 } (fw_RZ (dC, dI) vwCl [(h0, .inr (2, [.null]))] sz [.ref h0]) (fun _ st oc t => oc = .returned none ∧ fw_N (dC, dI) h0 5 11 st t) 1 6 (fun a => a = h0 ∨ sz ≤ a) := by
  refine Met.ofW (cc := cX5_init) (maxL := 1) (ret := none) (by decide) rfl ?_
  intro p e s m args below meth c s₁ B hml hv
  obtain ⟨rfl, hsz, hP, hK⟩ := hv
  subst hsz
  have hx := B.exec
  have hb := B.bytes
  have hr := B.returns
  have hts := atoms_spec (ws := wsX5_init) B.pre
  have htf : ∀ w ∈ fc_all, w.before _ s = true := fun w h => hts w (List.mem_cons_of_mem _ h)
  have hown : s.vm.findClass RX5 = some m.cls := findClass_of_methodNamed B.named
  have hlocks := B.notSynchronized
  have hP : va_P (dC, dI) vwCl [(h0, .inr (2, [.null]))] s.heap := hP
  have hD : va_D (fun a => a = h0 ∨ s.heap.size ≤ a) [(h0, .inr (2, [.null]))] := fw_D1 (Or.inl rfl)
  have hS : va_S (fun a => a = h0 ∨ s.heap.size ≤ a) s.heap s.heap [] := va_S.rf
  have hA : ∀ q : Nat, s.heap.size ≤ q → (fun a => a = h0 ∨ s.heap.size ≤ a) q := fun _ h => Or.inr h
  have h0l : h0 < s.heap.size := vx_lt hP (k := 0) rfl
  have hl := lv_entry ([.ref h0]) (n := 1) (Nat.le_of_ble_eq_true rfl)
  rw [lg_entry_eq]
  generalize (lg_sl ([.ref h0]) ++ List.replicate (1 - (lg_sl ([.ref h0])).length) Slot.unset).toArray = ls at hl ⊢
  have hl : lv_has ls 1 [(0, .ref h0)] := hl
  refine lv_aload_n hx hb dX5_init_0 rfl (lv_at hl 0 rfl) ?_
  refine W.objInit hx hb hown (htf _ wk19) (htf _ wk20) (htf _ wk21) rfl (by rw [hml]; exact hl.1) rfl dX5_init_1 (Nat.le_of_ble_eq_true rfl) (Nat.le_of_ble_eq_true rfl) ?_
  refine W.eq (g2 := F0 m 4 ls []) rfl ?_
  refine lv_aload_n hx hb dX5_init_4 rfl (lv_at hl 0 rfl) ?_
  refine va_new (ci := 0) (fs := [.int 0, .int 0, .int 0, .int 0, .int 0, .int 0]) (C := RX0) (T := TX0) (N := 6) hx hb htf hiX0 tyX0 tyX0_ok hown (htf _ wk22) (htf _ wk23) (htf _ wk2) hK hP hD hS hA rfl (fun j hj => by rcases (show j = 0 ∨ j = 1 ∨ j = 2 ∨ j = 3 ∨ j = 4 ∨ j = 5 by omega) with rfl | rfl | rfl | rfl | rfl | rfl <;> rfl) (Nat.le_of_ble_eq_true rfl) (Nat.le_of_ble_eq_true rfl) dX5_init_5 (fun q H hP hD hS => ?_)
  have hP : va_P (dC, dI) vwCl [(h0, .inr (2, [.null])), (q, .inr (0, [.int 0, .int 0, .int 0, .int 0, .int 0, .int 0]))] H := hP
  have hD : va_D (fun a => a = h0 ∨ s.heap.size ≤ a) [(h0, .inr (2, [.null])), (q, .inr (0, [.int 0, .int 0, .int 0, .int 0, .int 0, .int 0]))] := hD
  have hne : h0 ≠ q := fun h => absurd (hD.1 0 1 _ _ rfl rfl h) (by decide)
  have hqA : q = h0 ∨ s.heap.size ≤ q := hD.2 1 _ rfl
  have hq : s.heap.size ≤ q := hqA.elim (fun h => absurd h.symm hne) id
  refine lv_dup hx hb dX5_init_8 rfl ?_
  refine lv_iconst (v := 5) hx hb dX5_init_9 (by decide) ?_
  refine lv_bipush (v := 11) hx hb dX5_init_10 (by decide) ?_
  refine fw_callM (va_runI (As := [.int 5, .int 11]) (rest := [.ref q, .ref h0]) ⟨hx, hb, hml, hown, htf⟩ (k_X0_init l dC dI q 5 11) (cwI 2 htf (gd_I wk26) rfl rfl rfl (htf _ wk2) (htf _ wk24) (htf _ wk25) rfl ndX0_init ⟨Nat.le_of_ble_eq_true rfl, Nat.le_of_ble_eq_true rfl⟩) (fw_RS (hP.sub (ws' := [(q, .inr (0, [.int 0, .int 0, .int 0, .int 0, .int 0, .int 0]))]) [1] rfl) hK) rfl rfl hl.1 rfl (lv_room (Nat.le_of_ble_eq_true rfl)) dX5_init_12 ⟨Nat.le_of_ble_eq_true rfl, Nat.le_of_ble_eq_true rfl⟩) hS hqA (fun H1 locs hn hz hk hS => ?_)
  have h0H : h0 < H.size := vx_lt hP (k := 0) rfl
  have hP0 : va_P (dC, dI) vwCl [(h0, .inr (2, [.null]))] H1 := (hP.sub (ws' := [(h0, .inr (2, [.null]))]) [0] rfl).kept (fun k z hk9 => by
    have h3 := List.mem_of_getElem? hk9
    simp only [List.mem_cons, List.not_mem_nil, or_false] at h3
    subst h3
    exact hk h0 h0H hne)
  have hP : va_P (dC, dI) vwCl [(h0, .inr (2, [.null])), (q, .inr (0, fw_F 5 11))] H1 := hP0.app hn
  have hD : va_D (fun a => a = h0 ∨ s.heap.size ≤ a) [(h0, .inr (2, [.null])), (q, .inr (0, fw_F 5 11))] := ⟨fun i j z1 z2 a1 a2 a3 => by
      match i, j, a1, a2 with
      | 0, 0, _, _ => rfl
      | 1, 1, _, _ => rfl
      | 0, 1, a1, a2 => cases a1; cases a2; exact absurd a3 hne
      | 1, 0, a1, a2 => cases a1; cases a2; exact absurd a3.symm hne
      | i + 2, _, a1, _ => simp at a1
      | _, j + 2, _, a2 => simp at a2, fun k z hk9 => by
      match k, hk9 with
      | 0, hk9 => cases hk9; exact Or.inl rfl
      | 1, hk9 => cases hk9; exact Or.inr hq
      | k + 2, hk9 => simp at hk9⟩
  refine va_put (D := (dC, dI)) (ci := 2) (v := .ref q) (ty := .object "FloatCircuits$Format") (C := RX5) (T := TX5) (N := 1) hx hb htf hiX5 tyX5 tyX5_ok nmX5 hown hK hP hD hS 0 rfl rfl 0 (by decide) (htf _ wk37) (fun _ h9 => h9) rfl (by decide +kernel) rfl rfl (Nat.le_of_ble_eq_true rfl) dX5_init_15 (fun H locs hP hD hS => ?_)
  have hP : va_P (dC, dI) vwCl [(h0, .inr (2, [.ref q])), (q, .inr (0, fw_F 5 11))] H := hP
  exact W.vret hx hb hr (fun t ht hW => ⟨rfl, q, hq, by rw [ht]; exact hP, hS.F ht⟩) hS.2.2 dX5_init_18
def fc_X5_format (e s : Int32) : Bool := fm_X5_isFormat e s
set_option maxHeartbeats 4000000 in
set_option maxRecDepth 100000 in
theorem k_X5_format (l : Launch) (hl9 : l.stackTraces = false) (dC : Nat → ClassId) (dI : Nat → Nat → Nat) (sz h0 h0_present : Nat) (f0 f1 f2 f3 f4 f5 p1 p2 : Int32) : vx_Met l yX5_format wsX5_format { frames := 7, cells := 2, slots := 12, locals := 101 } (fw_X (dC, dI) vwCl [(h0, .inr (2, [.ref h0_present])), (h0_present, .inr (0, [.int f0, .int f1, .int f2, .int f3, .int f4, .int f5]))] sz [.ref h0, .int p1, .int p2]) (fun _ st oc t => fc_X5_format p1 p2 = true ∧ oc = .returned (some (.int (fm_X0_init_0 p1 p2))) ∧ fw_N (dC, dI) h0 p1 p2 st t) (fw_XX (fc_X5_format p1 p2)) 2 12 (fun a => a = h0 ∨ sz ≤ a) := by
  refine vx_ofW (cc := cX5_format) (maxL := 3) (ret := (some .int)) (by decide) rfl ?_
  intro p e s m args below meth c s₁ B hml hno hv
  obtain ⟨rfl, hE, hP, hK⟩ := hv
  have hsz := hE.1
  subst hsz
  have hx := B.exec
  have hb := B.bytes
  have hr := B.returns
  have hts := atoms_spec (ws := wsX5_format) B.pre
  have htf : ∀ w ∈ fc_all, w.before _ s = true := fun w h => hts w (List.mem_cons_of_mem _ h)
  have hown : s.vm.findClass RX5 = some m.cls := findClass_of_methodNamed B.named
  have hlocks := B.notSynchronized
  have hP : va_P (dC, dI) vwCl [(h0, .inr (2, [.ref h0_present])), (h0_present, .inr (0, [.int f0, .int f1, .int f2, .int f3, .int f4, .int f5]))] s.heap := hP
  have hP : va_P (dC, dI) vwCl [(h0, .inr (2, [.ref h0_present]))] s.heap := hP.sub [0] rfl
  have hD : va_D (fun a => a = h0 ∨ s.heap.size ≤ a) [(h0, .inr (2, [.ref h0_present]))] := fw_D1 (Or.inl rfl)
  have hS : va_S (fun a => a = h0 ∨ s.heap.size ≤ a) s.heap s.heap [] := va_S.rf
  have hA : ∀ q : Nat, s.heap.size ≤ q → (fun a => a = h0 ∨ s.heap.size ≤ a) q := fun _ h => Or.inr h
  have h0l : h0 < s.heap.size := vx_lt hP (k := 0) rfl
  have hl := lv_entry ([.ref h0, .int p1, .int p2]) (n := 3) (Nat.le_of_ble_eq_true rfl)
  rw [lg_entry_eq]
  generalize (lg_sl ([.ref h0, .int p1, .int p2]) ++ List.replicate (3 - (lg_sl ([.ref h0, .int p1, .int p2])).length) Slot.unset).toArray = ls at hl ⊢
  have hl : lv_has ls 3 [(0, .ref h0), (1, .int p1), (2, .int p2)] := hl
  refine lv_iload_n hx hb dX5_format_0 rfl (lv_at hl 1 rfl) ?_
  refine lv_iload_n hx hb dX5_format_1 rfl (lv_at hl 2 rfl) ?_
  refine fw_call (va_runS (As := [.int p1, .int p2]) (rest := []) ⟨hx, hb, hml, hown, htf⟩ (k_X5_isFormat l p1 p2) (va_cwS 2 htf (gd_S wk46 wk47 wk1 wk48) rfl rfl rfl ndX5_isFormat ⟨Nat.le_of_ble_eq_true rfl, Nat.le_of_ble_eq_true rfl⟩) fw_PS rfl rfl hl.1 rfl (lv_room (Nat.le_of_ble_eq_true rfl)) dX5_format_2 ⟨Nat.le_of_ble_eq_true rfl, Nat.le_of_ble_eq_true rfl⟩) ?_
  refine fw_callX2 (vx_runS (As := [.int (jb (fm_X5_isFormat p1 p2))]) (rest := []) ⟨hx, hb, hml, hown, htf⟩ (k_X5_require l hl9 (dC, dI) s.heap.size (fm_X5_isFormat p1 p2)) (va_cwS 1 htf (gd_S wk52 wk53 wk1 wk54) rfl rfl rfl ndX5_require ⟨Nat.le_of_ble_eq_true rfl, Nat.le_of_ble_eq_true rfl⟩) (fw_XS hE fw_pre.rf fw_nilP hK) rfl rfl hl.1 rfl (lv_room (Nat.le_of_ble_eq_true rfl)) dX5_format_5 ⟨Nat.le_of_ble_eq_true rfl, Nat.le_of_ble_eq_true rfl⟩) fw_pre.rf hS.2.2 hA hno hlocks (fun hB t hg => ⟨hB, rfl, hg⟩) (Nat.le_of_ble_eq_true rfl) (Nat.le_of_ble_eq_true rfl) (fun hB => ?_)
  refine lv_aload_n hx hb dX5_format_8 rfl (lv_at hl 0 rfl) ?_
  refine va_new (ci := 0) (fs := [.int 0, .int 0, .int 0, .int 0, .int 0, .int 0]) (C := RX0) (T := TX0) (N := 6) hx hb htf hiX0 tyX0 tyX0_ok hown (htf _ wk22) (htf _ wk23) (htf _ wk2) hK hP hD hS hA rfl (fun j hj => by rcases (show j = 0 ∨ j = 1 ∨ j = 2 ∨ j = 3 ∨ j = 4 ∨ j = 5 by omega) with rfl | rfl | rfl | rfl | rfl | rfl <;> rfl) (Nat.le_of_ble_eq_true rfl) (Nat.le_of_ble_eq_true rfl) dX5_format_9 (fun q H hP hD hS => ?_)
  have hP : va_P (dC, dI) vwCl [(h0, .inr (2, [.ref h0_present])), (q, .inr (0, [.int 0, .int 0, .int 0, .int 0, .int 0, .int 0]))] H := hP
  have hD : va_D (fun a => a = h0 ∨ s.heap.size ≤ a) [(h0, .inr (2, [.ref h0_present])), (q, .inr (0, [.int 0, .int 0, .int 0, .int 0, .int 0, .int 0]))] := hD
  have hne : h0 ≠ q := fun h => absurd (hD.1 0 1 _ _ rfl rfl h) (by decide)
  have hqA : q = h0 ∨ s.heap.size ≤ q := hD.2 1 _ rfl
  have hq : s.heap.size ≤ q := hqA.elim (fun h => absurd h.symm hne) id
  refine lv_dup hx hb dX5_format_12 rfl ?_
  refine lv_iload_n hx hb dX5_format_13 rfl (lv_at hl 1 rfl) ?_
  refine lv_iload_n hx hb dX5_format_14 rfl (lv_at hl 2 rfl) ?_
  refine fw_callM (va_runI (As := [.int p1, .int p2]) (rest := [.ref q, .ref h0]) ⟨hx, hb, hml, hown, htf⟩ (k_X0_init l dC dI q p1 p2) (cwI 2 htf (gd_I wk26) rfl rfl rfl (htf _ wk2) (htf _ wk24) (htf _ wk25) rfl ndX0_init ⟨Nat.le_of_ble_eq_true rfl, Nat.le_of_ble_eq_true rfl⟩) (fw_RS (hP.sub (ws' := [(q, .inr (0, [.int 0, .int 0, .int 0, .int 0, .int 0, .int 0]))]) [1] rfl) hK) rfl rfl hl.1 rfl (lv_room (Nat.le_of_ble_eq_true rfl)) dX5_format_15 ⟨Nat.le_of_ble_eq_true rfl, Nat.le_of_ble_eq_true rfl⟩) hS hqA (fun H1 locs hn hz hk hS => ?_)
  have h0H : h0 < H.size := vx_lt hP (k := 0) rfl
  have hP0 : va_P (dC, dI) vwCl [(h0, .inr (2, [.ref h0_present]))] H1 := (hP.sub (ws' := [(h0, .inr (2, [.ref h0_present]))]) [0] rfl).kept (fun k z hk9 => by
    have h3 := List.mem_of_getElem? hk9
    simp only [List.mem_cons, List.not_mem_nil, or_false] at h3
    subst h3
    exact hk h0 h0H hne)
  have hP : va_P (dC, dI) vwCl [(h0, .inr (2, [.ref h0_present])), (q, .inr (0, fw_F p1 p2))] H1 := hP0.app hn
  have hD : va_D (fun a => a = h0 ∨ s.heap.size ≤ a) [(h0, .inr (2, [.ref h0_present])), (q, .inr (0, fw_F p1 p2))] := ⟨fun i j z1 z2 a1 a2 a3 => by
      match i, j, a1, a2 with
      | 0, 0, _, _ => rfl
      | 1, 1, _, _ => rfl
      | 0, 1, a1, a2 => cases a1; cases a2; exact absurd a3 hne
      | 1, 0, a1, a2 => cases a1; cases a2; exact absurd a3.symm hne
      | i + 2, _, a1, _ => simp at a1
      | _, j + 2, _, a2 => simp at a2, fun k z hk9 => by
      match k, hk9 with
      | 0, hk9 => cases hk9; exact Or.inl rfl
      | 1, hk9 => cases hk9; exact Or.inr hq
      | k + 2, hk9 => simp at hk9⟩
  refine va_put (D := (dC, dI)) (ci := 2) (v := .ref q) (ty := .object "FloatCircuits$Format") (C := RX5) (T := TX5) (N := 1) hx hb htf hiX5 tyX5 tyX5_ok nmX5 hown hK hP hD hS 0 rfl rfl 0 (by decide) (htf _ wk37) (fun _ h9 => h9) rfl (by decide +kernel) rfl rfl (Nat.le_of_ble_eq_true rfl) dX5_format_18 (fun H locs hP hD hS => ?_)
  have hP : va_P (dC, dI) vwCl [(h0, .inr (2, [.ref q])), (q, .inr (0, fw_F p1 p2))] H := hP
  refine lv_aload_n hx hb dX5_format_21 rfl (lv_at hl 0 rfl) ?_
  refine va_get (D := (dC, dI)) (ci := 2) (v := .ref q) (C := RX5) (T := TX5) (N := 1) hx hb htf hiX5 hown hK hP 0 rfl rfl 0 (by decide) (htf _ wk37) (fun _ h9 => h9) rfl dX5_format_22 ?_
  refine va_get (D := (dC, dI)) (ci := 0) (v := .int (fm_X0_init_0 p1 p2)) (C := RX0) (T := TX0) (N := 6) hx hb htf hiX0 hown hK hP 1 rfl rfl 0 (by decide) (htf _ wk29) (fun _ h9 => h9) rfl dX5_format_25 ?_
  refine vx_ret ?_
  exact W.iret (v := fm_X0_init_0 p1 p2) hx hb hr (fun t ht hW => ⟨hB, rfl, q, hq, by rw [ht]; exact hP, hS.F ht⟩) hS.2.2 dX5_format_28
