/-! THE LAW'S LOOP AND ITS START -/
def pf_all : Prop := pf_format ∧ pf_reckon ∧ pf_change ∧ pf_least ∧ pf_compare ∧ pf_is ∧ pf_from ∧ pf_ofWhole ∧ pf_toWhole
theorem lw_isub {L k : Nat} (hL : L ≤ 2560) (hk : 5 * k ≤ L) : (Int32.ofNat L - 5 < nI (5 * k)) ↔ L < 5 * k + 5 := by
  have h1 : (nI (5 * k)).toInt = ((5 * k : Nat) : Int) := nI_toInt (by omega)
  have h2 : (Int32.ofNat L).toInt = (L : Int) := nI_toInt (n := L) (by omega)
  have h3 : (Int32.ofNat L - 5).toInt = (L : Int) - 5 := by
    rw [Int32.toInt_sub, h2]
    have h5 : (5 : Int32).toInt = 5 := by decide
    rw [h5]
    show Int.bmod _ (2 ^ 32) = _
    exact Int.bmod_eq_of_le (by omega) (by omega)
  rw [Int32.lt_iff_toInt_lt, h3, h1]
  omega
def R_law : String := "FloatCircuitsLaw"
def lw_Q (_ : Array Value) (s : State) (o : Outcome) (t : State) : Prop := o = .returned (some (.int 1)) ∧ Framed s o t [] room_1.cells room_1.slots
def lw_Z (below : List Frame) (a : Array Value) (s : State) : State → Prop := fun t => ∃ o, t.status = .running ∧ Ended t below o ∧ lw_Q a s o t
/-- the law's own end, with 1 on the stack, nothing written that was there before, its room as the claim has it -/
theorem lw_ret {p : Program} {l : Launch} {e : Env} {s : State} {m : MethodId} {below : List Frame} {meth : Method} {c : Code} {b : Nat} (hx : p.tables.exec = Jvm.exec) (hb : c.code = code) (hr : meth.sig.returnType = ret) (hlocks : meth.locks = false) {pc : Nat} {H : Heap} {ls : Array Slot} (hdg : decode code pc = .ok (.ireturn, 1)) : W p l e room_1 s m #[Value.ref b] below meth c H [] room_1.cells room_1.slots (lw_Z below #[Value.ref b] s) (F0 m pc ls [.int 1]) := by
  intro T hT X
  obtain ⟨fs, hret, hrun, hended, hW, hframe⟩ := X.leave (v := some (.int 1)) (hlocks := hlocks) (fun h => by rw [hr] at h; cases h)
  have hmeth' : T.vm.method? m = some meth := X.method'
  refine ⟨T.setFrames fs, ?_, .returned (some (.int 1)), hrun, hended, rfl, ⟨_, rfl⟩, hW, hframe⟩
  jvm_step X.here [X.here.top, hx, hb, hdg, hmeth', hr, ret, narrow_b1]
  (try refine ⟨rfl, ?_⟩); (try refine ⟨rfl, ?_⟩)
  first | (intro acts; rw [hret _ acts rfl rfl rfl]) | rw [hret _ _ rfl rfl rfl]
  exact Steps.refl _
/-- what holds at the law's entry: the machine, the code, the tables' words (any of lw_tbl by 'hts w (by decide +kernel)'), the script of L ints xs at the cell b, what the Statement gives of the start (any of its parts by flat_of_before) -/
def lw_At (p : Program) (s : State) (m : MethodId) (meth : Method) (c : Code) (b L : Nat) (xs : Nat → Int32) : Prop :=
  p.tables.exec = Jvm.exec ∧ c.code = code ∧ meth.sig.returnType = ret ∧ c.maxLocals = 7 ∧ s.vm.findClass R_law = some m.cls ∧ (∀ w ∈ lw_tbl, w.before #[Value.ref b] s = true) ∧ va_X b L xs s s.heap ∧ b < s.heap.size ∧ meth.locks = false ∧ (Jvm.Cond.and given_1 narrow_1).before #[Value.ref b] s = true
theorem rm_c : 100000 ≤ room_1.cells := by decide
theorem rm_s : 100000 ≤ room_1.slots := by decide
section LOOP
variable {p : Program} {l : Launch} {e : Env} {s : State} {m : MethodId} {below : List Frame} {meth : Method} {c : Code} {dC : Nat → ClassId} {dI : Nat → Nat → Nat} {cA : ClassId} {b L x o mo : Nat} {xs : Nat → Int32}
set_option maxHeartbeats 4000000 in
set_option maxRecDepth 100000 in
theorem lw_loop (C : lw_C p l s m c dC dI cA b L xs) (HP : pf_all) (hr : meth.sig.returnType = ret) (hlocks : meth.locks = false) : ∀ (n k : Nat) (H : Heap) (locs : List Loc) (ls : Array Slot), L < 5 * (k + n) + 5 → 5 * k ≤ L → lw_J (dC, dI) cA s x o mo H locs → lv_has ls 7 (lw_L b x mo o k) →
    W p l e room_1 s m #[Value.ref b] below meth c H locs (4 + 6 * k) (15 + 26 * k) (lw_Z below #[Value.ref b] s) (F0 m 23 ls []) := by
  have C' := C
  obtain ⟨hx, hb, hml, hown, htf, hE, hK, hX, hbl, hL, hl9⟩ := C'
  obtain ⟨hformat, hreckon, hchange, hleast, hcompare, his, hfrom, hofWhole, htoWhole⟩ := HP
  have hbA : ¬ s.heap.size ≤ b := Nat.not_le.mpr hbl
  have rm1 := rm_c
  have rm2 := rm_s
  intro n
  induction n with
  | zero =>
    intro k H locs ls hn hk hJ hl
    have hS := hJ.choose_spec.choose_spec.choose_spec.choose_spec.choose_spec.2.2.2.2.2
    refine lv_iload hx hb dL_law_23 (lv_at hl 4 rfl) ?_
    refine lv_aload_n hx hb dL_law_25 rfl (lv_at hl 0 rfl) ?_
    refine va_slen (A := fun q => s.heap.size ≤ q) hx hb hX hbl hbA hS dL_law_26 ?_
    refine lv_iconst (v := 5) hx hb dL_law_27 (by decide) ?_
    refine lv_isub hx hb dL_law_28 ?_
    refine lv_icmp_gt (tgt := 900) hx hb dL_law_29 (by decide) (fun c1 => ?_) (fun c1 => absurd ((lw_isub hL hk).mpr (by omega)) c1)
    refine lv_iconst (v := 1) hx hb dL_law_900 (by decide) ?_
    refine W.widen (k := room_1.cells) (n := room_1.slots) (by omega) (by omega) ?_
    intro T hT X
    exact lw_ret hx hb hr hlocks dL_law_901 T hT (Stand.forget (locs := []) X (fun z hz => hS.2.2 z hz))
  | succ n ih =>
    intro k H locs ls hn hk hJ hl
    have hS := hJ.choose_spec.choose_spec.choose_spec.choose_spec.choose_spec.2.2.2.2.2
    refine lv_iload hx hb dL_law_23 (lv_at hl 4 rfl) ?_
    refine lv_aload_n hx hb dL_law_25 rfl (lv_at hl 0 rfl) ?_
    refine va_slen (A := fun q => s.heap.size ≤ q) hx hb hX hbl hbA hS dL_law_26 ?_
    refine lv_iconst (v := 5) hx hb dL_law_27 (by decide) ?_
    refine lv_isub hx hb dL_law_28 ?_
    refine lv_icmp_gt (tgt := 900) hx hb dL_law_29 (by decide) (fun c1 => ?_) (fun c1 => ?_)
    · refine lv_iconst (v := 1) hx hb dL_law_900 (by decide) ?_
      refine W.widen (k := room_1.cells) (n := room_1.slots) (by omega) (by omega) ?_
      intro T hT X
      exact lw_ret hx hb hr hlocks dL_law_901 T hT (Stand.forget (locs := []) X (fun z hz => hS.2.2 z hz))
    have hk5 : 5 * k + 5 ≤ L := Nat.not_lt.mp (fun h => c1 ((lw_isub hL hk).mpr h))
    have hc6 : 4 + 6 * k + 6 ≤ room_1.cells := by omega
    have hs6 : 15 + 26 * k + 26 ≤ room_1.slots := by omega
    have back : ∀ (H1 : Heap) (locs1 : List Loc) (ls1 : Array Slot), lw_J (dC, dI) cA s x o mo H1 locs1 → lv_has ls1 7 (lw_L b x mo o k) → W p l e room_1 s m #[Value.ref b] below meth c H1 locs1 (4 + 6 * k + 6) (15 + 26 * k + 26) (lw_Z below #[Value.ref b] s) (F0 m 894 ls1 []) := by
      intro H1 locs1 ls1 hJ hl
      refine lv_iinc (k := 4) (v := nI (5 * (k + 1))) (lv' := [(4, .int (nI (5 * (k + 1)))), (0, .ref b), (1, .ref x), (2, .ref mo), (3, .ref o)]) hx hb dL_law_894 hl rfl (nI_add (5 * k) 5) (by decide) rfl (fun ls hl => ?_)
      refine lv_goto (tgt := 23) hx hb dL_law_897 (by decide) ?_
      exact ih (k + 1) H1 locs1 ls (by omega) (by omega) hJ (lv_sub hl [1, 2, 3, 4, 0] rfl)
    refine lv_aload_n hx hb dL_law_32 rfl (lv_at hl 0 rfl) ?_
    refine lv_iload hx hb dL_law_33 (lv_at hl 4 rfl) ?_
    refine va_sld (A := fun q => s.heap.size ≤ q) hx hb hX hbl hbA hS (nI_in (show 5 * k < L by omega) (by omega)) dL_law_35 ?_
    refine lv_bipush (v := 15) hx hb dL_law_36 (by decide) ?_
    refine lv_iand hx hb dL_law_38 ?_
    generalize xs (nI (5 * k)).toNatClampNeg &&& 15 = w
    by_cases q0 : w = 0
    · refine lv_tableIn (tgt := 88) hx hb dL_law_39 (by rw [q0]; decide) (by rw [q0]; decide) (by rw [q0]; rfl) (by decide) ?_
      exact lw_c_format C hformat hk5 hc6 hs6 hJ hl back
    by_cases q1 : w = 1
    · refine lv_tableIn (tgt := 156) hx hb dL_law_39 (by rw [q1]; decide) (by rw [q1]; decide) (by rw [q1]; rfl) (by decide) ?_
      exact lw_c_reckon C hreckon hk5 hc6 hs6 hJ hl back
    by_cases q2 : w = 2
    · refine lv_tableIn (tgt := 248) hx hb dL_law_39 (by rw [q2]; decide) (by rw [q2]; decide) (by rw [q2]; rfl) (by decide) ?_
      exact lw_c_change C hchange hk5 hc6 hs6 hJ hl back
    by_cases q3 : w = 3
    · refine lv_tableIn (tgt := 328) hx hb dL_law_39 (by rw [q3]; decide) (by rw [q3]; decide) (by rw [q3]; rfl) (by decide) ?_
      exact lw_c_least C hleast hk5 hc6 hs6 hJ hl back
    by_cases q4 : w = 4
    · refine lv_tableIn (tgt := 424) hx hb dL_law_39 (by rw [q4]; decide) (by rw [q4]; decide) (by rw [q4]; rfl) (by decide) ?_
      exact lw_c_compare C hcompare hk5 hc6 hs6 hJ hl back
    by_cases q5 : w = 5
    · refine lv_tableIn (tgt := 511) hx hb dL_law_39 (by rw [q5]; decide) (by rw [q5]; decide) (by rw [q5]; rfl) (by decide) ?_
      exact lw_c_is C his hk5 hc6 hs6 hJ hl back
    by_cases q6 : w = 6
    · refine lv_tableIn (tgt := 586) hx hb dL_law_39 (by rw [q6]; decide) (by rw [q6]; decide) (by rw [q6]; rfl) (by decide) ?_
      exact lw_c_from C hfrom hk5 hc6 hs6 hJ hl back
    by_cases q7 : w = 7
    · refine lv_tableIn (tgt := 678) hx hb dL_law_39 (by rw [q7]; decide) (by rw [q7]; decide) (by rw [q7]; rfl) (by decide) ?_
      exact lw_c_ofWhole C hofWhole hk5 hc6 hs6 hJ hl back
    by_cases q8 : w = 8
    · refine lv_tableIn (tgt := 786) hx hb dL_law_39 (by rw [q8]; decide) (by rw [q8]; decide) (by rw [q8]; rfl) (by decide) ?_
      exact lw_c_toWhole C htoWhole hk5 hc6 hs6 hJ hl back
    refine lv_tableOut (tgt := 894) hx hb dL_law_39 (fw_out (by have r0 := fw_ne q0 (v := 0) rfl; have r1 := fw_ne q1 (v := 1) rfl; have r2 := fw_ne q2 (v := 2) rfl; have r3 := fw_ne q3 (v := 3) rfl; have r4 := fw_ne q4 (v := 4) rfl; have r5 := fw_ne q5 (v := 5) rfl; have r6 := fw_ne q6 (v := 6) rfl; have r7 := fw_ne q7 (v := 7) rfl; have r8 := fw_ne q8 (v := 8) rfl; omega)) (by decide) ?_
    exact W.widen (k := 4 + 6 * k + 6) (n := 15 + 26 * k + 26) (by omega) (by omega) (back H locs ls hJ hl)
end LOOP
theorem lw_K {args : Array Value} {s : State} (htf : ∀ w ∈ fc_all, w.before args s = true) : ∃ (dC : Nat → ClassId) (dI : Nat → Nat → Nat), va_K (dC, dI) vwCl [] s := by
  obtain ⟨c0, i0, h0⟩ := u_known htf hiX0 (htf _ wk23)
  obtain ⟨c1, i1, h1⟩ := u_known htf hiX4 (htf _ wk129)
  obtain ⟨c2, i2, h2⟩ := u_known htf hiX5 (htf _ wk15)
  obtain ⟨c3, i3, h3⟩ := u_known htf hiX6 (htf _ wk346)
  refine ⟨fun k => match k with | 0 => c0 | 1 => c1 | 2 => c2 | _ => c3, fun k => match k with | 0 => i0 | 1 => i1 | 2 => i2 | _ => i3, fun c q hq => ?_, fun k q hk => by simp at hk⟩
  match c, hq with
  | 0, hq => cases hq; exact h0
  | 1, hq => cases hq; exact h1
  | 2, hq => cases hq; exact h2
  | 3, hq => cases hq; exact h3
  | c + 4, hq => simp at hq
theorem lw_E {b : Nat} {s : State} (hts : ∀ w ∈ lw_tbl, w.before #[Value.ref b] s = true) (hgv : (Jvm.Cond.and given_1 narrow_1).before #[Value.ref b] s = true) : fw_E s.heap.size s := by
  have hs := flat_of_before _ hgv
  exact ⟨rfl, ⟨va_Nw.of rfl (hts fw_nest (by decide +kernel)), va_Nw.of rfl (hts fw_d1 (by decide +kernel)), va_Nw.of rfl (hts fw_d2 (by decide +kernel)), va_Nw.of rfl (hts fw_d3 (by decide +kernel)), va_Nw.of rfl (hts fw_d4 (by decide +kernel))⟩,
    vx_Zqof (hts _ (show Cond.laysStatic Bundle.tN "UNASSIGNED_STACK" Bundle.steD ∈ lw_tbl by decide +kernel)) (hts _ (show Cond.initialized Bundle.tN ∈ lw_tbl by decide +kernel)) (hs _ (show Cond.isRef (.static Bundle.tN "UNASSIGNED_STACK" Bundle.steD) ∈ _ by decide +kernel)) (fun a h => Nat.not_le.mpr h),
    vx_Zqof (hts _ (show Cond.laysStatic Bundle.tN "SUPPRESSED_SENTINEL" Bundle.listD ∈ lw_tbl by decide +kernel)) (hts _ (show Cond.initialized Bundle.tN ∈ lw_tbl by decide +kernel)) (hs _ (show Cond.isRef (.static Bundle.tN "SUPPRESSED_SENTINEL" Bundle.listD) ∈ _ by decide +kernel)) (fun a h => Nat.not_le.mpr h)⟩
section START
variable {p : Program} {l : Launch} {e : Env} {R : Room} {s : State} {m : MethodId} {args : Array Value} {below : List Frame} {meth : Method} {c : Code} {H : Heap} {locs : List Loc} {cells slots : Nat} {Q : State → Prop}
theorem fw_callI {pc : Nat} {ls : Array Slot} {st0 rest : List Value} {A0 : Nat → Prop} {H0 : Heap} {D : va_G} {x : Nat} {e' s' : Int32}
    (hr : va_Run p l e R s m args below meth c H locs cells slots 1 6 (F0 m pc ls st0) rest (fun st oc t => oc = .returned none ∧ fw_N D x e' s' st t) (fun q => q = x ∨ H.size ≤ q)) (hS : va_S A0 H0 H locs) (hA : ∀ q, H0.size ≤ q → A0 q) (hAx : A0 x)
    (kk : ∀ (z : Nat) (H1 : Heap) (locs1 : List Loc), H.size ≤ z → va_P D vwCl [(x, .inr (2, [.ref z])), (z, .inr (0, fw_Fl e' s'))] H1 → H.size ≤ H1.size → (∀ q : Nat, q < H.size → q ≠ x → H1[q]? = H[q]?) → va_S A0 H0 H1 locs1 → W p l e R s m args below meth c H1 locs1 (cells + 1) (slots + 6) Q (F0 m (pc + 3) ls rest)) :
    W p l e R s m args below meth c H locs cells slots Q (F0 m pc ls st0) := by
  intro T hT X
  obtain ⟨v', st₀, t, T', L, h0, X', hL, e1, e2, ⟨hv, z, hz, hP, hF⟩, st⟩ := hr T hT X
  cases hv
  obtain ⟨f1, f2⟩ := hF
  rw [h0] at hz f1 f2
  rw [← e1] at hP f1 f2
  have hlocs : ∀ y ∈ locs ++ L, A0 y.base := fun y hy => by
    rcases List.mem_append.mp hy with h | h
    · exact hS.2.2 y h
    · rcases hL y h with h9 | h9
      · rw [h9]; exact hAx
      · exact hA _ (Nat.le_trans hS.1 h9)
  obtain ⟨t2, a1, b1⟩ := kk z T'.heap (locs ++ L) hz hP f1 (fun q h1 h2 => f2 q h1 (fun h => h.elim h2 (fun h9 => absurd h1 (Nat.not_lt.mpr h9))))
    ⟨Nat.le_trans hS.1 f1, fun q h1 h2 => (f2 q (Nat.lt_of_lt_of_le h1 hS.1) (fun h => h.elim (fun h9 => h2 (by rw [h9]; exact hAx)) (fun h9 => absurd (Nat.lt_of_lt_of_le h1 hS.1) (Nat.not_lt.mpr h9)))).trans (hS.2.1 q h1 h2), hlocs⟩ T' rfl X'
  exact ⟨t2, st t2 a1, b1⟩
end START
theorem ndX5_init : yX5_init.cls ≠ "java/lang/invoke/MethodHandle" ∧ yX5_init.cls ≠ "java/lang/invoke/VarHandle" ∧ (parseMethodDescriptor yX5_init.desc).map (fun d => d.parameters.length) = some 0 := by decide +kernel
/-- two cells, apart -/
theorem fw_D2 {A : Nat → Prop} {a b : Nat} {x y : va_E} (h1 : a ≠ b) (ha : A a) (hb : A b) : va_D A [(a, x), (b, y)] := by
  refine ⟨fun i j p q hp hq he => ?_, fun k q hk => ?_⟩
  · match i, j, hp, hq with
    | 0, 0, _, _ => rfl
    | 1, 1, _, _ => rfl
    | 0, 1, hp, hq => cases hp; cases hq; exact absurd he h1
    | 1, 0, hp, hq => cases hp; cases hq; exact absurd he.symm h1
    | i + 2, _, hp, _ => simp at hp
    | _, j + 2, _, hq => simp at hq
  · match k, hk with
    | 0, hk => cases hk; exact ha
    | 1, hk => cases hk; exact hb
    | k + 2, hk => simp at hk
set_option maxHeartbeats 4000000 in
set_option maxRecDepth 100000 in
theorem whole_start {p : Program} {e : Env} {s : State} {m : MethodId} {below : List Frame} {meth : Method} {c : Code} (l : Launch) (hl9 : l.stackTraces = false) (HP : pf_all) {b L : Nat} {xs : Nat → Int32} (hL : L ≤ 2560) (C0 : lw_At p s m meth c b L xs) : W p l e room_1 s m #[Value.ref b] below meth c s.heap [] 0 0 (lw_Z below #[Value.ref b] s) (entryFrame m ([Value.ref b] : List Value).toArray 7) := by
  obtain ⟨hx, hb, hr, hml, hown, hts, hX, hbl, hlocks, hgv⟩ := C0
  have htf : ∀ w ∈ fc_all, w.before #[Value.ref b] s = true := fun w h => hts w (List.mem_filter.mp h).1
  have hown : s.vm.findClass RL = some m.cls := hown
  have hE := lw_E hts hgv
  obtain ⟨dC, dI, hK⟩ := lw_K htf
  have hS : va_S (fun q => s.heap.size ≤ q) s.heap s.heap [] := va_S.rf
  have hA : ∀ q : Nat, s.heap.size ≤ q → (fun q : Nat => s.heap.size ≤ q) q := fun _ h => h
  have hl := lv_entry ([.ref b]) (n := 7) (Nat.le_of_ble_eq_true rfl)
  rw [lg_entry_eq]
  generalize (lg_sl ([.ref b]) ++ List.replicate (7 - (lg_sl ([.ref b])).length) Slot.unset).toArray = ls at hl ⊢
  have hl : lv_has ls 7 [(0, .ref b)] := hl
  refine va_new (D := (dC, dI)) (ws := []) (ci := 2) (fs := [.null]) (C := RX5) (T := TX5) (N := 1) hx hb htf hiX5 tyX5 tyX5_ok hown (htf _ wk14) (htf _ wk15) (htf _ wk1) hK fw_nilP fw_nilD hS hA rfl (fun j hj => by rcases (show j = 0 by omega) with rfl; rfl) (Nat.le_of_ble_eq_true rfl) (Nat.le_of_ble_eq_true rfl) dL_law_0 (fun x H hP hD hS => ?_)
  have hP : va_P (dC, dI) vwCl [(x, .inr (2, [.null]))] H := hP
  have a1 : s.heap.size ≤ x := hD.2 0 _ rfl
  refine lv_dup hx hb dL_law_3 rfl ?_
  refine fw_callI (va_runI (As := []) (rest := [.ref x]) ⟨hx, hb, hml, hown, htf⟩ (k_X5_init l dC dI H.size x) (cwI 0 htf (gd_I wk18) rfl rfl rfl (htf _ wk1) (htf _ wk16) (htf _ wk17) rfl ndX5_init ⟨Nat.le_of_ble_eq_true rfl, Nat.le_of_ble_eq_true rfl⟩) (fw_RZS hP hK) rfl rfl hl.1 rfl (lv_room (Nat.le_of_ble_eq_true rfl)) dL_law_4 ⟨Nat.le_of_ble_eq_true rfl, Nat.le_of_ble_eq_true rfl⟩) hS hA a1 (fun xf H2 locs hxf hP hz hk hS => ?_)
  have hxl : x < H.size := vx_lt ‹va_P (dC, dI) vwCl [(x, .inr (2, [.null]))] H› (k := 0) rfl
  have n1 : x ≠ xf := by omega
  have a4 : s.heap.size ≤ xf := by omega
  have hD : va_D (fun q => s.heap.size ≤ q) [(x, .inr (2, [.ref xf])), (xf, .inr (0, fw_Fl 5 11))] := fw_D2 n1 a1 a4
  refine lv_astore_n (lv' := [(1, .ref x), (0, .ref b)]) hx hb dL_law_7 rfl hl (by decide) rfl (fun ls hl => ?_)
  refine va_new (D := (dC, dI)) (ci := 3) (fs := [.int 0, .int 0, .int 0, .long 0, .int 0, .int 0, .int 0]) (C := RX6) (T := TX6) (N := 7) hx hb htf hiX6 tyX6 tyX6_ok hown (htf _ wk345) (htf _ wk346) (htf _ wk3) hK hP hD hS hA rfl (fun j hj => by rcases (show j = 0 ∨ j = 1 ∨ j = 2 ∨ j = 3 ∨ j = 4 ∨ j = 5 ∨ j = 6 by omega) with rfl | rfl | rfl | rfl | rfl | rfl | rfl <;> rfl) (Nat.le_of_ble_eq_true rfl) (Nat.le_of_ble_eq_true rfl) dL_law_8 (fun mo H3 hP hD hS => ?_)
  have hP : va_P (dC, dI) vwCl [(x, .inr (2, [.ref xf])), (xf, .inr (0, fw_Fl 5 11)), (mo, .inr (3, [.int 0, .int 0, .int 0, .long 0, .int 0, .int 0, .int 0]))] H3 := hP
  have n3 : x ≠ mo := fun h => absurd (hD.1 0 2 _ _ rfl rfl h) (by decide)
  have n5 : xf ≠ mo := fun h => absurd (hD.1 1 2 _ _ rfl rfl h) (by decide)
  have a3 : s.heap.size ≤ mo := hD.2 2 _ rfl
  refine lv_dup hx hb dL_law_11 rfl ?_
  refine fw_callM (va_runI (As := []) (rest := [.ref mo]) ⟨hx, hb, hml, hown, htf⟩ (k_X6_init l dC dI mo) (cwI 0 htf (gd_I wk349) rfl rfl rfl (htf _ wk3) (htf _ wk347) (htf _ wk348) rfl ndX6_init ⟨Nat.le_of_ble_eq_true rfl, Nat.le_of_ble_eq_true rfl⟩) (fw_RS (hP.sub (ws' := [(mo, .inr (3, [.int 0, .int 0, .int 0, .long 0, .int 0, .int 0, .int 0]))]) [2] rfl) hK) rfl rfl hl.1 rfl (lv_room (Nat.le_of_ble_eq_true rfl)) dL_law_12 ⟨Nat.le_of_ble_eq_true rfl, Nat.le_of_ble_eq_true rfl⟩) hS a3 (fun H4 locs hn hz4 hk4 hS => ?_)
  have hn : va_P (dC, dI) vwCl [(mo, .inr (3, fw_sl (1511, 0, false, 0, 0, false, false)))] H4 := hn
  have hP : va_P (dC, dI) vwCl [(x, .inr (2, [.ref xf])), (xf, .inr (0, fw_Fl 5 11)), (mo, .inr (3, fw_sl (1511, 0, false, 0, 0, false, false)))] H4 := ((fw_P1 (hP.sub (ws' := [(x, .inr (2, [.ref xf]))]) [0] rfl) (hk4 x (vx_lt hP (k := 0) rfl) n3)).app (fw_P1 (hP.sub (ws' := [(xf, .inr (0, fw_Fl 5 11))]) [1] rfl) (hk4 xf (vx_lt hP (k := 1) rfl) n5))).app hn
  have hD : va_D (fun q => s.heap.size ≤ q) [(x, .inr (2, [.ref xf])), (xf, .inr (0, fw_Fl 5 11)), (mo, .inr (3, fw_sl (1511, 0, false, 0, 0, false, false)))] := fw_D3 n1 n3 n5 a1 a4 a3
  refine W.eq (g2 := F0 m 15 ls [.ref mo]) rfl ?_
  refine lv_astore_n (lv' := [(2, .ref mo), (1, .ref x), (0, .ref b)]) hx hb dL_law_15 rfl hl (by decide) rfl (fun ls hl => ?_)
  refine lv_iconst (v := 1) hx hb dL_law_16 (by decide) ?_
  refine va_newa (atype := .long) (ty := .long) (N' := 1) (a0 := (1, .inr (.inl (fun _ => 0)))) hx hb (htf _ wk473) rfl hK hP hD hS hA (fun cA => rfl) (by decide) (by decide) (by decide) (Nat.le_of_ble_eq_true rfl) (Nat.le_of_ble_eq_true rfl) dL_law_17 (fun o cA H5 hK hP hD hS => ?_)
  have hP : va_P (dC, dI) vwCl [(x, .inr (2, [.ref xf])), (xf, .inr (0, fw_Fl 5 11)), (mo, .inr (3, fw_sl (1511, 0, false, 0, 0, false, false))), (o, .inl (cA, 1, .inr (.inl (fun _ => 0))))] H5 := hP
  have n2 : x ≠ o := fun h => absurd (hD.1 0 3 _ _ rfl rfl h) (by decide)
  have n4 : xf ≠ o := fun h => absurd (hD.1 1 3 _ _ rfl rfl h) (by decide)
  have n6 : o ≠ mo := fun h => absurd (hD.1 3 2 _ _ rfl rfl h) (by decide)
  have a2 : s.heap.size ≤ o := hD.2 3 _ rfl
  refine lv_astore_n (lv' := [(3, .ref o), (2, .ref mo), (1, .ref x), (0, .ref b)]) hx hb dL_law_19 rfl hl (by decide) rfl (fun ls hl => ?_)
  refine lv_iconst (v := 0) hx hb dL_law_20 (by decide) ?_
  refine lv_istore (lv' := [(4, .int 0), (3, .ref o), (2, .ref mo), (1, .ref x), (0, .ref b)]) hx hb dL_law_21 hl (by decide) rfl (fun ls hl => ?_)
  have C : lw_C p l s m c dC dI cA b L xs := ⟨hx, hb, hml, hown, htf, hE, hK, hX, hbl, hL, hl9⟩
  exact lw_loop (o := o) C HP hr hlocks (L / 5 + 1) 0 H5 locs ls (by omega) (by omega) ⟨xf, 5, 11, fun _ => 0, (1511, 0, false, 0, 0, false, false), ⟨by decide, by decide, by decide, by decide⟩, by decide, ⟨n1, n2, n3, n4, n5, n6⟩, ⟨a1, a2, a3, a4⟩, hP.sub (ws' := [(x, .inr (2, [.ref xf])), (xf, .inr (0, fw_Fl (nI 5) (nI 11))), (o, .inl (cA, 1, .inr (.inl (fun _ => 0)))), (mo, .inr (3, fw_sl (1511, 0, false, 0, 0, false, false)))]) [0, 1, 3, 2] rfl, hS⟩ (lv_sub hl [4, 3, 2, 1, 0] rfl)
