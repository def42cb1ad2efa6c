/-! WHAT A THROW AND A NEST MATE'S CALL ASK OF THE STATE -/
def fw_IAE : String := "java/lang/IllegalArgumentException"
def fw_nest : Cond := .methodLinkNest RX0 28 yX5_isWithin RX5
def fw_d1 : Cond := .declares ⟨"java/lang/RuntimeException", "<init>", "()V"⟩
def fw_d2 : Cond := .declares ⟨"java/lang/Exception", "<init>", "()V"⟩
def fw_d3 : Cond := .declares ⟨"java/lang/Throwable", "<init>", "()V"⟩
def fw_d4 : Cond := .castable fw_IAE fw_IAE
theorem fw_at_good : ∀ w ∈ (vx_at0 RX5 140 fw_IAE ["java/lang/RuntimeException", "java/lang/Exception"]).filter goodWord, w ∈ fc_all := by decide +kernel
theorem fw_at_rest : ∀ w ∈ (vx_at0 RX5 140 fw_IAE ["java/lang/RuntimeException", "java/lang/Exception"]).filter (fun w => !goodWord w), w ∈ [fw_d1, fw_d2, fw_d3, fw_d4] := by decide +kernel
theorem fw_at_ot : ∀ w ∈ Cond.classLink RX5 138 fw_IAE :: Cond.initialized fw_IAE :: vx_at0 RX5 140 fw_IAE ["java/lang/RuntimeException", "java/lang/Exception"], vx_ot w = true := by decide +kernel
/-- the tables' words that no list of words can carry -/
def fw_T (U : State) : Prop := va_Nw fw_nest U ∧ va_Nw fw_d1 U ∧ va_Nw fw_d2 U ∧ va_Nw fw_d3 U ∧ va_Nw fw_d4 U
theorem fw_T.warm {s U : State} (hW : s.WarmedH U.vm) (h : fw_T s) : fw_T U := ⟨va_Nw.warmM hW h.1, va_Nw.warmD hW h.2.1, va_Nw.warmD hW h.2.2.1, va_Nw.warmD hW h.2.2.2.1, va_Nw.warmC hW h.2.2.2.2⟩
theorem fw_T.same {u U : State} (hv : u.vm = U.vm) (h : fw_T u) : fw_T U := ⟨va_Nw.same rfl hv h.1, va_Nw.same rfl hv h.2.1, va_Nw.same rfl hv h.2.2.1, va_Nw.same rfl hv h.2.2.2.1, va_Nw.same rfl hv h.2.2.2.2⟩
/-- Throwable's two statics lie below sz and hold references -/
def fw_Z (sz : Nat) (U : State) (H : Heap) : Prop := vx_Zq Bundle.tN "UNASSIGNED_STACK" Bundle.steD (fun q => sz ≤ q) U H ∧ vx_Zq Bundle.tN "SUPPRESSED_SENTINEL" Bundle.listD (fun q => sz ≤ q) U H
theorem fw_Z.moved {sz : Nat} {u U : State} {H : Heap} (hv : u.vm.Alike U.vm) (h : fw_Z sz u H) : fw_Z sz U H := ⟨h.1.moved hv, h.2.moved hv⟩
theorem fw_Z.grow {sz sz2 : Nat} {U : State} {H H1 : Heap} (hs : sz ≤ H.size) (hs2 : sz ≤ sz2) (hq : ∀ q : Nat, q < sz → H1[q]? = H[q]?) (h : fw_Z sz U H) : fw_Z sz2 U H1 :=
  ⟨(h.1.kept (fun a _ h2 => hq a (Nat.not_le.mp h2))).narrow (fun q hh => Nat.le_trans hs2 hh), (h.2.kept (fun a _ h2 => hq a (Nat.not_le.mp h2))).narrow (fun q hh => Nat.le_trans hs2 hh)⟩
def fw_E (sz : Nat) (U : State) : Prop := U.heap.size = sz ∧ fw_T U ∧ fw_Z sz U U.heap
theorem fw_E.calling {sz : Nat} {U : State} (g : JFrame) (mk : MethodId) (a : Array Value) (h : fw_E sz U) : fw_E sz (U.calling g mk a) := ⟨h.1, fw_T.same (u := U) rfl h.2.1, fw_Z.moved (u := U) (U := U.calling g mk a) (Vm.Alike.refl U.vm) h.2.2⟩
/-- what the entry's facts say of a later heap of the same walk -/
theorem fw_E.at {s : State} {sz : Nat} (h : fw_E sz s) {U : State} {H : Heap} (hp : fw_pre s.heap H) (hU : U.heap = H) (hW : s.WarmedH U.vm) : fw_E H.size U := by
  obtain ⟨h1, h2, h3⟩ := h
  subst h1
  refine ⟨by rw [hU], h2.warm hW, ?_⟩
  rw [hU]
  exact (fw_Z.grow (Nat.le_refl _) hp.1 hp.2 h3).moved hW.alike
/-- asked by a method that throws or calls one that does -/
def fw_X (D : va_G) (cl : List vw_C) (ws : va_W) (sz : Nat) (av : List Value) : Array Value → State → Prop := va_Pc av (fun U => fw_E sz U ∧ va_P D cl ws U.heap ∧ va_K D cl [] U)
theorem fw_Xb {D : va_G} {cl : List vw_C} {ws : va_W} {sz : Nat} {av : List Value} : FrameBlind (fw_X D cl ws sz av) := fun a U g mk q => ⟨q.1, q.2.1.calling g mk a, q.2.2.1, va_K.moved (u := U) (U := U.calling g mk a) (Vm.Alike.refl U.vm) q.2.2.2⟩
theorem fw_XS {s : State} {H : Heap} {D : va_G} {cl : List vw_C} {ws : va_W} {sz : Nat} {tys : List (ClassId × FieldType)} {av : List Value} (hE : fw_E sz s) (hp : fw_pre s.heap H) (hP : va_P D cl ws H) (hK : va_K D cl tys s) : PreS s H (fw_X D cl ws H.size av) av :=
  ⟨fw_Xb, fun U hU hW => ⟨rfl, hE.at hp hU hW, by rw [hU]; exact hP, va_K.moved hW.alike (hK.sub (tys' := []) [] rfl)⟩⟩
theorem fw_XV {s : State} {H : Heap} {D : va_G} {cl : List vw_C} {ws : va_W} {sz : Nat} {tys : List (ClassId × FieldType)} {b : Nat} {As : List Value} {C : String} (hr : ∃ cell : Cell, H[b]? = some cell ∧ cell.vm.isStatics = false ∧ s.vm.findClass C = some cell.cls) (hE : fw_E sz s) (hp : fw_pre s.heap H) (hP : va_P D cl ws H) (hK : va_K D cl tys s) : PreV s H C b (fw_X D cl ws H.size (.ref b :: As)) As :=
  ⟨fw_Xb, hr, fun U hU hW => ⟨rfl, hE.at hp hU hW, by rw [hU]; exact hP, va_K.moved hW.alike (hK.sub (tys' := []) [] rfl)⟩⟩
/-- require(B): it returns, or throws -/
def fw_XQ (B : Bool) : Array Value → State → Outcome → State → Prop := fun _ st oc t => B = true ∧ oc = .returned none ∧ t.heap = st.heap
def fw_XX (B : Bool) : String → State → State → Prop := fun E st t => B = false ∧ E = fw_IAE ∧ fw_pre st.heap t.heap
set_option maxHeartbeats 4000000 in
set_option maxRecDepth 100000 in
theorem k_X5_require (l : Launch) (hl9 : l.stackTraces = false) (D : va_G) (sz : Nat) (B : Bool) : vx_Met l yX5_require wsX5_require { frames := 6, cells := 1, slots := 6, locals := 81 } (fw_X D vwCl [] sz [.int (jb B)]) (fw_XQ B) (fw_XX B) 1 6 (fun q => sz ≤ q) := by
  refine vx_ofW (cc := cX5_require) (maxL := 1) (ret := none) (by decide) rfl ?_
  intro p e s m args below meth c s₁ B0 hml hno hv
  obtain ⟨rfl, ⟨hsz, hT, hZ⟩, -, -⟩ := hv
  subst hsz
  have hx := B0.exec
  have hb := B0.bytes
  have hr := B0.returns
  have hts := atoms_spec (ws := wsX5_require) B0.pre
  have htf : ∀ w ∈ fc_all, w.before _ s = true := fun w h => hts w (List.mem_cons_of_mem _ h)
  have hown : s.vm.findClass RX5 = some m.cls := findClass_of_methodNamed B0.named
  have hlocks := B0.notSynchronized
  have hS : va_S (fun q => s.heap.size ≤ q) s.heap s.heap [] := va_S.rf
  have hl := lv_entry ([.int (jb B)]) (n := 1) (Nat.le_of_ble_eq_true rfl)
  rw [lg_entry_eq]
  generalize (lg_sl ([.int (jb B)]) ++ List.replicate (1 - (lg_sl ([.int (jb B)])).length) Slot.unset).toArray = ls at hl ⊢
  have hl : lv_has ls 1 [(0, .int (jb B))] := hl
  refine lv_iload_n hx hb dX5_require_0 rfl (lv_at hl 0 rfl) ?_
  refine lv_if_ne (tgt := 12) hx hb dX5_require_1 (by decide) (fun c1 => ?_) (fun c1 => ?_)
  · have hB : B = true := by cases B with
      | true => rfl
      | false => exact absurd rfl c1
    refine vx_ret ?_
    refine W.widen (k := 1) (n := 6) (by decide) (by decide) ?_
    exact W.vret hx hb hr (fun t ht hW => ⟨hB, rfl, ht⟩) (fun q h => nomatch h) dX5_require_12
  · have hB : B = false := (jb_0 B).mp c1
    exact vx_throw0 hx hb hl9 (own := RX5) (cls := fw_IAE) (names := ["java/lang/RuntimeException", "java/lang/Exception"]) (ik := 138) (ic := 140) hown (by decide) (by decide) (htf _ (by decide +kernel)) (htf _ (by decide +kernel))
      (vx_hat (fun w h => htf w (fw_at_good w h)) fw_at_rest (vx_c (va_Nw.use rfl hT.2.1) (vx_c (va_Nw.use rfl hT.2.2.1) (vx_c (va_Nw.use rfl hT.2.2.2.1) (vx_c (va_Nw.use rfl hT.2.2.2.2) vx_n)))))
      fw_at_ot hZ.1 hZ.2 hS (by rw [hml]; exact hl.1) dX5_require_4 dX5_require_7 dX5_require_8 dX5_require_11 (fun x hx9 => (hno x hx9).elim) (by decide) (by decide) (by decide) (by decide) hlocks
      (fun t _ g1 g2 => ⟨hB, rfl, g1, g2⟩) (fun z hz => nomatch hz) (by decide) (by decide)
section FK
variable {p : Program} {l : Launch} {e : Env} {R : Room} {s : State} {m : MethodId} {args : Array Value} {below : List Frame} {meth : Method} {c : Code} {H : Heap} {locs : List Loc} {cells slots : Nat}
/-- the call of require in a method without handlers -/
theorem fw_callX {pc mc ms : Nat} {ls : Array Slot} {st0 rest : List Value} {a : Array Value} {B : Bool} {Qc : Array Value → State → Outcome → State → Prop} {XC : String → State → State → Prop}
    (hr : vx_Run p l e R s m args below meth c H locs cells slots 1 6 (F0 m pc ls st0) rest (fw_XQ B a) (fw_XX B) (fun q => H.size ≤ q)) (hp : fw_pre s.heap H) (hloc : ∀ z ∈ locs, s.heap.size ≤ z.base) (hno : ∀ x ∈ c.exceptionTable.toList, False) (hlocks : meth.locks = false)
    (hx : B = false → ∀ t : State, fw_pre H t.heap → XC fw_IAE s t) (hc : cells + 1 ≤ mc) (hs : slots + 6 ≤ ms)
    (kk : B = true → W p l e R s m args below meth c H locs (cells + 1) (slots + 6) (vx_MQ below Qc XC args s mc ms (fun q => s.heap.size ≤ q)) (F0 m (pc + 3) ls rest)) :
    W p l e R s m args below meth c H locs cells slots (vx_MQ below Qc XC args s mc ms (fun q => s.heap.size ≤ q)) (F0 m pc ls st0) := by
  intro T hT X
  rcases hr T hT X with ⟨v, st₀, t, T', L, h0, X', hL, e1, e2, ⟨hB, hv, hh⟩, st⟩ | ⟨q, st₀, t, T', L, E, ce, h0, X', hL, e1, e2, ⟨hB, rfl, hg⟩, hce, hcv, hcl, st⟩
  · cases hv
    obtain ⟨t2, a1, b1⟩ := kk hB T' (by rw [e1, hh, h0]) (Stand.forget X' (fun z hz => Nat.le_trans hp.1 (hL z hz)))
    exact ⟨t2, st t2 a1, b1⟩
  · have hg' : fw_pre H T'.heap := by rw [e1, ← h0]; exact hg
    have hw : vx_W p l e R s m args below meth c T'.heap (locs ++ L) (cells + 1) (slots + 6) (vx_MQ below Qc XC args s mc ms (fun q => s.heap.size ≤ q)) (F0 m pc ls rest) q :=
      vx_out (fun x hx9 => (hno x hx9).elim) hlocks (by rw [e1]; exact hce) hcv hcl (fun t2 h2 _ => hx hB t2 (by rw [h2]; exact hg')) (fun z hz => by
        rcases List.mem_append.mp hz with h | h
        · exact hloc z h
        · exact Nat.le_trans hp.1 (hL z h)) hc hs
    obtain ⟨t2, a1, b1⟩ := hw T' rfl X'
    exact ⟨t2, st.trans a1, b1⟩
end FK
/-- asked by a method that reads the cells ws and calls the nest mate's isWithin -/
def fw_RN (D : va_G) (cl : List vw_C) (ws : va_W) (av : List Value) : Array Value → State → Prop := va_Pc av (fun U => va_P D cl ws U.heap ∧ va_K D cl [] U ∧ va_Nw fw_nest U)
theorem fw_RNV {s : State} {H : Heap} {D : va_G} {cl : List vw_C} {ws : va_W} {tys : List (ClassId × FieldType)} {b : Nat} {As : List Value} {C : String} (hr : ∃ cell : Cell, H[b]? = some cell ∧ cell.vm.isStatics = false ∧ s.vm.findClass C = some cell.cls) (hP : va_P D cl ws H) (hK : va_K D cl tys s) (hN : va_Nw fw_nest s) : PreV s H C b (fw_RN D cl ws (.ref b :: As)) As :=
  ⟨fun a U g mk q => ⟨q.1, q.2.1, va_K.moved (u := U) (U := U.calling g mk a) (Vm.Alike.refl U.vm) q.2.2.1, va_Nw.same (u := U) rfl rfl q.2.2.2⟩, hr, fun U hU hW => ⟨rfl, by rw [hU]; exact hP, va_K.moved hW.alike (hK.sub (tys' := []) [] rfl), va_Nw.warmM hW hN⟩⟩
