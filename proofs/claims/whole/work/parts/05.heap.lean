/-! HEAPS THAT GROW, AND ONE CELL THAT CHANGES -/
def fw_pre (H H1 : Heap) : Prop := H.size ≤ H1.size ∧ ∀ q : Nat, q < H.size → H1[q]? = H[q]?
theorem fw_pre.rf {H : Heap} : fw_pre H H := ⟨Nat.le_refl _, fun _ _ => rfl⟩
theorem fw_pre.tr {H H1 H2 : Heap} (a : fw_pre H H1) (b : fw_pre H1 H2) : fw_pre H H2 := ⟨Nat.le_trans a.1 b.1, fun q h => (b.2 q (Nat.lt_of_lt_of_le h a.1)).trans (a.2 q h)⟩
theorem fw_pre.P {D : va_G} {cl : List vw_C} {ws : va_W} {H H1 : Heap} (h : fw_pre H H1) (hP : va_P D cl ws H) : va_P D cl ws H1 := hP.kept (fun _ q hk => h.2 q.1 (vx_lt hP hk))
theorem fw_S_pre {H0 H : Heap} {locs : List Loc} (hS : va_S (fun q => H0.size ≤ q) H0 H locs) : fw_pre H0 H := ⟨hS.1, fun q h => hS.2.1 q h (Nat.not_le.mpr h)⟩
theorem fw_old {D : va_G} {cl : List vw_C} {ws : va_W} {H0 H : Heap} {locs : List Loc} (hP : va_P D cl ws H0) (hS : va_S (fun q => H0.size ≤ q) H0 H locs) : va_P D cl ws H := (fw_S_pre hS).P hP
theorem fw_nilP {D : va_G} {cl : List vw_C} {H : Heap} : va_P D cl [] H := fun k q h => by simp at h
theorem fw_nilD {A : Nat → Prop} : va_D A [] := ⟨fun i j p q h => by simp at h, fun k q h => by simp at h⟩
theorem fw_D1 {A : Nat → Prop} {h0 : Nat} {e : va_E} (hA : A h0) : va_D A [(h0, e)] := by
  refine ⟨fun i j p q h1 h2 _ => ?_, fun k q h => ?_⟩
  · have a1 := (List.getElem?_eq_some_iff.mp h1).1
    have a2 := (List.getElem?_eq_some_iff.mp h2).1
    simp at a1 a2
    omega
  · have h3 := List.mem_of_getElem? h
    simp only [List.mem_cons, List.not_mem_nil, or_false] at h3
    rw [h3]
    exact hA
/-- asked: the cells ws, in a heap of sz cells -/
def fw_RZ (D : va_G) (cl : List vw_C) (ws : va_W) (sz : Nat) (av : List Value) : Array Value → State → Prop := va_Pc av (fun U => U.heap.size = sz ∧ va_P D cl ws U.heap ∧ va_K D cl [] U)
theorem fw_RZb {D : va_G} {cl : List vw_C} {ws : va_W} {sz : Nat} {av : List Value} : FrameBlind (fw_RZ D cl ws sz av) := fun a U g mk q => ⟨q.1, q.2.1, q.2.2.1, va_K.moved (u := U) (U := U.calling g mk a) (Vm.Alike.refl U.vm) q.2.2.2⟩
theorem fw_RZS {s : State} {H : Heap} {D : va_G} {cl : List vw_C} {ws : va_W} {tys : List (ClassId × FieldType)} {av : List Value} (hP : va_P D cl ws H) (hK : va_K D cl tys s) : PreS s H (fw_RZ D cl ws H.size av) av :=
  ⟨fw_RZb, fun U hU hW => ⟨rfl, by rw [hU], by rw [hU]; exact hP, va_K.moved hW.alike (hK.sub (tys' := []) [] rfl)⟩⟩
theorem fw_RZV {s : State} {H : Heap} {D : va_G} {cl : List vw_C} {ws : va_W} {tys : List (ClassId × FieldType)} {b : Nat} {As : List Value} {C : String} (hr : ∃ cell : Cell, H[b]? = some cell ∧ cell.vm.isStatics = false ∧ s.vm.findClass C = some cell.cls) (hP : va_P D cl ws H) (hK : va_K D cl tys s) : PreV s H C b (fw_RZ D cl ws H.size (.ref b :: As)) As :=
  ⟨fw_RZb, hr, fun U hU hW => ⟨rfl, by rw [hU], by rw [hU]; exact hP, va_K.moved hW.alike (hK.sub (tys' := []) [] rfl)⟩⟩
/-- answered: a reference to a cell with these fields; all old cells as they were -/
def fw_G (D : va_G) (cl : List vw_C) (ci : Nat) (fs : List Value) : Array Value → State → Outcome → State → Prop := fun _ st oc t => ∃ q : Nat, oc = .returned (some (.ref q)) ∧ va_P D cl [(q, .inr (ci, fs))] t.heap ∧ fw_pre st.heap t.heap
/-- answered: the cell h0 with these fields; all other cells as they were -/
def fw_M (D : va_G) (cl : List vw_C) (h0 ci : Nat) (fs : List Value) (ov : Option Value) : Array Value → State → Outcome → State → Prop := fun _ st oc t => oc = .returned ov ∧ va_P D cl [(h0, .inr (ci, fs))] t.heap ∧ va_F (fun q => q = h0) st t
section FH
variable {p : Program} {l : Launch} {e : Env} {R : Room} {s : State} {m : MethodId} {args : Array Value} {below : List Frame} {meth : Method} {c : Code} {H : Heap} {locs : List Loc} {cells slots : Nat} {Q : State → Prop}
variable {D : va_G} {cl : List vw_C} {A0 : Nat → Prop} {H0 : Heap} {a : Array Value} {pc mc ms ci : Nat} {fs : List Value} {ls : Array Slot} {st0 rest : List Value}
theorem fw_callG (hr : va_Run p l e R s m args below meth c H locs cells slots mc ms (F0 m pc ls st0) rest (fw_G D cl ci fs a) (fun q => H.size ≤ q)) (hS : va_S A0 H0 H locs) (hA : ∀ q, H0.size ≤ q → A0 q)
    (kk : ∀ (q : Nat) (H1 : Heap) (locs1 : List Loc), va_P D cl [(q, .inr (ci, fs))] H1 → fw_pre H H1 → va_S A0 H0 H1 locs1 → W p l e R s m args below meth c H1 locs1 (cells + mc) (slots + ms) Q (F0 m (pc + 3) ls (.ref q :: rest))) : W p l e R s m args below meth c H locs cells slots Q (F0 m pc ls st0) := by
  intro T hT X
  obtain ⟨v, st₀, t, T', L, h0, X', hL, e1, -, ⟨q, hv, hp, hg⟩, st⟩ := hr T hT X
  cases hv
  rw [h0] at hg
  rw [← e1] at hp hg
  obtain ⟨t2, a1, b1⟩ := kk q T'.heap (locs ++ L) hp hg
    ⟨Nat.le_trans hS.1 hg.1, fun z h1 h2 => (hg.2 z (Nat.lt_of_lt_of_le h1 hS.1)).trans (hS.2.1 z h1 h2), fun z hz => by
      rcases List.mem_append.mp hz with h | h
      · exact hS.2.2 z h
      · exact hA _ (Nat.le_trans hS.1 (hL z h))⟩ T' rfl X'
  exact ⟨t2, st t2 a1, b1⟩
theorem fw_callM {h0 : Nat} {ov : Option Value} (hr : va_Run p l e R s m args below meth c H locs cells slots 0 0 (F0 m pc ls st0) rest (fw_M D cl h0 ci fs ov a) (fun q => q = h0)) (hS : va_S A0 H0 H locs) (hA : A0 h0)
    (kk : ∀ (H1 : Heap) (locs1 : List Loc), va_P D cl [(h0, .inr (ci, fs))] H1 → H.size ≤ H1.size → (∀ q : Nat, q < H.size → q ≠ h0 → H1[q]? = H[q]?) → va_S A0 H0 H1 locs1 → W p l e R s m args below meth c H1 locs1 cells slots Q (F0 m (pc + 3) ls (ov.toList ++ rest))) : W p l e R s m args below meth c H locs cells slots Q (F0 m pc ls st0) := by
  intro T hT X
  obtain ⟨v, st₀, t, T', L, h0', X', hL, e1, -, ⟨hv, hp, hg⟩, st⟩ := hr T hT X
  cases hv
  rw [← e1] at hp
  obtain ⟨g1, g2⟩ := hg
  rw [h0', ← e1] at g1 g2
  obtain ⟨t2, a1, b1⟩ := kk T'.heap (locs ++ L) hp g1 g2
    ⟨Nat.le_trans hS.1 g1, fun z h1 h2 => (g2 z (Nat.lt_of_lt_of_le h1 hS.1) (fun hz => h2 (by rw [hz]; exact hA))).trans (hS.2.1 z h1 h2), fun z hz => by
      rcases List.mem_append.mp hz with h | h
      · exact hS.2.2 z h
      · rw [hL z h]; exact hA⟩ T' rfl X'
  exact ⟨t2, st t2 a1, b1⟩
end FH
/-- a number of the class Value, as its cell holds it -/
abbrev fw_V : Type := Bool × Bool × Int64 × Int64 × Int64
def fw_vl (v : fw_V) : List Value := [.int (jb v.1), .int (jb v.2.1), .long v.2.2.1, .long v.2.2.2.1, .long v.2.2.2.2]
theorem gd_I {w0 : Cond} (h4 : w0 ∈ fc_all) : GoodIn fc_all (w0 :: fc_all) := by
  intro w hw
  refine fc_good w ?_
  rcases List.mem_cons.mp hw with rfl | h
  · exact h4
  · exact h
