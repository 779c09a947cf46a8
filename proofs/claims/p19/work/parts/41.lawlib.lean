/-! ===== the law's helpers: calls that may throw, caught ===== -/
section ZC
theorem zw_j {a : Nat} {cA : ClassId} {n : Nat} {f g : Nat → Int64} {t t' : va_W} (h : f = g) (ht : t = t') : (a, Sum.inl (cA, n, Sum.inr (Sum.inl f))) :: t = ((a, Sum.inl (cA, n, Sum.inr (Sum.inl g))) :: t' : va_W) := by rw [h, ht]
def zN (U : State) : Prop := va_Nc zISE zIAE U
/-- what a helper needs that catches -/
def zYc (dC : Nat → ClassId) (dI : Nat → Nat → Nat) (tys : List (ClassId × FieldType)) (av : List Value) (ws : va_W) : Array Value → State → Prop := va_Pc av (fun U => (zT U ∧ zN U) ∧ va_P (dC, dI) vwCl ws U.heap ∧ va_K (dC, dI) vwCl tys U)
section PY
variable {dC : Nat → ClassId} {dI : Nat → Nat → Nat} {tys : List (ClassId × FieldType)} {s : State} {H : Heap} {As : List Value} {ws wc : va_W} {is : List Nat}
/-- for a helper's call from a state whose heap has grown to H -/
theorem zPreY {A : Nat → Prop} {locs : List Loc} (hS : va_S A s.heap H locs) (hA : ∀ q, s.heap.size ≤ q → A q) (h1 : vx_Zq Bundle.tN "UNASSIGNED_STACK" Bundle.steD A s s.heap) (h2 : vx_Zq Bundle.tN "SUPPRESSED_SENTINEL" Bundle.listD A s s.heap) (h3 : ∀ w ∈ zBad, va_Nw w s) (h4 : zStrs s) (h5 : zN s) (hK : va_K (dC, dI) vwCl tys s) (hP : va_P (dC, dI) vwCl ws H) (hC : is.map (fun i => ws[i]?) = wc.map some) : PreS s H (zYc dC dI tys As wc) As := by
  refine ⟨fun a U g mk q => ?_, fun U hU hW => ⟨rfl, ⟨zT_at hW hU hS hA h1 h2 h3 h4, va_Nc.moved hW.alike h5⟩, by rw [hU]; exact zP_sub hP hC, va_K.moved hW.alike hK⟩⟩
  obtain ⟨q0, ⟨qT, qN⟩, qP, qK⟩ := q
  exact ⟨q0, ⟨zT_moved (s := U) (U := U.calling g mk a) (State.WarmedH.refl U) rfl qT, va_Nc.moved (u := U) (U := U.calling g mk a) (Vm.Alike.refl U.vm) qN⟩, qP, va_K.moved (u := U) (U := U.calling g mk a) (Vm.Alike.refl U.vm) qK⟩
end PY
section CC
variable {p : Program} {l : Launch} {e : Env} {R : Room} {s : State} {m : MethodId} {args : Array Value} {below : List Frame} {meth : Method} {c : Code} {H : Heap} {locs : List Loc} {cells slots : Nat} {Q : State → Prop}
variable {pc : Nat} {ls : Array Slot} {rest st0 : List Value} {a : Array Value} {mc ms : Nat} {E : String} {v : Int32} {A0 : Nat → Prop}
/-- a call of a method that throws always, caught here by the row x of the table -/
theorem z_cC {own name : String} (hr : vx_Run p l e R s m args below meth c s.heap [] 0 0 mc ms (F0 m pc ls st0) rest (zXQ a) (zXC E) (fun _ => False)) (hown : s.vm.findClass own = some m.cls) (pre : List ExceptionTableEntry) (x : ExceptionTableEntry) (suf : List ExceptionTableEntry) (hsplit : c.exceptionTable.toList = pre ++ x :: suf)
    (hpass : ∀ z ∈ pre, covers z pc = false ∨ (z.catchType ≠ 0 ∧ ∃ nm : String, (Cond.classLink own z.catchType nm).before args s = true ∧ va_Nc E nm s)) (hcov : covers x pc = true) (h0 : x.catchType ≠ 0) (hlink : (Cond.classLink own x.catchType name).before args s = true) (hcast : (Cond.castable E name).before args s = true)
    (kk : ∀ (q : Nat) (H1 : Heap), s.heap.size ≤ H1.size → (∀ q : Nat, q < s.heap.size → H1[q]? = s.heap[q]?) → W p l e R s m args below meth c H1 [] mc ms Q (F0 m x.handlerPc ls [.ref q])) : W p l e R s m args below meth c s.heap [] 0 0 Q (F0 m pc ls st0) := by
  intro T hT X
  rcases hr T hT X with ⟨vv, st₀, t, T', L, g0, X', hL, e1, e2, hf, st⟩ | ⟨q, st₀, t, T', L, E', ce, g0, X', hL, e1, e2, ⟨hE, g1, g2⟩, hce, hcv, hcl, st⟩
  · exact hf.elim
  · subst hE
    have X2 := Stand.forget (extra := L) X' (fun q h => (hL q h).elim)
    have e3 : T'.heap = t.heap := e1
    have k := vx_catch (E := E') (ce := ce) (q := q) (H := T'.heap) (locs := []) (cells := 0 + mc) (slots := 0 + ms) (Q := Q) (pc := pc) (ls := ls) (rest := rest) (p := p) (l := l) (e := e) (R := R) (s := s) (m := m) (args := args) (below := below) (meth := meth) (c := c) hown pre x suf hsplit hpass hcov h0 hlink hcast (by rw [e3]; exact hce) hcv hcl (by
      have := kk q T'.heap (by rw [e3, ← g0]; exact g1) (fun q hq => by rw [e3, ← g0]; exact g2 q (by rw [g0]; exact hq))
      rw [Nat.zero_add, Nat.zero_add]
      exact this)
    obtain ⟨t2, a1, b1⟩ := k T' rfl X2
    exact ⟨t2, st.trans a1, b1⟩
/-- a call after which the heap has only grown -/
theorem z_cG (hr : va_Run p l e R s m args below meth c H locs cells slots mc ms (F0 m pc ls st0) rest (zSg v a) (fun _ => False)) (hS : va_S A0 s.heap H locs)
    (kk : ∀ (H1 : Heap), H.size ≤ H1.size → (∀ q : Nat, q < H.size → H1[q]? = H[q]?) → va_S A0 s.heap H1 locs → W p l e R s m args below meth c H1 locs (cells + mc) (slots + ms) Q (F0 m (pc + 3) ls (.int v :: rest))) : W p l e R s m args below meth c H locs cells slots Q (F0 m pc ls st0) := by
  intro T hT X
  obtain ⟨vv, st₀, t, T', L, h0, X', hL, e1, e2, ⟨hv, g1, g2⟩, st⟩ := hr T hT X
  cases hv
  have k1 : H.size ≤ T'.heap.size := by rw [e1, ← h0]; exact g1
  have k2 : ∀ q : Nat, q < H.size → T'.heap[q]? = H[q]? := fun q hq => by rw [e1, ← h0]; exact g2 q (by rw [h0]; exact hq)
  obtain ⟨t2, a1, b1⟩ := kk T'.heap k1 k2 ⟨Nat.le_trans hS.1 k1, fun q h1 h2 => (k2 q (Nat.lt_of_lt_of_le h1 hS.1)).trans (hS.2.1 q h1 h2), hS.2.2⟩ T' rfl (Stand.forget X' (fun q h => (hL q h).elim))
  exact ⟨t2, st t2 a1, b1⟩
theorem z_tvl {x v : Int64} (h : x = v) (k : W p l e R s m args below meth c H locs cells slots Q (F0 m pc ls (.long v :: rest))) : W p l e R s m args below meth c H locs cells slots Q (F0 m pc ls (.long x :: rest)) := by rw [h]; exact k
end CC
theorem z_kept {D : va_G} {cl : List vw_C} {ws : va_W} {H H1 : Heap} (hP : va_P D cl ws H) (h : ∀ q : Nat, q < H.size → H1[q]? = H[q]?) : va_P D cl ws H1 := hP.kept (fun k q hk => h q.1 (hP k q hk).lt)
theorem z_us {f : Nat → Int64} {x : Int64} : vp_updL f 0 x 0 = x := if_pos rfl
theorem z_lc {x : Int64} : lg_cmp x x = 0 := by simp [lg_cmp]
end ZC
