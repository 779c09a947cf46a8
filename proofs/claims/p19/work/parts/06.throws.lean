/-! ===== throws: what must stand for them, contracts that throw always, calls of such methods ===== -/
section ZT
def zBad : List Cond := [.castable zIAE zIAE, .castable zISE zISE, .declares (Bundle.initS "java/lang/RuntimeException"), .declares (Bundle.initS "java/lang/Exception"), .declares (Bundle.initS Bundle.tN)]
def zStrs (U : State) : Prop := (∃ a : Nat, vk_R RX3 123 "there are the catalogues 0 to 3" a U) ∧ (∃ a : Nat, vk_R RX3 126 "an argument is out of range" a U) ∧ (∃ a : Nat, vk_R RX3 63 "the record is not there" a U) ∧ (∃ a : Nat, vk_R RX3 72 "today would be above 5000" a U) ∧ ∃ a : Nat, vk_R RX3 92 "no list is open" a U
def zT (U : State) : Prop := vx_Zq Bundle.tN "UNASSIGNED_STACK" Bundle.steD (fun q => U.heap.size ≤ q) U U.heap ∧ vx_Zq Bundle.tN "SUPPRESSED_SENTINEL" Bundle.listD (fun q => U.heap.size ≤ q) U U.heap ∧ (∀ w ∈ zBad, va_Nw w U) ∧ zStrs U
theorem zBad_moved {s U : State} (hW : s.WarmedH U.vm) (h : ∀ w ∈ zBad, va_Nw w s) : ∀ w ∈ zBad, va_Nw w U := by
  intro w hw
  have h1 := h w hw
  simp only [zBad, List.mem_cons, List.not_mem_nil, or_false] at hw
  rcases hw with rfl | rfl | rfl | rfl | rfl
  · exact va_Nw.warmC hW h1
  · exact va_Nw.warmC hW h1
  · exact va_Nw.warmD hW h1
  · exact va_Nw.warmD hW h1
  · exact va_Nw.warmD hW h1
theorem zStrs_moved {s U : State} (hW : s.WarmedH U.vm) (h : zStrs s) : zStrs U := by
  obtain ⟨⟨a1, h1⟩, ⟨a2, h2⟩, ⟨a3, h3⟩, ⟨a4, h4⟩, ⟨a5, h5⟩⟩ := h
  exact ⟨⟨a1, vk_R.warm hW h1⟩, ⟨a2, vk_R.warm hW h2⟩, ⟨a3, vk_R.warm hW h3⟩, ⟨a4, vk_R.warm hW h4⟩, ⟨a5, vk_R.warm hW h5⟩⟩
theorem zT_moved {s U : State} (hW : s.WarmedH U.vm) (hU : U.heap = s.heap) (h : zT s) : zT U := by
  obtain ⟨h1, h2, h3, h4⟩ := h
  refine ⟨?_, ?_, zBad_moved hW h3, zStrs_moved hW h4⟩
  · rw [hU]; exact vx_Zq.moved hW.alike h1
  · rw [hU]; exact vx_Zq.moved hW.alike h2
/-- the same at a heap that has grown, what was there before untouched outside A -/
theorem zT_at {s U : State} {A : Nat → Prop} {H : Heap} {locs : List Loc} (hW : s.WarmedH U.vm) (hU : U.heap = H) (hS : va_S A s.heap H locs) (hA : ∀ q, s.heap.size ≤ q → A q) (h1 : vx_Zq Bundle.tN "UNASSIGNED_STACK" Bundle.steD A s s.heap) (h2 : vx_Zq Bundle.tN "SUPPRESSED_SENTINEL" Bundle.listD A s s.heap) (h3 : ∀ w ∈ zBad, va_Nw w s) (h4 : zStrs s) : zT U := by
  refine ⟨?_, ?_, zBad_moved hW h3, zStrs_moved hW h4⟩
  · rw [hU]; exact (vx_Zq.moved hW.alike (h1.kept hS.2.1)).narrow (fun q hq => hA q (Nat.le_trans hS.1 hq))
  · rw [hU]; exact (vx_Zq.moved hW.alike (h2.kept hS.2.1)).narrow (fun q hq => hA q (Nat.le_trans hS.1 hq))
def zXc (dC : Nat → ClassId) (dI : Nat → Nat → Nat) (tys : List (ClassId × FieldType)) (av : List Value) (ws : va_W) : Array Value → State → Prop := va_Pc av (fun U => zT U ∧ va_P (dC, dI) vwCl ws U.heap ∧ va_K (dC, dI) vwCl tys U)
def zXQ : Array Value → State → Outcome → State → Prop := fun _ _ _ _ => False
def zXC (E : String) : String → State → State → Prop := fun E' st t => E' = E ∧ st.heap.size ≤ t.heap.size ∧ ∀ q : Nat, q < st.heap.size → t.heap[q]? = st.heap[q]?
/-- a result, the heap only grown -/
def zSg (v : Int32) : Array Value → State → Outcome → State → Prop := fun _ st oc t => oc = .returned (some (.int v)) ∧ st.heap.size ≤ t.heap.size ∧ ∀ q : Nat, q < st.heap.size → t.heap[q]? = st.heap[q]?
/-- a reference, the heap untouched -/
def zSr (v : Nat) : Array Value → State → Outcome → State → Prop := fun _ st oc t => oc = .returned (some (.ref v)) ∧ t.heap = st.heap
def zSv : Array Value → State → Outcome → State → Prop := fun _ st oc t => oc = .returned none ∧ t.heap = st.heap
theorem zXc_blind {dC : Nat → ClassId} {dI : Nat → Nat → Nat} {tys : List (ClassId × FieldType)} {av : List Value} {ws : va_W} : FrameBlind (zXc dC dI tys av ws) := fun a U g mk q => by
  obtain ⟨q0, qT, qP, qK⟩ := q
  exact ⟨q0, zT_moved (s := U) (U := U.calling g mk a) (State.WarmedH.refl U) rfl qT, qP, va_K.moved (u := U) (U := U.calling g mk a) (Vm.Alike.refl U.vm) qK⟩
section PX
variable {dC : Nat → ClassId} {dI : Nat → Nat → Nat} {tys : List (ClassId × FieldType)} {s : State} {H : Heap} {C : String} {b : Nat} {As : List Value} {ws wc : va_W} {is : List Nat}
theorem zPreXS (hT : zT s) (hK : va_K (dC, dI) vwCl tys s) (hP : va_P (dC, dI) vwCl ws s.heap) (hC : is.map (fun i => ws[i]?) = wc.map some) : PreS s s.heap (zXc dC dI tys As wc) As :=
  ⟨zXc_blind, fun U hU hW => ⟨rfl, zT_moved hW hU hT, by rw [hU]; exact zP_sub hP hC, va_K.moved hW.alike hK⟩⟩
theorem zPreX (hT : zT s) (hK : va_K (dC, dI) vwCl tys s) (hP : va_P (dC, dI) vwCl ws s.heap) (hC : is.map (fun i => ws[i]?) = wc.map some) (rc : ∃ cell : Cell, s.heap[b]? = some cell ∧ cell.vm.isStatics = false ∧ s.vm.findClass C = some cell.cls) : PreV s s.heap C b (zXc dC dI tys (.ref b :: As) wc) As :=
  ⟨zXc_blind, rc, fun U hU hW => ⟨rfl, zT_moved hW hU hT, by rw [hU]; exact zP_sub hP hC, va_K.moved hW.alike hK⟩⟩
end PX
theorem zg_IAE : ∀ w ∈ Cond.classLink RX3 121 zIAE :: Cond.initialized zIAE :: vx_atS RX3 125 zIAE zNm, vx_ot w = true := by decide +kernel
theorem zg_ISE : ∀ w ∈ Cond.classLink RX3 61 zISE :: Cond.initialized zISE :: vx_atS RX3 65 zISE zNm, vx_ot w = true := by decide +kernel
theorem zb_IAE : ∀ w ∈ (vx_atS RX3 125 zIAE zNm).filter (fun w => !goodWord w), w ∈ zBad := by decide +kernel
theorem zb_ISE : ∀ w ∈ (vx_atS RX3 65 zISE zNm).filter (fun w => !goodWord w), w ∈ zBad := by decide +kernel
theorem zf_IAE : Bundle.fit zIAE = true := by decide +kernel
theorem zf_ISE : Bundle.fit zISE = true := by decide +kernel
theorem zf_Nm : ∀ n ∈ zNm, Bundle.fit n = true := by decide +kernel
section TH
variable {p : Program} {l : Launch} {e : Env} {R : Room} {s : State} {m : MethodId} {args : Array Value} {below : List Frame} {meth : Method} {c : Code} {H : Heap} {locs : List Loc} {cells slots : Nat} {Q : State → Prop}
variable {pc : Nat} {ls : Array Slot} {rest st0 : List Value} {a : Array Value} {mc ms mc' ms' nL : Nat} {E : String} {v : Int32} {u : Nat}
/-- new; dup; ldc; invokespecial; athrow, ahead of any change -/
theorem z_throw {cc : ByteArray} {cls text : String} {ik ic is : Nat} (hx : p.tables.exec = Jvm.exec) (hb : c.code = cc) (hst : l.stackTraces = false) (hown : s.vm.findClass RX3 = some m.cls) (hfit : Bundle.fit cls = true)
    (hk : (Cond.classLink RX3 ik cls).before args s = true) (hini : (Cond.initialized cls).before args s = true) (hT : zT s) (hstr : ∃ sa, vk_R RX3 is text sa s)
    (hgw : ∀ w ∈ (vx_atS RX3 ic cls zNm).filter goodWord, w.before args s = true) (hbw : ∀ w ∈ (vx_atS RX3 ic cls zNm).filter (fun w => !goodWord w), w ∈ zBad) (hgood : ∀ w ∈ Cond.classLink RX3 ik cls :: Cond.initialized cls :: vx_atS RX3 ic cls zNm, vx_ot w = true)
    (hml : c.maxLocals = nL) (hsz : ls.size = nL) (d0 : decode cc pc = .ok (.new ik, 3)) (d3 : decode cc (pc + 3) = .ok (.dup, 1)) (d4 : decode cc (pc + 4) = .ok (.ldc is, 2)) (d6 : decode cc (pc + 6) = .ok (.invokespecial ic, 3)) (d9 : decode cc (pc + 9) = .ok (.athrow, 1))
    (ht : ∀ x ∈ c.exceptionTable.toList, False) (hlocks : meth.locks = false) (hRf : 6 ≤ R.frames) (hRl : 90 ≤ R.locals) (hRc : 1 ≤ R.cells) (hRs : 6 ≤ R.slots) (hmc : 1 ≤ mc) (hms : 6 ≤ ms) :
    W p l e R s m args below meth c s.heap [] 0 0 (vx_MQ below zXQ (zXC cls) args s mc ms (fun _ => False)) (F0 m pc ls []) := by
  obtain ⟨h1, h2, h3, h4⟩ := hT
  obtain ⟨sa, hsa⟩ := hstr
  refine vx_throwS hx hb hst hown hfit zf_Nm hk hini hsa (vx_hat hgw hbw (fun w hw => va_Nw.use ?_ (h3 w hw))) hgood h1 h2 (va_S.rf (A := fun q => s.heap.size ≤ q)) (hsz.trans hml.symm) d0 d3 d4 d6 d9 (fun x h => (ht x h).elim) hRf (by show 0 + (13 * (2 + 1) + 43) ≤ R.locals; omega) (by omega) (by omega) hlocks (fun t _ g1 g2 => ⟨rfl, g1, g2⟩) (fun z h => nomatch h) (by omega) (by omega)
  simp only [zBad, List.mem_cons, List.not_mem_nil, or_false] at hw
  rcases hw with rfl | rfl | rfl | rfl | rfl <;> rfl
/-- a call of a method that throws always; it goes on to the caller -/
theorem z_cX (hr : vx_Run p l e R s m args below meth c s.heap [] 0 0 mc ms (F0 m pc ls st0) rest (zXQ a) (zXC E) (fun _ => False)) (hlocks : meth.locks = false) (ht : ∀ x ∈ c.exceptionTable.toList, False) (hmc : 0 + mc ≤ mc') (hms : 0 + ms ≤ ms') :
    W p l e R s m args below meth c s.heap [] 0 0 (vx_MQ below zXQ (zXC E) args s mc' ms' (fun _ => False)) (F0 m pc ls st0) := by
  intro T hT X
  rcases hr T hT X with ⟨vv, st₀, t, T', L, h0, X', hL, e1, e2, hf, st⟩ | ⟨q, st₀, t, T', L, E', ce, h0, X', hL, e1, e2, ⟨hE, g1, g2⟩, hce, hcv, hcl, st⟩
  · exact hf.elim
  · have k : vx_W p l e R s m args below meth c T'.heap [] (0 + mc) (0 + ms) (vx_MQ below zXQ (zXC E) args s mc' ms' (fun _ => False)) (F0 m pc ls rest) q := by
      refine vx_out (E := E') (ce := ce) (fun x h => (ht x h).elim) hlocks (by rw [e1]; exact hce) hcv hcl (fun t' ht' _ => ⟨hE, ?_, fun q hq => ?_⟩) (fun z h => nomatch h) hmc hms
      · rw [ht', e1, ← h0]; exact g1
      · rw [ht', e1, ← h0]; exact g2 q (by rw [h0]; exact hq)
    obtain ⟨t2, a1, b1⟩ := k T' rfl (Stand.forget X' (fun q h => (hL q h).elim))
    exact ⟨t2, st.trans a1, b1⟩
/-- a call that answers a reference -/
theorem z_cRr (hr : va_Run p l e R s m args below meth c H locs cells slots 0 0 (F0 m pc ls st0) rest (zSr u a) (fun _ => False))
    (kk : W p l e R s m args below meth c H locs cells slots Q (F0 m (pc + 3) ls (.ref u :: rest))) : W p l e R s m args below meth c H locs cells slots Q (F0 m pc ls st0) := by
  intro T hT X
  obtain ⟨vv, st₀, t, T', L, h0, X', hL, e1, e2, ⟨hv, hh⟩, st⟩ := hr T hT X
  cases hv
  obtain ⟨t2, a1, b1⟩ := kk T' (by rw [e1, hh, h0]) (Stand.forget X' (fun q h => (hL q h).elim))
  exact ⟨t2, st t2 a1, b1⟩
theorem z_cRv (hr : va_Run p l e R s m args below meth c H locs cells slots 0 0 (F0 m pc ls st0) rest (zSv a) (fun _ => False))
    (kk : W p l e R s m args below meth c H locs cells slots Q (F0 m (pc + 3) ls rest)) : W p l e R s m args below meth c H locs cells slots Q (F0 m pc ls st0) := by
  intro T hT X
  obtain ⟨vv, st₀, t, T', L, h0, X', hL, e1, e2, ⟨hv, hh⟩, st⟩ := hr T hT X
  cases hv
  obtain ⟨t2, a1, b1⟩ := kk T' (by rw [e1, hh, h0]) (Stand.forget X' (fun q h => (hL q h).elim))
  exact ⟨t2, st t2 a1, b1⟩
end TH
theorem zin_ok {v a b : Int32} (h : zin v a b = 1) : ¬ v < a ∧ v ≤ b := by
  unfold zin at h
  by_cases g : v < a ∨ b < v
  · rw [if_pos g] at h
    exact absurd h (by decide)
  · rw [Int32.lt_iff_toInt_lt, Int32.lt_iff_toInt_lt] at g
    rw [Int32.lt_iff_toInt_lt, Int32.le_iff_toInt_le]
    omega
theorem zin_bd {v a b : Int32} (h : ¬ zin v a b = 1) : ¬ (¬ v < a ∧ v ≤ b) := by
  intro g
  apply h
  unfold zin
  rw [if_neg]
  rw [Int32.lt_iff_toInt_lt, Int32.le_iff_toInt_le] at g
  rw [Int32.lt_iff_toInt_lt, Int32.lt_iff_toInt_lt]
  omega
theorem zin_nat {v : Int32} {n : Nat} (hn : n < 2 ^ 31) (h : zin v 0 (nI n) = 1) : ∃ j, j < n + 1 ∧ v = nI j := by
  obtain ⟨h1, h2⟩ := zin_ok h
  obtain ⟨j, hj, e⟩ := nI_of2 (M := nI n) (nI_toInt hn) h1 h2
  exact ⟨j, by omega, e⟩
end ZT
