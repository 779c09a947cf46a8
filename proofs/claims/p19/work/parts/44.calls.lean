/-! ===== calls whose world is a list of cells with a tail ===== -/
section ZCT
/-- a long answer, the heap untouched -/
def zSl (v : Int64) : Array Value → State → Outcome → State → Prop := fun _ st oc t => oc = .returned (some (.long v)) ∧ t.heap = st.heap
section P1
variable {dC : Nat → ClassId} {dI : Nat → Nat → Nat} {tys : List (ClassId × FieldType)} {s : State} {H : Heap} {C : String} {b : Nat} {As : List Value} {wc : va_W} {A0 : Nat → Prop}
theorem zPreRS1 (hK : va_K (dC, dI) vwCl tys s) (hP : va_P (dC, dI) vwCl wc H) : PreS s H (zRc dC dI tys As wc) As :=
  ⟨zRc_blind, fun U hU hW => ⟨rfl, by rw [hU]; exact hP, va_K.moved hW.alike hK⟩⟩
theorem zPreR1 (hK : va_K (dC, dI) vwCl tys s) (hP : va_P (dC, dI) vwCl wc H) (rc : ∃ cell : Cell, H[b]? = some cell ∧ cell.vm.isStatics = false ∧ s.vm.findClass C = some cell.cls) : PreV s H C b (zRc dC dI tys (.ref b :: As) wc) As :=
  ⟨zRc_blind, rc, fun U hU hW => ⟨rfl, by rw [hU]; exact hP, va_K.moved hW.alike hK⟩⟩
theorem zPreS1 (hK : va_K (dC, dI) vwCl tys s) (hP : va_P (dC, dI) vwCl wc H) (hD : va_D A0 wc) : PreS s H (zPc dC dI tys As H.size wc) As :=
  ⟨zPc_blind, fun U hU hW => ⟨rfl, by rw [hU], by rw [hU]; exact hP, va_K.moved hW.alike hK, hD.weaken (fun _ _ _ _ => trivial)⟩⟩
theorem zPreV1 (hK : va_K (dC, dI) vwCl tys s) (hP : va_P (dC, dI) vwCl wc H) (hD : va_D A0 wc) (rc : ∃ cell : Cell, H[b]? = some cell ∧ cell.vm.isStatics = false ∧ s.vm.findClass C = some cell.cls) : PreV s H C b (zPc dC dI tys (.ref b :: As) H.size wc) As :=
  ⟨zPc_blind, rc, fun U hU hW => ⟨rfl, by rw [hU], by rw [hU]; exact hP, va_K.moved hW.alike hK, hD.weaken (fun _ _ _ _ => trivial)⟩⟩
theorem zPreX1 (hT : zT s) (hK : va_K (dC, dI) vwCl tys s) (hP : va_P (dC, dI) vwCl wc s.heap) (rc : ∃ cell : Cell, s.heap[b]? = some cell ∧ cell.vm.isStatics = false ∧ s.vm.findClass C = some cell.cls) : PreV s s.heap C b (zXc dC dI tys (.ref b :: As) wc) As :=
  ⟨zXc_blind, rc, fun U hU hW => ⟨rfl, zT_moved hW hU hT, by rw [hU]; exact hP, va_K.moved hW.alike hK⟩⟩
theorem zPreY1 {A : Nat → Prop} {locs : List Loc} (hS : va_S A s.heap H locs) (hA : ∀ q, s.heap.size ≤ q → A q) (h1 : vx_Zq Bundle.tN "UNASSIGNED_STACK" Bundle.steD A s s.heap) (h2 : vx_Zq Bundle.tN "SUPPRESSED_SENTINEL" Bundle.listD A s s.heap) (h3 : ∀ w ∈ zBad, va_Nw w s) (h4 : zStrs s) (h5 : zN s) (hK : va_K (dC, dI) vwCl tys s) (hP : va_P (dC, dI) vwCl wc H) : PreS s H (zYc dC dI tys As wc) As := by
  refine ⟨fun a U g mk q => ?_, fun U hU hW => ⟨rfl, ⟨zT_at hW hU hS hA h1 h2 h3 h4, va_Nc.moved hW.alike h5⟩, by rw [hU]; exact hP, va_K.moved hW.alike hK⟩⟩
  obtain ⟨q0, ⟨qT, qN⟩, qP, qK⟩ := q
  exact ⟨q0, ⟨zT_moved (s := U) (U := U.calling g mk a) (State.WarmedH.refl U) rfl qT, va_Nc.moved (u := U) (U := U.calling g mk a) (Vm.Alike.refl U.vm) qN⟩, qP, va_K.moved (u := U) (U := U.calling g mk a) (Vm.Alike.refl U.vm) qK⟩
end P1
/-- the object's own cell -/
theorem zrecv {dC : Nat → ClassId} {dI : Nat → Nat → Nat} {tys : List (ClassId × FieldType)} {s : State} {H : Heap} {cI cZ cH : ClassId} {x0 xq : Nat} {xg : Nat → Option Nat} {had : Nat → Nat → Nat} {now : Int32} {σ : Nat → zHS} (hK : va_K (dC, dI) vwCl tys s) (hP : va_P (dC, dI) vwCl (zOb cI cZ cH x0 xq xg had now σ) H) : ∃ cell : Cell, H[x0]? = some cell ∧ cell.vm.isStatics = false ∧ s.vm.findClass RX3 = some cell.cls :=
  va_recv (q := (RX3, TX3, 2)) hK hP (ci := 3) (q0 := 0) rfl rfl
theorem zD_r {A : Nat → Prop} {ws tl : va_W} (hD : va_D A (ws ++ tl)) : va_D A tl := zD_of tl ((zND_app ws tl).mp (zD_nd _ hD)).2.1 (fun q hq => zD_m hD q (List.mem_append_right ws hq))
theorem zP_t {D : va_G} {cl : List vw_C} {ws w1 tl : va_W} {H : Heap} {is : List Nat} (hP : va_P D cl (ws ++ tl) H) (hC : is.map (fun i => ws[i]?) = w1.map some) : va_P D cl (w1 ++ tl) H := zP_a (zP_sub (zP_l hP) hC) (zP_r hP)
theorem zD_t {A : Nat → Prop} {ws w1 tl : va_W} {is : List Nat} (hD : va_D A (ws ++ tl)) (hn : va_nd is = true) (hC : is.map (fun i => ws[i]?) = w1.map some) : va_D A (w1 ++ tl) := by
  obtain ⟨h1, h2, h3⟩ := (zND_app ws tl).mp (zD_nd _ hD)
  exact zD_a ((zD_l hD).sub is hn hC) (fun q hq => zD_m hD q (List.mem_append_right ws hq)) h2 (fun q hq => h3 q (zsub_m hC q hq))
theorem zeq_nil (t : va_W) : zeq t (t ++ []) := by rw [List.append_nil]; exact zeq.rf t
section MG
variable {p : Program} {l : Launch} {e : Env} {R : Room} {s : State} {m : MethodId} {args : Array Value} {below : List Frame} {meth : Method} {c : Code} {H : Heap} {locs : List Loc} {cells slots : Nat} {Q : State → Prop}
variable {pc : Nat} {ls : Array Slot} {rest st0 : List Value} {A0 : Nat → Prop} {big big1 wc w1 wr : va_W} {H0 : Heap} {a : Array Value} {dC : Nat → ClassId} {dI : Nat → Nat → Nat} {mc ms : Nat} {v : Int32}
theorem z_back {H1 : Heap} (hP : va_P (dC, dI) vwCl big H) (hD : va_D A0 big) (hFc : ∀ q, va_A wc H.size q → A0 q) (e0 : zeq big (wc ++ wr)) (e1 : zeq (w1 ++ wr) big1) (hk1 : ∀ q : Nat, q < H.size → ¬ va_A wc H.size q → H1[q]? = H[q]?) (hP1 : va_P (dC, dI) vwCl w1 H1) (hD1 : va_D (va_A wc H.size) w1) : va_P (dC, dI) vwCl big1 H1 ∧ va_D A0 big1 := by
  have hPb := zP_r (e0.P hP)
  have hDb := e0.D hD
  obtain ⟨n1, n2, n3⟩ := (zND_app wc wr).mp (zD_nd _ hDb)
  have lt : ∀ r ∈ wr, r.1 < H.size := fun r hr => by
    obtain ⟨i, hi⟩ := List.getElem?_of_mem hr
    exact (hPb i r hi).lt
  have ap : ∀ r ∈ wr, ¬ va_A wc H.size r.1 := fun r hr h => by
    rcases h with ⟨k2, e, h⟩ | h
    · exact n3 (r.1, e) (List.mem_of_getElem? h) r hr rfl
    · exact absurd (lt r hr) (Nat.not_lt.mpr h)
  refine ⟨e1.P (zP_a hP1 (fun k q hk => ?_)), e1.D (zD_a (hD1.weaken (fun _ _ _ h => hFc _ h)) (fun q hq => zD_m hDb q (List.mem_append_right wc hq)) n2 (fun q hq r hr e => ?_))⟩
  · exact (hPb k q hk).kept (hk1 q.1 (lt q (List.mem_of_getElem? hk)) (ap q (List.mem_of_getElem? hk)))
  · exact ap r hr (by rw [e]; exact zD_m hD1 q hq)
theorem z_freeE (hD : va_D A0 big) (hS : va_S A0 H0 H locs) (hA : ∀ q, H0.size ≤ q → A0 q) (e0 : zeq big (wc ++ wr)) : ∀ q, va_A wc H.size q → A0 q := fun q h => by
  rcases h with ⟨k, e, h⟩ | h
  · exact zD_m hD (q, e) ((e0.1 (q, e)).mpr (List.mem_append_left wr (List.mem_of_getElem? h)))
  · exact hA q (Nat.le_trans hS.1 h)
/-- a call that changes its world and answers an int -/
theorem z_cGi (hr : va_Run p l e R s m args below meth c H locs cells slots mc ms (F0 m pc ls st0) rest (zQi dC dI v w1 (va_A wc H.size) a) (va_A wc H.size)) (hP : va_P (dC, dI) vwCl big H) (hD : va_D A0 big) (hS : va_S A0 H0 H locs) (hA : ∀ q, H0.size ≤ q → A0 q) (e0 : zeq big (wc ++ wr)) (e1 : zeq (w1 ++ wr) big1)
    (kk : ∀ (H1 : Heap) (locs1 : List Loc), va_P (dC, dI) vwCl big1 H1 → va_D A0 big1 → va_S A0 H0 H1 locs1 → W p l e R s m args below meth c H1 locs1 (cells + mc) (slots + ms) Q (F0 m (pc + 3) ls (.int v :: rest))) : W p l e R s m args below meth c H locs cells slots Q (F0 m pc ls st0) := by
  have hFc := z_freeE hD hS hA e0
  refine va_calli (A1 := va_A wc H.size) (post := fun (r : Int32) (_ : Unit) => r = v) (B := fun _ t => va_P (dC, dI) vwCl w1 t.heap ∧ va_D (va_A wc H.size) w1) (a := a) (mc := mc) (ms := ms) (free := va_A wc H.size) (rest := rest) ?_ hS (fun q _ h => hFc q h) hFc (fun r u t H1 locs1 ht hvm hw hB hz1 hk1 hS1 => ?_)
  · intro T hT X
    obtain ⟨vv, st₀, t, T', L, h0, X', hL, e1, e2, ⟨hv, hB, hF⟩, st⟩ := hr T hT X
    exact ⟨vv, st₀, t, T', L, h0, X', hL, e1, e2, ⟨⟨v, (), hv, rfl, hB⟩, hF⟩, st⟩
  · subst hw
    obtain ⟨hP1, hD1⟩ := hB
    rw [ht] at hP1
    obtain ⟨hP2, hD2⟩ := z_back hP hD hFc e0 e1 hk1 hP1 hD1
    exact kk H1 locs1 hP2 hD2 hS1
/-- .. and answers nothing -/
theorem z_cGv (hr : va_Run p l e R s m args below meth c H locs cells slots mc ms (F0 m pc ls st0) rest (zQv dC dI w1 (va_A wc H.size) a) (va_A wc H.size)) (hP : va_P (dC, dI) vwCl big H) (hD : va_D A0 big) (hS : va_S A0 H0 H locs) (hA : ∀ q, H0.size ≤ q → A0 q) (e0 : zeq big (wc ++ wr)) (e1 : zeq (w1 ++ wr) big1)
    (kk : ∀ (H1 : Heap) (locs1 : List Loc), va_P (dC, dI) vwCl big1 H1 → va_D A0 big1 → va_S A0 H0 H1 locs1 → W p l e R s m args below meth c H1 locs1 (cells + mc) (slots + ms) Q (F0 m (pc + 3) ls rest)) : W p l e R s m args below meth c H locs cells slots Q (F0 m pc ls st0) := by
  have hFc := z_freeE hD hS hA e0
  refine va_callv (A1 := va_A wc H.size) (post := fun (_ : Unit) => True) (B := fun _ t => va_P (dC, dI) vwCl w1 t.heap ∧ va_D (va_A wc H.size) w1) (a := a) (mc := mc) (ms := ms) (free := va_A wc H.size) (rest := rest) ?_ hS (fun q _ h => hFc q h) hFc (fun u t H1 locs1 ht hvm hw hB hz1 hk1 hS1 => ?_)
  · intro T hT X
    obtain ⟨vv, st₀, t, T', L, h0, X', hL, e1, e2, ⟨hv, hB, hF⟩, st⟩ := hr T hT X
    exact ⟨vv, st₀, t, T', L, h0, X', hL, e1, e2, ⟨⟨(), hv, trivial, hB⟩, hF⟩, st⟩
  · obtain ⟨hP1, hD1⟩ := hB
    rw [ht] at hP1
    obtain ⟨hP2, hD2⟩ := z_back hP hD hFc e0 e1 hk1 hP1 hD1
    exact kk H1 locs1 hP2 hD2 hS1
/-- a call that only reads, with a long answer -/
theorem z_cRl {v : Int64} (hr : va_Run p l e R s m args below meth c H locs cells slots 0 0 (F0 m pc ls st0) rest (zSl v a) (fun _ => False))
    (kk : W p l e R s m args below meth c H locs cells slots Q (F0 m (pc + 3) ls (.long v :: rest))) : W p l e R s m args below meth c H locs cells slots Q (F0 m pc ls st0) := by
  intro T hT X
  obtain ⟨vv, st₀, t, T', L, h0, X', hL, e1, e2, ⟨hv, hh⟩, st⟩ := hr T hT X
  cases hv
  obtain ⟨t2, a1, b1⟩ := kk T' (by rw [e1, hh, h0]) (Stand.forget X' (fun q h => (hL q h).elim))
  exact ⟨t2, st t2 a1, b1⟩
end MG
theorem zl_cl {i : Nat} {x y : Int64} {t t' : List (Nat × Value)} (h : x = y) (ht : t = t') : (i, Value.long x) :: t = (i, Value.long y) :: t' := by rw [h, ht]
theorem zw_t {a b : va_W} {t t' : va_W} (h : a = b) (ht : t = t') : a ++ t = b ++ t' := by rw [h, ht]
end ZCT
