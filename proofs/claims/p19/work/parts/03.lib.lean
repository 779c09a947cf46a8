/-! ===== own helpers: worlds changed in place, exact contracts, calls, throws ===== -/
section ZL
abbrev zI : Type := Nat → Int32
abbrev zIAE : String := "java/lang/IllegalArgumentException"
abbrev zISE : String := "java/lang/IllegalStateException"
abbrev zNm : List String := ["java/lang/RuntimeException", "java/lang/Exception"]
/-- the array classes that the worlds use -/
abbrev zTy (cI cZ cH cJ : ClassId) : List (ClassId × FieldType) := [(cI, .int), (cZ, .boolean), (cH, .object "CatalogueHarvester$Harvest")]
def zput : va_W → List Nat → va_W → va_W
  | ws, i :: is, c :: cs => zput (ws.set i c) is cs
  | ws, _, _ => ws
theorem zput_get : ∀ (is : List Nat) (w1 ws : va_W), (∀ i ∈ is, i < ws.length) → is.length = w1.length → va_nd is = true → ∀ (k : Nat) (q : Nat × va_E), (zput ws is w1)[k]? = some q → (∃ j : Nat, is[j]? = some k ∧ w1[j]? = some q) ∨ (k ∉ is ∧ ws[k]? = some q)
  | [], [], ws, _, _, _, k, q, h => Or.inr ⟨List.not_mem_nil, h⟩
  | [], _ :: _, _, _, hn, _, _, _, _ => by simp at hn
  | _ :: _, [], _, _, hn, _, _, _, _ => by simp at hn
  | i :: is, c :: cs, ws, hl, hn, hd, k, q, h => by
    simp only [va_nd, Bool.and_eq_true, decide_eq_true_eq] at hd
    have h' : (zput (ws.set i c) is cs)[k]? = some q := h
    rcases zput_get is cs (ws.set i c) (by intro x hx; rw [List.length_set]; exact hl x (List.mem_cons_of_mem _ hx)) (by simpa using hn) hd.2 k q h' with ⟨j, h1, h2⟩ | ⟨h1, h2⟩
    · exact Or.inl ⟨j + 1, by rw [List.getElem?_cons_succ]; exact h1, by rw [List.getElem?_cons_succ]; exact h2⟩
    · by_cases hk : k = i
      · subst hk
        rw [List.getElem?_set_self (hl _ List.mem_cons_self)] at h2
        cases h2
        exact Or.inl ⟨0, rfl, rfl⟩
      · rw [List.getElem?_set_ne (Ne.symm hk)] at h2
        exact Or.inr ⟨by simp [hk, h1], h2⟩
theorem zat {ws wc : va_W} {is : List Nat} (hC : is.map (fun i => ws[i]?) = wc.map some) (j i : Nat) (hj : is[j]? = some i) : ∃ x : Nat × va_E, wc[j]? = some x ∧ ws[i]? = some x := by
  have h1 : (is.map (fun i => ws[i]?))[j]? = some (ws[i]?) := by rw [List.getElem?_map, hj]; rfl
  rw [hC, List.getElem?_map] at h1
  cases hx : wc[j]? with
  | none => rw [hx] at h1; cases h1
  | some x => rw [hx] at h1; exact ⟨x, rfl, (Option.some.inj h1).symm⟩
theorem zat2 {ws wc : va_W} {is : List Nat} (hC : is.map (fun i => ws[i]?) = wc.map some) (k : Nat) (q : Nat × va_E) (hk : wc[k]? = some q) : ∃ i : Nat, is[k]? = some i ∧ ws[i]? = some q := by
  have h1 : (is.map (fun i => ws[i]?))[k]? = some (some q) := by rw [hC, List.getElem?_map, hk]; rfl
  rw [List.getElem?_map] at h1
  cases hi : is[k]? with
  | none => rw [hi] at h1; cases h1
  | some i => rw [hi] at h1; exact ⟨i, rfl, Option.some.inj h1⟩
theorem zP_sub {D : va_G} {cl : List vw_C} {ws wc : va_W} {H : Heap} (hP : va_P D cl ws H) {is : List Nat} (hC : is.map (fun i => ws[i]?) = wc.map some) : va_P D cl wc H := fun k q hk => by
  obtain ⟨i, -, h2⟩ := zat2 hC k q hk
  exact hP i q h2
/-- behind a call: the callee's cells are put back in their places -/
theorem zjoin {A0 : Nat → Prop} {D : va_G} {cl : List vw_C} {ws wc w1 : va_W} {H H1 : Heap} (hP : va_P D cl ws H) (hD : va_D A0 ws) {is : List Nat} (hC : is.map (fun i => ws[i]?) = wc.map some) (hl : w1.length = wc.length) (hn : va_nd is = true)
    (hk : ∀ q : Nat, q < H.size → ¬ va_A wc H.size q → H1[q]? = H[q]?) (hF : ∀ q, va_A wc H.size q → A0 q) (hP1 : va_P D cl w1 H1) (hD1 : va_D (va_A wc H.size) w1) : va_P D cl (zput ws is w1) H1 ∧ va_D A0 (zput ws is w1) := by
  have hlen : is.length = wc.length := by
    have := congrArg List.length hC
    simpa using this
  have hlt : ∀ i ∈ is, i < ws.length := by
    intro i hi
    obtain ⟨j, hj⟩ := List.getElem?_of_mem hi
    obtain ⟨x, -, h2⟩ := zat hC j i hj
    exact (List.getElem?_eq_some_iff.mp h2).1
  have key := zput_get is w1 ws hlt (hlen.trans hl.symm) hn
  have apart : ∀ (k : Nat) (q : Nat × va_E), k ∉ is → ws[k]? = some q → q.1 < H.size ∧ ¬ va_A wc H.size q.1 := by
    intro k q hk0 hq
    have hq1 := (hP k q hq).lt
    refine ⟨hq1, fun h => ?_⟩
    rcases h with ⟨k2, e, h⟩ | h
    · obtain ⟨i, h1, h2⟩ := zat2 hC k2 (q.1, e) h
      have h3 := hD.1 k i q (q.1, e) hq h2 rfl
      exact hk0 (by rw [h3]; exact List.mem_of_getElem? h1)
    · omega
  refine ⟨fun k q h => ?_, ⟨fun i j p q hi hj hpq => ?_, fun k q h => ?_⟩⟩
  · rcases key k q h with ⟨j, h1, h2⟩ | ⟨h1, h2⟩
    · exact hP1 j q h2
    · obtain ⟨g1, g2⟩ := apart k q h1 h2
      exact (hP k q h2).kept (hk q.1 g1 g2)
  · rcases key i p hi with ⟨j1, a1, a2⟩ | ⟨a1, a2⟩ <;> rcases key j q hj with ⟨j2, b1, b2⟩ | ⟨b1, b2⟩
    · have h3 := hD1.1 j1 j2 p q a2 b2 hpq
      subst h3
      exact Option.some.inj (a1.symm.trans b1)
    · have h3 := hD1.2 j1 p a2
      rw [hpq] at h3
      exact absurd h3 (apart j q b1 b2).2
    · have h3 := hD1.2 j2 q b2
      rw [← hpq] at h3
      exact absurd h3 (apart i p a1 a2).2
    · exact hD.1 i j p q a2 b2 hpq
  · rcases key k q h with ⟨j, h1, h2⟩ | ⟨h1, h2⟩
    · exact hF _ (hD1.2 j q h2)
    · exact hD.2 k q h2
/-- an index: in range, and which place -/
def zix (i : Int32) (n j : Nat) : Prop := vp_in i n ∧ i.toNatClampNeg = j
theorem zix_nI {j n : Nat} (h : j < n) (hn : n < 2 ^ 31) : zix (nI j) n j := ⟨vp_in_nI h hn, nI_clamp (by omega)⟩
theorem z_ge {i n : Nat} (hi : i ≤ n) (hn : n < 2 ^ 31) (c : nI n ≤ nI i) : i = n := by
  have := (nI_leI hn (Nat.lt_of_le_of_lt hi hn)).mp c
  omega
theorem z_lt {i n : Nat} (hi : i ≤ n) (hn : n < 2 ^ 31) (c : ¬ nI n ≤ nI i) : i < n := by
  rcases Nat.lt_or_ge i n with h | h
  · exact h
  · exact absurd (nI_le h (Nat.lt_of_le_of_lt hi hn)) c
theorem z_1 {i : Nat} : nI i + Int32.ofInt 1 = nI (i + 1) := nI_1 i
theorem z_nb (c : Prop) [Decidable c] : narrow .boolean (.int (if c then (1 : Int32) else 0)) = .int (if c then (1 : Int32) else 0) := by split <;> rfl
theorem z_vb (c : Prop) [Decidable c] : vp_nar .boolean (if c then (1 : Int32) else 0) = (if c then (1 : Int32) else 0) := by split <;> rfl
theorem lv_cg {ls : Array Slot} {n : Nat} {l l' : List (Nat × Value)} (h : lv_has ls n l) (e : l = l') : lv_has ls n l' := e ▸ h
theorem zl_c {i : Nat} {x y : Int32} {t t' : List (Nat × Value)} (h : x = y) (ht : t = t') : (i, Value.int x) :: t = (i, Value.int y) :: t' := by rw [h, ht]
theorem zl_k {a : Nat × Value} {t t' : List (Nat × Value)} (ht : t = t') : a :: t = a :: t' := by rw [ht]
theorem zP_eq {D : va_G} {cl : List vw_C} {ws ws' : va_W} {H : Heap} (h : va_P D cl ws H) (e : ws = ws') : va_P D cl ws' H := e ▸ h
theorem zD_eq {A : Nat → Prop} {ws ws' : va_W} (h : va_D A ws) (e : ws = ws') : va_D A ws' := e ▸ h
theorem zw_k {a : Nat × va_E} {t t' : va_W} (ht : t = t') : a :: t = a :: t' := by rw [ht]
theorem zw_a {a : Nat} {cA : ClassId} {n : Nat} {f g : zI} {t t' : va_W} (h : f = g) (ht : t = t') : (a, Sum.inl (cA, n, Sum.inl f)) :: t = ((a, Sum.inl (cA, n, Sum.inl g)) :: t' : va_W) := by rw [h, ht]
theorem zw_o {a ci : Nat} {f g : List Value} {t t' : va_W} (h : f = g) (ht : t = t') : (a, Sum.inr (ci, f)) :: t = ((a, Sum.inr (ci, g)) :: t' : va_W) := by rw [h, ht]
theorem zv_k {a : Value} {t t' : List Value} (ht : t = t') : a :: t = a :: t' := by rw [ht]
theorem zv_c {x y : Int32} {t t' : List Value} (h : x = y) (ht : t = t') : Value.int x :: t = Value.int y :: t' := by rw [h, ht]
section VA
variable {p : Program} {l : Launch} {e : Env} {R : Room} {s : State} {m : MethodId} {args : Array Value} {below : List Frame} {meth : Method} {c : Code} {H : Heap} {locs : List Loc} {cells slots : Nat} {Q : State → Prop}
variable {cc : ByteArray} {pc : Nat} {ls : Array Slot} {rest st0 : List Value} {D : va_G} {cl : List vw_C} {A A0 : Nat → Prop} {a : Nat} {cI cZ cH cJ : ClassId} {ws wc w1 : va_W} {H0 : Heap} {av : Array Value}
theorem z_tv {x v : Int32} (h : x = v) (k : W p l e R s m args below meth c H locs cells slots Q (F0 m pc ls (.int v :: rest))) : W p l e R s m args below meth c H locs cells slots Q (F0 m pc ls (.int x :: rest)) := by rw [h]; exact k
theorem z_iald (hx : p.tables.exec = Jvm.exec) (hb : c.code = cc) (hK : va_K D cl (zTy cI cZ cH cJ) s) (hP : va_P D cl ws H) (q0 : Nat) {n : Nat} {f : zI} (ha : ws[q0]? = some (a, .inl (cI, n, .inl f))) {i : Int32} {j : Nat} (hi : zix i n j) (d : decode cc pc = .ok (.iaload, 1))
    (kk : W p l e R s m args below meth c H locs cells slots Q (F0 m (pc + 1) ls (.int (f j) :: rest))) : W p l e R s m args below meth c H locs cells slots Q (F0 m pc ls (.int i :: .ref a :: rest)) :=
  va_iald hx hb hK hP q0 0 ha rfl hi.1 d (by rw [hi.2]; exact kk)
theorem z_zald (hx : p.tables.exec = Jvm.exec) (hb : c.code = cc) (hK : va_K D cl (zTy cI cZ cH cJ) s) (hP : va_P D cl ws H) (q0 : Nat) {n : Nat} {f : zI} (ha : ws[q0]? = some (a, .inl (cZ, n, .inl f))) {i : Int32} {j : Nat} (hi : zix i n j) (d : decode cc pc = .ok (.baload, 1))
    (kk : W p l e R s m args below meth c H locs cells slots Q (F0 m (pc + 1) ls (.int (f j) :: rest))) : W p l e R s m args below meth c H locs cells slots Q (F0 m pc ls (.int i :: .ref a :: rest)) :=
  va_zald hx hb hK hP q0 1 ha rfl hi.1 d (by rw [hi.2]; exact kk)
theorem z_iast (hx : p.tables.exec = Jvm.exec) (hb : c.code = cc) (hK : va_K D cl (zTy cI cZ cH cJ) s) (hP : va_P D cl ws H) (hD : va_D A ws) (hS : va_S A H0 H locs) (q0 : Nat) {n : Nat} {f : zI} (ha : ws[q0]? = some (a, .inl (cI, n, .inl f))) {i x : Int32} {j : Nat} (hi : zix i n j) (d : decode cc pc = .ok (.iastore, 1))
    (kk : ∀ (H1 : Heap) (locs1 : List Loc), va_P D cl (ws.set q0 (a, .inl (cI, n, .inl (upd f j x)))) H1 → va_D A (ws.set q0 (a, .inl (cI, n, .inl (upd f j x)))) → va_S A H0 H1 locs1 → W p l e R s m args below meth c H1 locs1 cells slots Q (F0 m (pc + 1) ls rest)) : W p l e R s m args below meth c H locs cells slots Q (F0 m pc ls (.int x :: .int i :: .ref a :: rest)) :=
  va_iast hx hb hK hP hD hS q0 0 ha rfl hi.1 d (by rw [hi.2]; exact kk)
theorem z_zast (hx : p.tables.exec = Jvm.exec) (hb : c.code = cc) (hK : va_K D cl (zTy cI cZ cH cJ) s) (hP : va_P D cl ws H) (hD : va_D A ws) (hS : va_S A H0 H locs) (q0 : Nat) {n : Nat} {f : zI} (ha : ws[q0]? = some (a, .inl (cZ, n, .inl f))) {i x v : Int32} {j : Nat} (hi : zix i n j) (hv : vp_nar .boolean x = v) (d : decode cc pc = .ok (.bastore, 1))
    (kk : ∀ (H1 : Heap) (locs1 : List Loc), va_P D cl (ws.set q0 (a, .inl (cZ, n, .inl (upd f j v)))) H1 → va_D A (ws.set q0 (a, .inl (cZ, n, .inl (upd f j v)))) → va_S A H0 H1 locs1 → W p l e R s m args below meth c H1 locs1 cells slots Q (F0 m (pc + 1) ls rest)) : W p l e R s m args below meth c H locs cells slots Q (F0 m pc ls (.int x :: .int i :: .ref a :: rest)) := by
  subst hv
  exact va_zast hx hb hK hP hD hS q0 1 ha rfl hi.1 d (by rw [hi.2]; exact kk)
theorem z_aldq (hx : p.tables.exec = Jvm.exec) (hb : c.code = cc) (hK : va_K D cl (zTy cI cZ cH cJ) s) (hP : va_P D cl ws H) (q0 : Nat) {n : Nat} {f : Nat → Option Nat} (ha : ws[q0]? = some (a, .inl (cH, n, .inr (.inr (.inr (.inr f)))))) {i : Int32} {j : Nat} {v : Value} (hi : zix i n j) (hv : va_rf (f j) = v) (d : decode cc pc = .ok (.aaload, 1))
    (kk : W p l e R s m args below meth c H locs cells slots Q (F0 m (pc + 1) ls (v :: rest))) : W p l e R s m args below meth c H locs cells slots Q (F0 m pc ls (.int i :: .ref a :: rest)) :=
  va_aldq hx hb hK hP q0 2 ha rfl hi.1 d (by rw [hi.2, hv]; exact kk)
end VA
/-! contracts: what a method gets, what it gives -/
/-- only arguments -/
def zSc (av : List Value) : Array Value → State → Prop := va_Pc av (fun _ => True)
/-- a world that is only read -/
def zRc (dC : Nat → ClassId) (dI : Nat → Nat → Nat) (tys : List (ClassId × FieldType)) (av : List Value) (ws : va_W) : Array Value → State → Prop := va_Pc av (fun U => va_P (dC, dI) vwCl ws U.heap ∧ va_K (dC, dI) vwCl tys U)
/-- a world that may change -/
def zPc (dC : Nat → ClassId) (dI : Nat → Nat → Nat) (tys : List (ClassId × FieldType)) (av : List Value) (sz : Nat) (ws : va_W) : Array Value → State → Prop := va_Pc av (fun U => U.heap.size = sz ∧ va_P (dC, dI) vwCl ws U.heap ∧ va_K (dC, dI) vwCl tys U ∧ va_D (fun _ => True) ws)
def zSi (v : Int32) : Array Value → State → Outcome → State → Prop := fun _ st oc t => oc = .returned (some (.int v)) ∧ t.heap = st.heap
def zQi (dC : Nat → ClassId) (dI : Nat → Nat → Nat) (v : Int32) (w1 : va_W) (A : Nat → Prop) : Array Value → State → Outcome → State → Prop := fun _ st oc t => oc = .returned (some (.int v)) ∧ (va_P (dC, dI) vwCl w1 t.heap ∧ va_D A w1) ∧ va_F A st t
def zQv (dC : Nat → ClassId) (dI : Nat → Nat → Nat) (w1 : va_W) (A : Nat → Prop) : Array Value → State → Outcome → State → Prop := fun _ st oc t => oc = .returned none ∧ (va_P (dC, dI) vwCl w1 t.heap ∧ va_D A w1) ∧ va_F A st t
/-- a constructor: it makes cells, at addresses that it tells -/
def zQn (dC : Nat → ClassId) (dI : Nat → Nat → Nat) {S : Type} (px : S → Prop) (w1 : S → va_W) (A : Nat → Prop) : Array Value → State → Outcome → State → Prop := fun _ st oc t => oc = .returned none ∧ (∃ u : S, px u ∧ va_P (dC, dI) vwCl (w1 u) t.heap ∧ va_D A (w1 u)) ∧ va_F A st t
theorem zPre0 {s : State} {H : Heap} {As : List Value} : PreS s H (zSc As) As := ⟨fun _ _ _ _ q => q, fun _ _ _ => ⟨rfl, trivial⟩⟩
theorem zRc_blind {dC : Nat → ClassId} {dI : Nat → Nat → Nat} {tys : List (ClassId × FieldType)} {av : List Value} {ws : va_W} : FrameBlind (zRc dC dI tys av ws) := fun a U g mk q => by
  obtain ⟨q0, qP, qK⟩ := q
  exact ⟨q0, qP, va_K.moved (u := U) (U := U.calling g mk a) (Vm.Alike.refl U.vm) qK⟩
theorem zPc_blind {dC : Nat → ClassId} {dI : Nat → Nat → Nat} {tys : List (ClassId × FieldType)} {av : List Value} {sz : Nat} {ws : va_W} : FrameBlind (zPc dC dI tys av sz ws) := fun a U g mk q => by
  obtain ⟨q0, q1, qP, qK, qD⟩ := q
  exact ⟨q0, q1, qP, va_K.moved (u := U) (U := U.calling g mk a) (Vm.Alike.refl U.vm) qK, qD⟩
section PR
variable {dC : Nat → ClassId} {dI : Nat → Nat → Nat} {tys : List (ClassId × FieldType)} {s : State} {H : Heap} {C : String} {b : Nat} {As : List Value} {ws wc : va_W} {A0 : Nat → Prop} {is : List Nat}
theorem zPreRS (hK : va_K (dC, dI) vwCl tys s) (hP : va_P (dC, dI) vwCl ws H) (hC : is.map (fun i => ws[i]?) = wc.map some) : PreS s H (zRc dC dI tys As wc) As :=
  ⟨zRc_blind, fun U hU hW => ⟨rfl, by rw [hU]; exact zP_sub hP hC, va_K.moved hW.alike hK⟩⟩
theorem zPreR (hK : va_K (dC, dI) vwCl tys s) (hP : va_P (dC, dI) vwCl ws H) (hC : is.map (fun i => ws[i]?) = wc.map some) (rc : ∃ cell : Cell, H[b]? = some cell ∧ cell.vm.isStatics = false ∧ s.vm.findClass C = some cell.cls) : PreV s H C b (zRc dC dI tys (.ref b :: As) wc) As :=
  ⟨zRc_blind, rc, fun U hU hW => ⟨rfl, by rw [hU]; exact zP_sub hP hC, va_K.moved hW.alike hK⟩⟩
theorem zD_sub (hD : va_D A0 ws) (hn : va_nd is = true) (hC : is.map (fun i => ws[i]?) = wc.map some) : va_D (fun _ => True) wc := (hD.sub is hn hC).weaken (fun _ _ _ _ => trivial)
theorem zPreS (hK : va_K (dC, dI) vwCl tys s) (hP : va_P (dC, dI) vwCl ws H) (hD : va_D A0 ws) (hn : va_nd is = true) (hC : is.map (fun i => ws[i]?) = wc.map some) : PreS s H (zPc dC dI tys As H.size wc) As :=
  ⟨zPc_blind, fun U hU hW => ⟨rfl, by rw [hU], by rw [hU]; exact zP_sub hP hC, va_K.moved hW.alike hK, zD_sub hD hn hC⟩⟩
theorem zPreV (hK : va_K (dC, dI) vwCl tys s) (hP : va_P (dC, dI) vwCl ws H) (hD : va_D A0 ws) (hn : va_nd is = true) (hC : is.map (fun i => ws[i]?) = wc.map some) (rc : ∃ cell : Cell, H[b]? = some cell ∧ cell.vm.isStatics = false ∧ s.vm.findClass C = some cell.cls) : PreV s H C b (zPc dC dI tys (.ref b :: As) H.size wc) As :=
  ⟨zPc_blind, rc, fun U hU hW => ⟨rfl, by rw [hU], by rw [hU]; exact zP_sub hP hC, va_K.moved hW.alike hK, zD_sub hD hn hC⟩⟩
end PR
section CA
variable {p : Program} {l : Launch} {e : Env} {R : Room} {s : State} {m : MethodId} {args : Array Value} {below : List Frame} {meth : Method} {c : Code} {H : Heap} {locs : List Loc} {cells slots : Nat} {Q : State → Prop}
variable {pc : Nat} {ls : Array Slot} {rest st0 : List Value} {A0 : Nat → Prop} {ws wc w1 : va_W} {H0 : Heap} {a : Array Value} {dC : Nat → ClassId} {dI : Nat → Nat → Nat} {is : List Nat} {mc ms : Nat} {v : Int32}
/-- a call that only reads -/
theorem z_cRi (hr : va_Run p l e R s m args below meth c H locs cells slots 0 0 (F0 m pc ls st0) rest (zSi v a) (fun _ => False))
    (kk : W p l e R s m args below meth c H locs cells slots Q (F0 m (pc + 3) ls (.int v :: rest))) : W p l e R s m args below meth c H locs cells slots Q (F0 m pc ls st0) := by
  intro T hT X
  obtain ⟨vv, st₀, t, T', L, h0, X', hL, e1, e2, ⟨hv, hh⟩, st⟩ := hr T hT X
  cases hv
  obtain ⟨t2, a1, b1⟩ := kk T' (by rw [e1, hh, h0]) (Stand.forget X' (fun q h => (hL q h).elim))
  exact ⟨t2, st t2 a1, b1⟩
/-- a call that changes its world -/
theorem z_cMi (hr : va_Run p l e R s m args below meth c H locs cells slots mc ms (F0 m pc ls st0) rest (zQi dC dI v w1 (va_A wc H.size) a) (va_A wc H.size)) (hP : va_P (dC, dI) vwCl ws H) (hD : va_D A0 ws) (hS : va_S A0 H0 H locs) (hA : ∀ q, H0.size ≤ q → A0 q) (hC : is.map (fun i => ws[i]?) = wc.map some) (hn : va_nd is = true) (hl : w1.length = wc.length)
    (kk : ∀ (H1 : Heap) (locs1 : List Loc), va_P (dC, dI) vwCl (zput ws is w1) H1 → va_D A0 (zput ws is w1) → va_S A0 H0 H1 locs1 → W p l e R s m args below meth c H1 locs1 (cells + mc) (slots + ms) Q (F0 m (pc + 3) ls (.int v :: rest))) : W p l e R s m args below meth c H locs cells slots Q (F0 m pc ls st0) := by
  have hFc : ∀ q, va_A wc H.size q → A0 q := va_free hD hS hA is hC
  refine va_calli (A1 := va_A wc H.size) (post := fun (r : Int32) (_ : Unit) => r = v) (B := fun _ t => va_P (dC, dI) vwCl w1 t.heap ∧ va_D (va_A wc H.size) w1) (a := a) (mc := mc) (ms := ms) (free := va_A wc H.size) (rest := rest) ?_ hS (fun q _ h => hFc q h) hFc (fun r u t H1 locs1 ht hvm hw hB hz1 hk1 hS1 => ?_)
  · intro T hT X
    obtain ⟨vv, st₀, t, T', L, h0, X', hL, e1, e2, ⟨hv, hB, hF⟩, st⟩ := hr T hT X
    exact ⟨vv, st₀, t, T', L, h0, X', hL, e1, e2, ⟨⟨v, (), hv, rfl, hB⟩, hF⟩, st⟩
  · subst hw
    obtain ⟨hP1, hD1⟩ := hB
    rw [ht] at hP1
    obtain ⟨hP2, hD2⟩ := zjoin hP hD hC hl hn hk1 hFc hP1 hD1
    exact kk H1 locs1 hP2 hD2 hS1
theorem z_cMv (hr : va_Run p l e R s m args below meth c H locs cells slots mc ms (F0 m pc ls st0) rest (zQv dC dI w1 (va_A wc H.size) a) (va_A wc H.size)) (hP : va_P (dC, dI) vwCl ws H) (hD : va_D A0 ws) (hS : va_S A0 H0 H locs) (hA : ∀ q, H0.size ≤ q → A0 q) (hC : is.map (fun i => ws[i]?) = wc.map some) (hn : va_nd is = true) (hl : w1.length = wc.length)
    (kk : ∀ (H1 : Heap) (locs1 : List Loc), va_P (dC, dI) vwCl (zput ws is w1) H1 → va_D A0 (zput ws is w1) → va_S A0 H0 H1 locs1 → W p l e R s m args below meth c H1 locs1 (cells + mc) (slots + ms) Q (F0 m (pc + 3) ls rest)) : W p l e R s m args below meth c H locs cells slots Q (F0 m pc ls st0) := by
  have hFc : ∀ q, va_A wc H.size q → A0 q := va_free hD hS hA is hC
  refine va_callv (A1 := va_A wc H.size) (post := fun (_ : Unit) => True) (B := fun _ t => va_P (dC, dI) vwCl w1 t.heap ∧ va_D (va_A wc H.size) w1) (a := a) (mc := mc) (ms := ms) (free := va_A wc H.size) (rest := rest) ?_ hS (fun q _ h => hFc q h) hFc (fun u t H1 locs1 ht hvm hw hB hz1 hk1 hS1 => ?_)
  · intro T hT X
    obtain ⟨vv, st₀, t, T', L, h0, X', hL, e1, e2, ⟨hv, hB, hF⟩, st⟩ := hr T hT X
    exact ⟨vv, st₀, t, T', L, h0, X', hL, e1, e2, ⟨⟨(), hv, trivial, hB⟩, hF⟩, st⟩
  · obtain ⟨hP1, hD1⟩ := hB
    rw [ht] at hP1
    obtain ⟨hP2, hD2⟩ := zjoin hP hD hC hl hn hk1 hFc hP1 hD1
    exact kk H1 locs1 hP2 hD2 hS1
end CA
end ZL
