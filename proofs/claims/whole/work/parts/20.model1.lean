theorem yali_nl (uH xW xV xS uW uV uS : zI) (k : Nat) : narrow .boolean (.int (yali uH xW xV xS uW uV uS k)) = .int (yali uH xW xV xS uW uV uS k) := by unfold yali; split <;> rfl
set_option maxHeartbeats 4000000 in
set_option maxRecDepth 100000 in
/-- Model.thrown -/
theorem kX4_thrown (l : Launch) (dC : Nat → ClassId) (dI : Nat → Nat → Nat) (cI cZ cH cJ : ClassId) (ma : Nat → Nat) (now : Int32) (th : Int32) : Met l yX4_thrown wsX4_thrown ({ frames := 0, cells := 0, slots := 0, locals := 0 }) (zRc dC dI (zTy cI cZ cH cJ) [.ref (ma 0)] ([(ma 0, .inr (4, [.int now, .ref (ma 1), .ref (ma 2), .ref (ma 3), .ref (ma 4), .ref (ma 5), .ref (ma 6), .ref (ma 7), .ref (ma 8), .ref (ma 9), .ref (ma 10), .ref (ma 11), .ref (ma 12), .ref (ma 13), .ref (ma 14), .ref (ma 15), .ref (ma 16), .ref (ma 17), .ref (ma 18), .ref (ma 19), .ref (ma 20), .int th]))])) (zSi th) 0 0 (fun _ => False) := by
  refine Met.ofW (cc := cX4_thrown) (maxL := 1) (ret := (some .int)) (by decide) rfl ?_
  intro p e s m args below meth c s₁ B hml hv0
  obtain ⟨rfl, hP, hK⟩ := hv0
  have hx := B.exec
  have hb := B.bytes
  have hr := B.returns
  have hts := atoms_spec (ws := wsX4_thrown) B.pre
  have hown : s.vm.findClass RX4 = some m.cls := findClass_of_methodNamed B.named
  have hlocks := B.notSynchronized
  have hl := lv_entry ([.ref (ma 0)]) (n := 1) (Nat.le_of_ble_eq_true rfl)
  rw [lg_entry_eq]
  generalize (lg_sl ([.ref (ma 0)]) ++ List.replicate (1 - (lg_sl ([.ref (ma 0)])).length) Slot.unset).toArray = ls at hl ⊢
  have hl : lv_has ls 1 [(0, .ref (ma 0))] := hl
  have hiX4 : ∀ w ∈ wsX40, w ∈ wsX4_thrown := by decide +kernel
  have l71 := hts (.fieldLink RX4 71 "CatalogueHarvesterModel" "thrown" "I") (by decide +kernel)
  refine lv_aload_n hx hb dX4_thrown_0 rfl (lv_at hl 0 rfl) ?_
  refine va_get (D := (dC, dI)) (ci := 4) (v := .int th) (C := RX4) (T := TX4) (N := 22) hx hb hts hiX4 hown hK hP 0 rfl rfl 21 (by decide) l71 (fun _ h9 => h9) rfl dX4_thrown_1 ?_
  exact W.iret hx hb hr (fun t ht hW => ⟨rfl, ht⟩) (fun _ h => nomatch h) dX4_thrown_4
set_option maxHeartbeats 4000000 in
set_option maxRecDepth 100000 in
/-- Model.goes -/
theorem kX4_goes (l : Launch) (dC : Nat → ClassId) (dI : Nat → Nat → Nat) (cI cZ cH cJ : ClassId) (ma : Nat → Nat) (now : Int32) (th : Int32) (w : Int32) (sz : Nat) : Met l yX4_goes wsX4_goes ({ frames := 0, cells := 0, slots := 0, locals := 0 }) (zPc dC dI (zTy cI cZ cH cJ) [.ref (ma 0), .int w] sz ([(ma 0, .inr (4, [.int now, .ref (ma 1), .ref (ma 2), .ref (ma 3), .ref (ma 4), .ref (ma 5), .ref (ma 6), .ref (ma 7), .ref (ma 8), .ref (ma 9), .ref (ma 10), .ref (ma 11), .ref (ma 12), .ref (ma 13), .ref (ma 14), .ref (ma 15), .ref (ma 16), .ref (ma 17), .ref (ma 18), .ref (ma 19), .ref (ma 20), .int th]))])) (zQi dC dI (if w = 0 then (1 : Int32) else 0) ([(ma 0, .inr (4, [.int now, .ref (ma 1), .ref (ma 2), .ref (ma 3), .ref (ma 4), .ref (ma 5), .ref (ma 6), .ref (ma 7), .ref (ma 8), .ref (ma 9), .ref (ma 10), .ref (ma 11), .ref (ma 12), .ref (ma 13), .ref (ma 14), .ref (ma 15), .ref (ma 16), .ref (ma 17), .ref (ma 18), .ref (ma 19), .ref (ma 20), .int w]))]) (va_A ([(ma 0, .inr (4, [.int now, .ref (ma 1), .ref (ma 2), .ref (ma 3), .ref (ma 4), .ref (ma 5), .ref (ma 6), .ref (ma 7), .ref (ma 8), .ref (ma 9), .ref (ma 10), .ref (ma 11), .ref (ma 12), .ref (ma 13), .ref (ma 14), .ref (ma 15), .ref (ma 16), .ref (ma 17), .ref (ma 18), .ref (ma 19), .ref (ma 20), .int th]))]) sz)) 0 0 (va_A ([(ma 0, .inr (4, [.int now, .ref (ma 1), .ref (ma 2), .ref (ma 3), .ref (ma 4), .ref (ma 5), .ref (ma 6), .ref (ma 7), .ref (ma 8), .ref (ma 9), .ref (ma 10), .ref (ma 11), .ref (ma 12), .ref (ma 13), .ref (ma 14), .ref (ma 15), .ref (ma 16), .ref (ma 17), .ref (ma 18), .ref (ma 19), .ref (ma 20), .int th]))]) sz) := by
  refine Met.ofW (cc := cX4_goes) (maxL := 2) (ret := (some .boolean)) (by decide) rfl ?_
  intro p e s m args below meth c s₁ B hml hv0
  obtain ⟨rfl, hsz, hP, hK, hD0⟩ := hv0
  have hx := B.exec
  have hb := B.bytes
  have hr := B.returns
  have hts := atoms_spec (ws := wsX4_goes) B.pre
  have hown : s.vm.findClass RX4 = some m.cls := findClass_of_methodNamed B.named
  have hlocks := B.notSynchronized
  subst hsz
  have hD := hD0.self (sz := s.heap.size)
  generalize hAe : va_A ([(ma 0, .inr (4, [.int now, .ref (ma 1), .ref (ma 2), .ref (ma 3), .ref (ma 4), .ref (ma 5), .ref (ma 6), .ref (ma 7), .ref (ma 8), .ref (ma 9), .ref (ma 10), .ref (ma 11), .ref (ma 12), .ref (ma 13), .ref (ma 14), .ref (ma 15), .ref (ma 16), .ref (ma 17), .ref (ma 18), .ref (ma 19), .ref (ma 20), .int th]))]) s.heap.size = A at hD ⊢
  have hA : ∀ q : Nat, s.heap.size ≤ q → A q := fun q h => by rw [← hAe]; exact Or.inr h
  have hS : va_S A s.heap s.heap [] := va_S.rf
  have hl := lv_entry ([.ref (ma 0), .int w]) (n := 2) (Nat.le_of_ble_eq_true rfl)
  rw [lg_entry_eq]
  generalize (lg_sl ([.ref (ma 0), .int w]) ++ List.replicate (2 - (lg_sl ([.ref (ma 0), .int w])).length) Slot.unset).toArray = ls at hl ⊢
  have hl : lv_has ls 2 [(0, .ref (ma 0)), (1, .int w)] := hl
  have hiX4 : ∀ w ∈ wsX40, w ∈ wsX4_goes := by decide +kernel
  have l71 := hts (.fieldLink RX4 71 "CatalogueHarvesterModel" "thrown" "I") (by decide +kernel)
  refine lv_aload_n hx hb dX4_goes_0 rfl (lv_at hl 0 rfl) ?_
  refine lv_iload_n hx hb dX4_goes_1 rfl (lv_at hl 1 rfl) ?_
  refine va_put (D := (dC, dI)) (ci := 4) (v := .int w) (ty := .int) (C := RX4) (T := TX4) (N := 22) hx hb hts hiX4 tyX4 tyX4_ok nmX4 hown hK hP hD hS 0 rfl rfl 21 (by decide) l71 (fun _ h9 => h9) rfl (by decide +kernel) (rfl) (rfl) (Nat.le_of_ble_eq_true rfl) dX4_goes_2 (fun H locs hP hD hS => ?_)
  have hP : va_P (dC, dI) vwCl ([(ma 0, .inr (4, [.int now, .ref (ma 1), .ref (ma 2), .ref (ma 3), .ref (ma 4), .ref (ma 5), .ref (ma 6), .ref (ma 7), .ref (ma 8), .ref (ma 9), .ref (ma 10), .ref (ma 11), .ref (ma 12), .ref (ma 13), .ref (ma 14), .ref (ma 15), .ref (ma 16), .ref (ma 17), .ref (ma 18), .ref (ma 19), .ref (ma 20), .int w]))]) H := hP
  have hD : va_D A ([(ma 0, .inr (4, [.int now, .ref (ma 1), .ref (ma 2), .ref (ma 3), .ref (ma 4), .ref (ma 5), .ref (ma 6), .ref (ma 7), .ref (ma 8), .ref (ma 9), .ref (ma 10), .ref (ma 11), .ref (ma 12), .ref (ma 13), .ref (ma 14), .ref (ma 15), .ref (ma 16), .ref (ma 17), .ref (ma 18), .ref (ma 19), .ref (ma 20), .int w]))]) := hD
  refine lv_iload_n hx hb dX4_goes_5 rfl (lv_at hl 1 rfl) ?_
  refine lv_if_ne (tgt := 13) hx hb dX4_goes_6 (by decide) (fun c_6 => ?_) (fun c_6 => ?_)
  · skip
    refine lv_iconst (v := 0) hx hb dX4_goes_13 (by decide) ?_
    refine z_tv (v := if w = 0 then (1 : Int32) else 0) (by simp [c_6]) ?_
    exact W.zret (ty := .boolean) hx hb hr (z_nb _) (fun t ht hW => ⟨rfl, ⟨by rw [ht]; exact hP, hD⟩, hS.F ht⟩) hS.2.2 dX4_goes_14
  · skip
    refine lv_iconst (v := 1) hx hb dX4_goes_9 (by decide) ?_
    refine lv_goto (tgt := 14) hx hb dX4_goes_10 (by decide) ?_
    refine z_tv (v := if w = 0 then (1 : Int32) else 0) (by simp [c_6]) ?_
    exact W.zret (ty := .boolean) hx hb hr (z_nb _) (fun t ht hW => ⟨rfl, ⟨by rw [ht]; exact hP, hD⟩, hS.F ht⟩) hS.2.2 dX4_goes_14
set_option maxHeartbeats 4000000 in
set_option maxRecDepth 100000 in
theorem kX4_isIn (l : Launch) (v : Int32) (a : Int32) (b : Int32) : Met l yX4_isIn wsX4_isIn ({ frames := 0, cells := 0, slots := 0, locals := 0 }) (zSc [.int v, .int a, .int b]) (zSi (zin v a b)) 0 0 (fun _ => False) := by
  refine Met.ofW (cc := cX4_isIn) (maxL := 3) (ret := (some .boolean)) (by decide) rfl ?_
  intro p e s m args below meth c s₁ B hml hv0
  obtain ⟨rfl, -⟩ := hv0
  have hx := B.exec
  have hb := B.bytes
  have hr := B.returns
  have hts := atoms_spec (ws := wsX4_isIn) B.pre
  have hown : s.vm.findClass RX4 = some m.cls := findClass_of_methodNamed B.named
  have hlocks := B.notSynchronized
  have hl := lv_entry ([.int v, .int a, .int b]) (n := 3) (Nat.le_of_ble_eq_true rfl)
  rw [lg_entry_eq]
  generalize (lg_sl ([.int v, .int a, .int b]) ++ List.replicate (3 - (lg_sl ([.int v, .int a, .int b])).length) Slot.unset).toArray = ls at hl ⊢
  have hl : lv_has ls 3 [(0, .int v), (1, .int a), (2, .int b)] := hl
  refine lv_iload_n hx hb dX4_isIn_0 rfl (lv_at hl 0 rfl) ?_
  refine lv_iload_n hx hb dX4_isIn_1 rfl (lv_at hl 1 rfl) ?_
  refine lv_icmp_lt (tgt := 14) hx hb dX4_isIn_2 (by decide) (fun c_2 => ?_) (fun c_2 => ?_)
  · skip
    refine lv_iconst (v := 0) hx hb dX4_isIn_14 (by decide) ?_
    refine z_tv (v := zin v a b) (by unfold zin; grind) ?_
    exact W.zret (ty := .boolean) hx hb hr (zin_nl _ _ _) (fun t ht hW => ⟨rfl, ht⟩) (fun _ h => nomatch h) dX4_isIn_15
  · skip
    refine lv_iload_n hx hb dX4_isIn_5 rfl (lv_at hl 0 rfl) ?_
    refine lv_iload_n hx hb dX4_isIn_6 rfl (lv_at hl 2 rfl) ?_
    refine lv_icmp_gt (tgt := 14) hx hb dX4_isIn_7 (by decide) (fun c_7 => ?_) (fun c_7 => ?_)
    · skip
      refine lv_iconst (v := 0) hx hb dX4_isIn_14 (by decide) ?_
      refine z_tv (v := zin v a b) (by unfold zin; grind) ?_
      exact W.zret (ty := .boolean) hx hb hr (zin_nl _ _ _) (fun t ht hW => ⟨rfl, ht⟩) (fun _ h => nomatch h) dX4_isIn_15
    · skip
      refine lv_iconst (v := 1) hx hb dX4_isIn_10 (by decide) ?_
      refine lv_goto (tgt := 15) hx hb dX4_isIn_11 (by decide) ?_
      refine z_tv (v := zin v a b) (by unfold zin; grind) ?_
      exact W.zret (ty := .boolean) hx hb hr (zin_nl _ _ _) (fun t ht hW => ⟨rfl, ht⟩) (fun _ h => nomatch h) dX4_isIn_15
set_option maxHeartbeats 4000000 in
set_option maxRecDepth 100000 in
theorem kX4_isCatalogue (l : Launch) (v : Int32) : Met l yX4_isCatalogue wsX4_isCatalogue ({ frames := 1, cells := 0, slots := 0, locals := 22 }) (zSc [.int v]) (zSi (zin v 0 3)) 0 0 (fun _ => False) := by
  refine Met.ofW (cc := cX4_isCatalogue) (maxL := 1) (ret := (some .boolean)) (by decide) rfl ?_
  intro p e s m args below meth c s₁ B hml hv0
  obtain ⟨rfl, -⟩ := hv0
  have hx := B.exec
  have hb := B.bytes
  have hr := B.returns
  have hts := atoms_spec (ws := wsX4_isCatalogue) B.pre
  have hown : s.vm.findClass RX4 = some m.cls := findClass_of_methodNamed B.named
  have hlocks := B.notSynchronized
  have hl := lv_entry ([.int v]) (n := 1) (Nat.le_of_ble_eq_true rfl)
  rw [lg_entry_eq]
  generalize (lg_sl ([.int v]) ++ List.replicate (1 - (lg_sl ([.int v])).length) Slot.unset).toArray = ls at hl ⊢
  have hl : lv_has ls 1 [(0, .int v)] := hl
  refine lv_iload_n hx hb dX4_isCatalogue_0 rfl (lv_at hl 0 rfl) ?_
  refine lv_iconst (v := 0) hx hb dX4_isCatalogue_1 (by decide) ?_
  refine lv_iconst (v := 3) hx hb dX4_isCatalogue_2 (by decide) ?_
  refine z_cRi (va_runS (As := [.int v, .int 0, .int 3]) (rest := []) ⟨hx, hb, hml, hown, hts⟩ (kX4_isIn l v 0 3) (va_cwS 3 hts gX4_isCatalogue_X4_isIn rfl rfl rfl (by decide +kernel) ⟨Nat.le_of_ble_eq_true rfl, Nat.le_of_ble_eq_true rfl⟩) (zPre0) rfl rfl hl.1 rfl (lv_room (Nat.le_of_ble_eq_true rfl)) dX4_isCatalogue_3 ⟨Nat.le_of_ble_eq_true rfl, Nat.le_of_ble_eq_true rfl⟩) ?_
  refine z_tv (v := zin v 0 3) rfl ?_
  exact W.zret (ty := .boolean) hx hb hr (zin_nl _ _ _) (fun t ht hW => ⟨rfl, ht⟩) (fun _ h => nomatch h) dX4_isCatalogue_6
set_option maxHeartbeats 4000000 in
set_option maxRecDepth 100000 in
theorem kX4_isRecord (l : Launch) (v : Int32) : Met l yX4_isRecord wsX4_isRecord ({ frames := 1, cells := 0, slots := 0, locals := 22 }) (zSc [.int v]) (zSi (zin v 0 19)) 0 0 (fun _ => False) := by
  refine Met.ofW (cc := cX4_isRecord) (maxL := 1) (ret := (some .boolean)) (by decide) rfl ?_
  intro p e s m args below meth c s₁ B hml hv0
  obtain ⟨rfl, -⟩ := hv0
  have hx := B.exec
  have hb := B.bytes
  have hr := B.returns
  have hts := atoms_spec (ws := wsX4_isRecord) B.pre
  have hown : s.vm.findClass RX4 = some m.cls := findClass_of_methodNamed B.named
  have hlocks := B.notSynchronized
  have hl := lv_entry ([.int v]) (n := 1) (Nat.le_of_ble_eq_true rfl)
  rw [lg_entry_eq]
  generalize (lg_sl ([.int v]) ++ List.replicate (1 - (lg_sl ([.int v])).length) Slot.unset).toArray = ls at hl ⊢
  have hl : lv_has ls 1 [(0, .int v)] := hl
  refine lv_iload_n hx hb dX4_isRecord_0 rfl (lv_at hl 0 rfl) ?_
  refine lv_iconst (v := 0) hx hb dX4_isRecord_1 (by decide) ?_
  refine lv_bipush (v := 19) hx hb dX4_isRecord_2 (by decide) ?_
  refine z_cRi (va_runS (As := [.int v, .int 0, .int 19]) (rest := []) ⟨hx, hb, hml, hown, hts⟩ (kX4_isIn l v 0 19) (va_cwS 3 hts gX4_isRecord_X4_isIn rfl rfl rfl (by decide +kernel) ⟨Nat.le_of_ble_eq_true rfl, Nat.le_of_ble_eq_true rfl⟩) (zPre0) rfl rfl hl.1 rfl (lv_room (Nat.le_of_ble_eq_true rfl)) dX4_isRecord_4 ⟨Nat.le_of_ble_eq_true rfl, Nat.le_of_ble_eq_true rfl⟩) ?_
  refine z_tv (v := zin v 0 19) rfl ?_
  exact W.zret (ty := .boolean) hx hb hr (zin_nl _ _ _) (fun t ht hW => ⟨rfl, ht⟩) (fun _ h => nomatch h) dX4_isRecord_7
set_option maxHeartbeats 4000000 in
set_option maxRecDepth 100000 in
theorem kX4_isWork (l : Launch) (v : Int32) : Met l yX4_isWork wsX4_isWork ({ frames := 1, cells := 0, slots := 0, locals := 22 }) (zSc [.int v]) (zSi (zin v 0 9)) 0 0 (fun _ => False) := by
  refine Met.ofW (cc := cX4_isWork) (maxL := 1) (ret := (some .boolean)) (by decide) rfl ?_
  intro p e s m args below meth c s₁ B hml hv0
  obtain ⟨rfl, -⟩ := hv0
  have hx := B.exec
  have hb := B.bytes
  have hr := B.returns
  have hts := atoms_spec (ws := wsX4_isWork) B.pre
  have hown : s.vm.findClass RX4 = some m.cls := findClass_of_methodNamed B.named
  have hlocks := B.notSynchronized
  have hl := lv_entry ([.int v]) (n := 1) (Nat.le_of_ble_eq_true rfl)
  rw [lg_entry_eq]
  generalize (lg_sl ([.int v]) ++ List.replicate (1 - (lg_sl ([.int v])).length) Slot.unset).toArray = ls at hl ⊢
  have hl : lv_has ls 1 [(0, .int v)] := hl
  refine lv_iload_n hx hb dX4_isWork_0 rfl (lv_at hl 0 rfl) ?_
  refine lv_iconst (v := 0) hx hb dX4_isWork_1 (by decide) ?_
  refine lv_bipush (v := 9) hx hb dX4_isWork_2 (by decide) ?_
  refine z_cRi (va_runS (As := [.int v, .int 0, .int 9]) (rest := []) ⟨hx, hb, hml, hown, hts⟩ (kX4_isIn l v 0 9) (va_cwS 3 hts gX4_isWork_X4_isIn rfl rfl rfl (by decide +kernel) ⟨Nat.le_of_ble_eq_true rfl, Nat.le_of_ble_eq_true rfl⟩) (zPre0) rfl rfl hl.1 rfl (lv_room (Nat.le_of_ble_eq_true rfl)) dX4_isWork_4 ⟨Nat.le_of_ble_eq_true rfl, Nat.le_of_ble_eq_true rfl⟩) ?_
  refine z_tv (v := zin v 0 9) rfl ?_
  exact W.zret (ty := .boolean) hx hb hr (zin_nl _ _ _) (fun t ht hW => ⟨rfl, ht⟩) (fun _ h => nomatch h) dX4_isWork_7
set_option maxHeartbeats 4000000 in
set_option maxRecDepth 100000 in
/-- Model.stamp -/
theorem kX4_stamp (l : Launch) (dC : Nat → ClassId) (dI : Nat → Nat → Nat) (cI cZ cH cJ : ClassId) (ma : Nat → Nat) (now : Int32) (th : Int32) (uU : zI) (ca : Nat) (hca : ca < 4) (day : Int32) (hun : ¬ uU ca = 0) : Met l yX4_stamp wsX4_stamp ({ frames := 0, cells := 0, slots := 0, locals := 0 }) (zRc dC dI (zTy cI cZ cH cJ) [.ref (ma 0), .int (nI ca), .int day] ([(ma 0, .inr (4, [.int now, .ref (ma 1), .ref (ma 2), .ref (ma 3), .ref (ma 4), .ref (ma 5), .ref (ma 6), .ref (ma 7), .ref (ma 8), .ref (ma 9), .ref (ma 10), .ref (ma 11), .ref (ma 12), .ref (ma 13), .ref (ma 14), .ref (ma 15), .ref (ma 16), .ref (ma 17), .ref (ma 18), .ref (ma 19), .ref (ma 20), .int th])), (ma 1, .inl (cI, 4, .inl uU))])) (zSi (yst (uU ca) day)) 0 0 (fun _ => False) := by
  refine Met.ofW (cc := cX4_stamp) (maxL := 3) (ret := (some .int)) (by decide) rfl ?_
  intro p e s m args below meth c s₁ B hml hv0
  obtain ⟨rfl, hP, hK⟩ := hv0
  have hx := B.exec
  have hb := B.bytes
  have hr := B.returns
  have hts := atoms_spec (ws := wsX4_stamp) B.pre
  have hown : s.vm.findClass RX4 = some m.cls := findClass_of_methodNamed B.named
  have hlocks := B.notSynchronized
  have hl := lv_entry ([.ref (ma 0), .int (nI ca), .int day]) (n := 3) (Nat.le_of_ble_eq_true rfl)
  rw [lg_entry_eq]
  generalize (lg_sl ([.ref (ma 0), .int (nI ca), .int day]) ++ List.replicate (3 - (lg_sl ([.ref (ma 0), .int (nI ca), .int day])).length) Slot.unset).toArray = ls at hl ⊢
  have hl : lv_has ls 3 [(0, .ref (ma 0)), (1, .int (nI ca)), (2, .int day)] := hl
  have hiX4 : ∀ w ∈ wsX40, w ∈ wsX4_stamp := by decide +kernel
  have l7 := hts (.fieldLink RX4 7 "CatalogueHarvesterModel" "units" "[I") (by decide +kernel)
  refine lv_iload_n hx hb dX4_stamp_0 rfl (lv_at hl 2 rfl) ?_
  refine lv_iload_n hx hb dX4_stamp_1 rfl (lv_at hl 2 rfl) ?_
  refine lv_aload_n hx hb dX4_stamp_2 rfl (lv_at hl 0 rfl) ?_
  refine va_get (D := (dC, dI)) (ci := 4) (v := .ref (ma 1)) (C := RX4) (T := TX4) (N := 22) hx hb hts hiX4 hown hK hP 0 rfl rfl 1 (by decide) l7 (fun _ h9 => h9) rfl dX4_stamp_3 ?_
  refine lv_iload_n hx hb dX4_stamp_6 rfl (lv_at hl 1 rfl) ?_
  refine z_iald hx hb hK hP 1 rfl (zix_nI (by first | assumption | omega) (by decide)) dX4_stamp_7 ?_
  refine z_tv (v := uU ca) (rfl) ?_
  refine lv_irem hx hb dX4_stamp_8 (hun) ?_
  refine lv_isub hx hb dX4_stamp_9 ?_
  refine z_tv (v := yst (uU ca) day) (rfl) ?_
  exact W.iret hx hb hr (fun t ht hW => ⟨rfl, ht⟩) (fun _ h => nomatch h) dX4_stamp_10
set_option maxHeartbeats 4000000 in
set_option maxRecDepth 100000 in
/-- Model.clears -/
theorem kX4_clears (l : Launch) (dC : Nat → ClassId) (dI : Nat → Nat → Nat) (cI cZ cH cJ : ClassId) (ma : Nat → Nat) (now : Int32) (th : Int32) (uY : zI) (uK : zI) (uR : zI) (ca : Nat) (hca : ca < 4) (sz : Nat) : Met l yX4_clears wsX4_clears ({ frames := 0, cells := 0, slots := 0, locals := 0 }) (zPc dC dI (zTy cI cZ cH cJ) [.ref (ma 0), .int (nI ca)] sz ([(ma 0, .inr (4, [.int now, .ref (ma 1), .ref (ma 2), .ref (ma 3), .ref (ma 4), .ref (ma 5), .ref (ma 6), .ref (ma 7), .ref (ma 8), .ref (ma 9), .ref (ma 10), .ref (ma 11), .ref (ma 12), .ref (ma 13), .ref (ma 14), .ref (ma 15), .ref (ma 16), .ref (ma 17), .ref (ma 18), .ref (ma 19), .ref (ma 20), .int th])), (ma 2, .inl (cI, 4, .inl uY)), (ma 3, .inl (cI, 80, .inl uK)), (ma 7, .inl (cI, 80, .inl uR))])) (zQv dC dI ([(ma 0, .inr (4, [.int now, .ref (ma 1), .ref (ma 2), .ref (ma 3), .ref (ma 4), .ref (ma 5), .ref (ma 6), .ref (ma 7), .ref (ma 8), .ref (ma 9), .ref (ma 10), .ref (ma 11), .ref (ma 12), .ref (ma 13), .ref (ma 14), .ref (ma 15), .ref (ma 16), .ref (ma 17), .ref (ma 18), .ref (ma 19), .ref (ma 20), .int th])), (ma 2, .inl (cI, 4, .inl uY)), (ma 3, .inl (cI, 80, .inl (yclr uK uR (uY ca) now (20 * ca) 20))), (ma 7, .inl (cI, 80, .inl uR))]) (va_A ([(ma 0, .inr (4, [.int now, .ref (ma 1), .ref (ma 2), .ref (ma 3), .ref (ma 4), .ref (ma 5), .ref (ma 6), .ref (ma 7), .ref (ma 8), .ref (ma 9), .ref (ma 10), .ref (ma 11), .ref (ma 12), .ref (ma 13), .ref (ma 14), .ref (ma 15), .ref (ma 16), .ref (ma 17), .ref (ma 18), .ref (ma 19), .ref (ma 20), .int th])), (ma 2, .inl (cI, 4, .inl uY)), (ma 3, .inl (cI, 80, .inl uK)), (ma 7, .inl (cI, 80, .inl uR))]) sz)) 0 0 (va_A ([(ma 0, .inr (4, [.int now, .ref (ma 1), .ref (ma 2), .ref (ma 3), .ref (ma 4), .ref (ma 5), .ref (ma 6), .ref (ma 7), .ref (ma 8), .ref (ma 9), .ref (ma 10), .ref (ma 11), .ref (ma 12), .ref (ma 13), .ref (ma 14), .ref (ma 15), .ref (ma 16), .ref (ma 17), .ref (ma 18), .ref (ma 19), .ref (ma 20), .int th])), (ma 2, .inl (cI, 4, .inl uY)), (ma 3, .inl (cI, 80, .inl uK)), (ma 7, .inl (cI, 80, .inl uR))]) sz) := by
  refine Met.ofW (cc := cX4_clears) (maxL := 4) (ret := none) (by decide) rfl ?_
  intro p e s m args below meth c s₁ B hml hv0
  obtain ⟨rfl, hsz, hP, hK, hD0⟩ := hv0
  have hx := B.exec
  have hb := B.bytes
  have hr := B.returns
  have hts := atoms_spec (ws := wsX4_clears) B.pre
  have hown : s.vm.findClass RX4 = some m.cls := findClass_of_methodNamed B.named
  have hlocks := B.notSynchronized
  subst hsz
  have hD := hD0.self (sz := s.heap.size)
  generalize hAe : va_A ([(ma 0, .inr (4, [.int now, .ref (ma 1), .ref (ma 2), .ref (ma 3), .ref (ma 4), .ref (ma 5), .ref (ma 6), .ref (ma 7), .ref (ma 8), .ref (ma 9), .ref (ma 10), .ref (ma 11), .ref (ma 12), .ref (ma 13), .ref (ma 14), .ref (ma 15), .ref (ma 16), .ref (ma 17), .ref (ma 18), .ref (ma 19), .ref (ma 20), .int th])), (ma 2, .inl (cI, 4, .inl uY)), (ma 3, .inl (cI, 80, .inl uK)), (ma 7, .inl (cI, 80, .inl uR))]) s.heap.size = A at hD ⊢
  have hA : ∀ q : Nat, s.heap.size ≤ q → A q := fun q h => by rw [← hAe]; exact Or.inr h
  have hS : va_S A s.heap s.heap [] := va_S.rf
  have hl := lv_entry ([.ref (ma 0), .int (nI ca)]) (n := 4) (Nat.le_of_ble_eq_true rfl)
  rw [lg_entry_eq]
  generalize (lg_sl ([.ref (ma 0), .int (nI ca)]) ++ List.replicate (4 - (lg_sl ([.ref (ma 0), .int (nI ca)])).length) Slot.unset).toArray = ls at hl ⊢
  have hl : lv_has ls 4 [(0, .ref (ma 0)), (1, .int (nI ca))] := hl
  have hiX4 : ∀ w ∈ wsX40, w ∈ wsX4_clears := by decide +kernel
  have l13 := hts (.fieldLink RX4 13 "CatalogueHarvesterModel" "ways" "[I") (by decide +kernel)
  have l16 := hts (.fieldLink RX4 16 "CatalogueHarvesterModel" "kinds" "[I") (by decide +kernel)
  have l28 := hts (.fieldLink RX4 28 "CatalogueHarvesterModel" "removedOn" "[I") (by decide +kernel)
  have l79 := hts (.fieldLink RX4 79 "CatalogueHarvesterModel" "today" "I") (by decide +kernel)
  refine lv_bipush (v := 20) hx hb dX4_clears_0 (by decide) ?_
  refine lv_iload_n hx hb dX4_clears_2 rfl (lv_at hl 1 rfl) ?_
  refine lv_imul hx hb dX4_clears_3 ?_
  refine z_tv (v := nI (20 * ca)) (pk_mul 20 ca) ?_
  refine lv_istore_n (lv' := [(2, .int (nI (20 * ca))), (0, .ref (ma 0)), (1, .int (nI ca))]) hx hb dX4_clears_4 rfl hl (by decide) rfl (fun ls hl => ?_)
  have LOOP1 : ∀ (n i : Nat), i ≤ 20 → 20 < i + n → ∀ (H : Heap) (locs : List Loc), va_P (dC, dI) vwCl ([(ma 0, .inr (4, [.int now, .ref (ma 1), .ref (ma 2), .ref (ma 3), .ref (ma 4), .ref (ma 5), .ref (ma 6), .ref (ma 7), .ref (ma 8), .ref (ma 9), .ref (ma 10), .ref (ma 11), .ref (ma 12), .ref (ma 13), .ref (ma 14), .ref (ma 15), .ref (ma 16), .ref (ma 17), .ref (ma 18), .ref (ma 19), .ref (ma 20), .int th])), (ma 2, .inl (cI, 4, .inl uY)), (ma 3, .inl (cI, 80, .inl (yclr uK uR (uY ca) now (20 * ca) i))), (ma 7, .inl (cI, 80, .inl uR))]) H → va_D A ([(ma 0, .inr (4, [.int now, .ref (ma 1), .ref (ma 2), .ref (ma 3), .ref (ma 4), .ref (ma 5), .ref (ma 6), .ref (ma 7), .ref (ma 8), .ref (ma 9), .ref (ma 10), .ref (ma 11), .ref (ma 12), .ref (ma 13), .ref (ma 14), .ref (ma 15), .ref (ma 16), .ref (ma 17), .ref (ma 18), .ref (ma 19), .ref (ma 20), .int th])), (ma 2, .inl (cI, 4, .inl uY)), (ma 3, .inl (cI, 80, .inl (yclr uK uR (uY ca) now (20 * ca) i))), (ma 7, .inl (cI, 80, .inl uR))]) → va_S A s.heap H locs → ∀ (ls : Array Slot), lv_has ls 4 [(0, .ref (ma 0)), (1, .int (nI ca)), (2, .int (nI (20 * ca + i)))] → W p l e (headSpec wsX4_clears ({ frames := 0, cells := 0, slots := 0, locals := 0 })).room s m ([.ref (ma 0), .int (nI ca)] : List Value).toArray below meth c H locs 0 0 (MQ below (zQv dC dI ([(ma 0, .inr (4, [.int now, .ref (ma 1), .ref (ma 2), .ref (ma 3), .ref (ma 4), .ref (ma 5), .ref (ma 6), .ref (ma 7), .ref (ma 8), .ref (ma 9), .ref (ma 10), .ref (ma 11), .ref (ma 12), .ref (ma 13), .ref (ma 14), .ref (ma 15), .ref (ma 16), .ref (ma 17), .ref (ma 18), .ref (ma 19), .ref (ma 20), .int th])), (ma 2, .inl (cI, 4, .inl uY)), (ma 3, .inl (cI, 80, .inl (yclr uK uR (uY ca) now (20 * ca) 20))), (ma 7, .inl (cI, 80, .inl uR))]) A) ([.ref (ma 0), .int (nI ca)] : List Value).toArray s 0 0 A) (F0 m 5 ls []) := by
    intro n
    induction n with
    | zero => intro i h1 h2; exact absurd h2 (by omega)
    | succ n ih =>
      intro i hi hin  H locs hP hD hS ls hl
      refine lv_iload_n hx hb dX4_clears_5 rfl (lv_at hl 2 rfl) ?_
      refine lv_bipush (v := 20) hx hb dX4_clears_6 (by decide) ?_
      refine lv_iload_n hx hb dX4_clears_8 rfl (lv_at hl 1 rfl) ?_
      refine lv_iconst (v := 1) hx hb dX4_clears_9 (by decide) ?_
      refine lv_iadd hx hb dX4_clears_10 ?_
      refine z_tv (v := nI (ca + 1)) (nI_1 ca) ?_
      refine lv_imul hx hb dX4_clears_11 ?_
      refine z_tv (v := nI (20 * (ca + 1))) (pk_mul 20 (ca + 1)) ?_
      refine lv_icmp_ge (tgt := 93) hx hb dX4_clears_12 (by decide) (fun c_12 => ?_) (fun c_12 => ?_)
      · skip
        have e20 : i = 20 := z_ge20 hi hca c_12
        subst e20
        exact W.vret hx hb hr (fun t ht hW => ⟨rfl, ⟨by rw [ht]; exact hP, hD⟩, hS.F ht⟩) hS.2.2 dX4_clears_93
      · skip
        have hlt : i < 20 := z_lt20 hi hca c_12
        have J56_2 : ∀ (ls : Array Slot), lv_has ls 4 [(0, .ref (ma 0)), (1, .int (nI ca)), (2, .int (nI (20 * ca + i)))] → W p l e (headSpec wsX4_clears ({ frames := 0, cells := 0, slots := 0, locals := 0 })).room s m ([.ref (ma 0), .int (nI ca)] : List Value).toArray below meth c H locs 0 0 (MQ below (zQv dC dI ([(ma 0, .inr (4, [.int now, .ref (ma 1), .ref (ma 2), .ref (ma 3), .ref (ma 4), .ref (ma 5), .ref (ma 6), .ref (ma 7), .ref (ma 8), .ref (ma 9), .ref (ma 10), .ref (ma 11), .ref (ma 12), .ref (ma 13), .ref (ma 14), .ref (ma 15), .ref (ma 16), .ref (ma 17), .ref (ma 18), .ref (ma 19), .ref (ma 20), .int th])), (ma 2, .inl (cI, 4, .inl uY)), (ma 3, .inl (cI, 80, .inl (yclr uK uR (uY ca) now (20 * ca) 20))), (ma 7, .inl (cI, 80, .inl uR))]) A) ([.ref (ma 0), .int (nI ca)] : List Value).toArray s 0 0 A) (F0 m 56 ls [.int (if uY ca = 2 ∨ (uY ca = 1 ∧ ¬ now - uR (20 * ca + i) < 10) then (1 : Int32) else 0)]) := by
          intro ls hl
          refine lv_istore_n (lv' := [(3, .int (if uY ca = 2 ∨ (uY ca = 1 ∧ ¬ now - uR (20 * ca + i) < 10) then (1 : Int32) else 0)), (0, .ref (ma 0)), (1, .int (nI ca)), (2, .int (nI (20 * ca + i)))]) hx hb dX4_clears_56 rfl hl (by decide) rfl (fun ls hl => ?_)
          refine lv_aload_n hx hb dX4_clears_57 rfl (lv_at hl 1 rfl) ?_
          refine va_get (D := (dC, dI)) (ci := 4) (v := .ref (ma 3)) (C := RX4) (T := TX4) (N := 22) hx hb hts hiX4 hown hK hP 0 rfl rfl 3 (by decide) l16 (fun _ h9 => h9) rfl dX4_clears_58 ?_
          refine lv_iload_n hx hb dX4_clears_61 rfl (lv_at hl 3 rfl) ?_
          have J86_3 : ∀ (ls : Array Slot), lv_has ls 4 [(3, .int (if uY ca = 2 ∨ (uY ca = 1 ∧ ¬ now - uR (20 * ca + i) < 10) then (1 : Int32) else 0)), (0, .ref (ma 0)), (1, .int (nI ca)), (2, .int (nI (20 * ca + i)))] → W p l e (headSpec wsX4_clears ({ frames := 0, cells := 0, slots := 0, locals := 0 })).room s m ([.ref (ma 0), .int (nI ca)] : List Value).toArray below meth c H locs 0 0 (MQ below (zQv dC dI ([(ma 0, .inr (4, [.int now, .ref (ma 1), .ref (ma 2), .ref (ma 3), .ref (ma 4), .ref (ma 5), .ref (ma 6), .ref (ma 7), .ref (ma 8), .ref (ma 9), .ref (ma 10), .ref (ma 11), .ref (ma 12), .ref (ma 13), .ref (ma 14), .ref (ma 15), .ref (ma 16), .ref (ma 17), .ref (ma 18), .ref (ma 19), .ref (ma 20), .int th])), (ma 2, .inl (cI, 4, .inl uY)), (ma 3, .inl (cI, 80, .inl (yclr uK uR (uY ca) now (20 * ca) 20))), (ma 7, .inl (cI, 80, .inl uR))]) A) ([.ref (ma 0), .int (nI ca)] : List Value).toArray s 0 0 A) (F0 m 86 ls [.int (if uK (20 * ca + i) = 2 ∧ (uY ca = 2 ∨ (uY ca = 1 ∧ ¬ now - uR (20 * ca + i) < 10)) then 0 else uK (20 * ca + i)), .int (nI (20 * ca + i)), .ref (ma 3)]) := by
            intro ls hl
            refine z_iast hx hb hK hP hD hS 2 rfl (zix_nI (by first | assumption | omega) (by decide)) dX4_clears_86 (fun H locs hP hD hS => ?_)
            have hP : va_P (dC, dI) vwCl ([(ma 0, .inr (4, [.int now, .ref (ma 1), .ref (ma 2), .ref (ma 3), .ref (ma 4), .ref (ma 5), .ref (ma 6), .ref (ma 7), .ref (ma 8), .ref (ma 9), .ref (ma 10), .ref (ma 11), .ref (ma 12), .ref (ma 13), .ref (ma 14), .ref (ma 15), .ref (ma 16), .ref (ma 17), .ref (ma 18), .ref (ma 19), .ref (ma 20), .int th])), (ma 2, .inl (cI, 4, .inl uY)), (ma 3, .inl (cI, 80, .inl (upd (yclr uK uR (uY ca) now (20 * ca) i) (20 * ca + i) (if uK (20 * ca + i) = 2 ∧ (uY ca = 2 ∨ (uY ca = 1 ∧ ¬ now - uR (20 * ca + i) < 10)) then 0 else uK (20 * ca + i))))), (ma 7, .inl (cI, 80, .inl uR))]) H := hP
            have hD : va_D A ([(ma 0, .inr (4, [.int now, .ref (ma 1), .ref (ma 2), .ref (ma 3), .ref (ma 4), .ref (ma 5), .ref (ma 6), .ref (ma 7), .ref (ma 8), .ref (ma 9), .ref (ma 10), .ref (ma 11), .ref (ma 12), .ref (ma 13), .ref (ma 14), .ref (ma 15), .ref (ma 16), .ref (ma 17), .ref (ma 18), .ref (ma 19), .ref (ma 20), .int th])), (ma 2, .inl (cI, 4, .inl uY)), (ma 3, .inl (cI, 80, .inl (upd (yclr uK uR (uY ca) now (20 * ca) i) (20 * ca + i) (if uK (20 * ca + i) = 2 ∧ (uY ca = 2 ∨ (uY ca = 1 ∧ ¬ now - uR (20 * ca + i) < 10)) then 0 else uK (20 * ca + i))))), (ma 7, .inl (cI, 80, .inl uR))]) := hD
            refine lv_iinc (v := nI (20 * ca + (i + 1))) (lv' := [(2, .int (nI (20 * ca + (i + 1)))), (3, .int (if uY ca = 2 ∨ (uY ca = 1 ∧ ¬ now - uR (20 * ca + i) < 10) then (1 : Int32) else 0)), (0, .ref (ma 0)), (1, .int (nI ca))]) hx hb dX4_clears_87 hl (k := 3) rfl (z_1) (by decide) rfl (fun ls hl => ?_)
            refine lv_goto (tgt := 5) hx hb dX4_clears_90 (by decide) ?_
            exact ih (i + 1) (by omega) (by omega)  _ _ (zP_eq hP (zw_k (zw_k (zw_a (yclr_s) (zw_k (rfl)))))) (zD_eq hD (zw_k (zw_k (zw_a (yclr_s) (zw_k (rfl)))))) hS _ (lv_sub hl [2, 3, 0] rfl)
          refine lv_aload_n hx hb dX4_clears_62 rfl (lv_at hl 1 rfl) ?_
          refine va_get (D := (dC, dI)) (ci := 4) (v := .ref (ma 3)) (C := RX4) (T := TX4) (N := 22) hx hb hts hiX4 hown hK hP 0 rfl rfl 3 (by decide) l16 (fun _ h9 => h9) rfl dX4_clears_63 ?_
          refine lv_iload_n hx hb dX4_clears_66 rfl (lv_at hl 3 rfl) ?_
          refine z_iald hx hb hK hP 2 rfl (zix_nI (by first | assumption | omega) (by decide)) dX4_clears_67 ?_
          refine z_tv (v := (yclr uK uR (uY ca) now (20 * ca) i) (20 * ca + i)) (rfl) ?_
          refine z_tv (v := uK (20 * ca + i)) (yclr_at) ?_
          refine lv_iconst (v := 2) hx hb dX4_clears_68 (by decide) ?_
          refine lv_icmp_ne (tgt := 80) hx hb dX4_clears_69 (by decide) (fun c_69 => ?_) (fun c_69 => ?_)
          · skip
            refine lv_aload_n hx hb dX4_clears_80 rfl (lv_at hl 1 rfl) ?_
            refine va_get (D := (dC, dI)) (ci := 4) (v := .ref (ma 3)) (C := RX4) (T := TX4) (N := 22) hx hb hts hiX4 hown hK hP 0 rfl rfl 3 (by decide) l16 (fun _ h9 => h9) rfl dX4_clears_81 ?_
            refine lv_iload_n hx hb dX4_clears_84 rfl (lv_at hl 3 rfl) ?_
            refine z_iald hx hb hK hP 2 rfl (zix_nI (by first | assumption | omega) (by decide)) dX4_clears_85 ?_
            refine z_tv (v := (yclr uK uR (uY ca) now (20 * ca) i) (20 * ca + i)) (rfl) ?_
            refine z_tv (v := uK (20 * ca + i)) (yclr_at) ?_
            refine z_tv (v := if uK (20 * ca + i) = 2 ∧ (uY ca = 2 ∨ (uY ca = 1 ∧ ¬ now - uR (20 * ca + i) < 10)) then 0 else uK (20 * ca + i)) (by grind) ?_
            exact J86_3 _ (lv_sub hl [0, 1, 2, 3] rfl)
          · skip
            refine lv_iload_n hx hb dX4_clears_72 rfl (lv_at hl 0 rfl) ?_
            refine lv_if_eq (tgt := 80) hx hb dX4_clears_73 (by decide) (fun c_73 => ?_) (fun c_73 => ?_)
            · skip
              refine lv_aload_n hx hb dX4_clears_80 rfl (lv_at hl 1 rfl) ?_
              refine va_get (D := (dC, dI)) (ci := 4) (v := .ref (ma 3)) (C := RX4) (T := TX4) (N := 22) hx hb hts hiX4 hown hK hP 0 rfl rfl 3 (by decide) l16 (fun _ h9 => h9) rfl dX4_clears_81 ?_
              refine lv_iload_n hx hb dX4_clears_84 rfl (lv_at hl 3 rfl) ?_
              refine z_iald hx hb hK hP 2 rfl (zix_nI (by first | assumption | omega) (by decide)) dX4_clears_85 ?_
              refine z_tv (v := (yclr uK uR (uY ca) now (20 * ca) i) (20 * ca + i)) (rfl) ?_
              refine z_tv (v := uK (20 * ca + i)) (yclr_at) ?_
              refine z_tv (v := if uK (20 * ca + i) = 2 ∧ (uY ca = 2 ∨ (uY ca = 1 ∧ ¬ now - uR (20 * ca + i) < 10)) then 0 else uK (20 * ca + i)) (by grind) ?_
              exact J86_3 _ (lv_sub hl [0, 1, 2, 3] rfl)
            · skip
              refine lv_iconst (v := 0) hx hb dX4_clears_76 (by decide) ?_
              refine lv_goto (tgt := 86) hx hb dX4_clears_77 (by decide) ?_
              refine z_tv (v := if uK (20 * ca + i) = 2 ∧ (uY ca = 2 ∨ (uY ca = 1 ∧ ¬ now - uR (20 * ca + i) < 10)) then 0 else uK (20 * ca + i)) (by grind) ?_
              exact J86_3 _ (lv_sub hl [0, 1, 2, 3] rfl)
        refine lv_aload_n hx hb dX4_clears_15 rfl (lv_at hl 0 rfl) ?_
        refine va_get (D := (dC, dI)) (ci := 4) (v := .ref (ma 2)) (C := RX4) (T := TX4) (N := 22) hx hb hts hiX4 hown hK hP 0 rfl rfl 2 (by decide) l13 (fun _ h9 => h9) rfl dX4_clears_16 ?_
        refine lv_iload_n hx hb dX4_clears_19 rfl (lv_at hl 1 rfl) ?_
        refine z_iald hx hb hK hP 1 rfl (zix_nI (by first | assumption | omega) (by decide)) dX4_clears_20 ?_
        refine z_tv (v := uY ca) (rfl) ?_
        refine lv_iconst (v := 2) hx hb dX4_clears_21 (by decide) ?_
        refine lv_icmp_eq (tgt := 51) hx hb dX4_clears_22 (by decide) (fun c_22 => ?_) (fun c_22 => ?_)
        · skip
          refine lv_iconst (v := 1) hx hb dX4_clears_51 (by decide) ?_
          refine lv_goto (tgt := 56) hx hb dX4_clears_52 (by decide) ?_
          refine z_tv (v := if uY ca = 2 ∨ (uY ca = 1 ∧ ¬ now - uR (20 * ca + i) < 10) then (1 : Int32) else 0) (by grind) ?_
          exact J56_2 _ (lv_sub hl [0, 1, 2] rfl)
        · skip
          refine lv_aload_n hx hb dX4_clears_25 rfl (lv_at hl 0 rfl) ?_
          refine va_get (D := (dC, dI)) (ci := 4) (v := .ref (ma 2)) (C := RX4) (T := TX4) (N := 22) hx hb hts hiX4 hown hK hP 0 rfl rfl 2 (by decide) l13 (fun _ h9 => h9) rfl dX4_clears_26 ?_
          refine lv_iload_n hx hb dX4_clears_29 rfl (lv_at hl 1 rfl) ?_
          refine z_iald hx hb hK hP 1 rfl (zix_nI (by first | assumption | omega) (by decide)) dX4_clears_30 ?_
          refine z_tv (v := uY ca) (rfl) ?_
          refine lv_iconst (v := 1) hx hb dX4_clears_31 (by decide) ?_
          refine lv_icmp_ne (tgt := 55) hx hb dX4_clears_32 (by decide) (fun c_32 => ?_) (fun c_32 => ?_)
          · skip
            refine lv_iconst (v := 0) hx hb dX4_clears_55 (by decide) ?_
            refine z_tv (v := if uY ca = 2 ∨ (uY ca = 1 ∧ ¬ now - uR (20 * ca + i) < 10) then (1 : Int32) else 0) (by grind) ?_
            exact J56_2 _ (lv_sub hl [0, 1, 2] rfl)
          · skip
            refine lv_aload_n hx hb dX4_clears_35 rfl (lv_at hl 0 rfl) ?_
            refine va_get (D := (dC, dI)) (ci := 4) (v := .int now) (C := RX4) (T := TX4) (N := 22) hx hb hts hiX4 hown hK hP 0 rfl rfl 0 (by decide) l79 (fun _ h9 => h9) rfl dX4_clears_36 ?_
            refine lv_aload_n hx hb dX4_clears_39 rfl (lv_at hl 0 rfl) ?_
            refine va_get (D := (dC, dI)) (ci := 4) (v := .ref (ma 7)) (C := RX4) (T := TX4) (N := 22) hx hb hts hiX4 hown hK hP 0 rfl rfl 7 (by decide) l28 (fun _ h9 => h9) rfl dX4_clears_40 ?_
            refine lv_iload_n hx hb dX4_clears_43 rfl (lv_at hl 2 rfl) ?_
            refine z_iald hx hb hK hP 3 rfl (zix_nI (by first | assumption | omega) (by decide)) dX4_clears_44 ?_
            refine z_tv (v := uR (20 * ca + i)) (rfl) ?_
            refine lv_isub hx hb dX4_clears_45 ?_
            refine lv_bipush (v := 10) hx hb dX4_clears_46 (by decide) ?_
            refine lv_icmp_lt (tgt := 55) hx hb dX4_clears_48 (by decide) (fun c_48 => ?_) (fun c_48 => ?_)
            · skip
              refine lv_iconst (v := 0) hx hb dX4_clears_55 (by decide) ?_
              refine z_tv (v := if uY ca = 2 ∨ (uY ca = 1 ∧ ¬ now - uR (20 * ca + i) < 10) then (1 : Int32) else 0) (by grind) ?_
              exact J56_2 _ (lv_sub hl [0, 1, 2] rfl)
            · skip
              refine lv_iconst (v := 1) hx hb dX4_clears_51 (by decide) ?_
              refine lv_goto (tgt := 56) hx hb dX4_clears_52 (by decide) ?_
              refine z_tv (v := if uY ca = 2 ∨ (uY ca = 1 ∧ ¬ now - uR (20 * ca + i) < 10) then (1 : Int32) else 0) (by grind) ?_
              exact J56_2 _ (lv_sub hl [0, 1, 2] rfl)
  exact LOOP1 (20 + 1) 0 (by omega) (by omega)  _ _ (zP_eq hP (zw_k (zw_k (zw_a (yclr_0) (zw_k (rfl)))))) (zD_eq hD (zw_k (zw_k (zw_a (yclr_0) (zw_k (rfl)))))) hS _ (lv_cg (lv_sub (l' := [(0, .ref (ma 0)), (1, .int (nI ca)), (2, .int (nI (20 * ca)))]) hl [1, 2, 0] rfl) (zl_k (zl_k (zl_c (rfl) (rfl)))))
set_option maxHeartbeats 4000000 in
set_option maxRecDepth 100000 in
/-- Model.count -/
theorem kX4_count (l : Launch) (dC : Nat → ClassId) (dI : Nat → Nat → Nat) (cI cZ cH cJ : ClassId) (ma : Nat → Nat) (now : Int32) (th : Int32) (uK : zI) (ca : Nat) (hca : ca < 4) (k : Int32) : Met l yX4_count wsX4_count ({ frames := 0, cells := 0, slots := 0, locals := 0 }) (zRc dC dI (zTy cI cZ cH cJ) [.ref (ma 0), .int (nI ca), .int k] ([(ma 0, .inr (4, [.int now, .ref (ma 1), .ref (ma 2), .ref (ma 3), .ref (ma 4), .ref (ma 5), .ref (ma 6), .ref (ma 7), .ref (ma 8), .ref (ma 9), .ref (ma 10), .ref (ma 11), .ref (ma 12), .ref (ma 13), .ref (ma 14), .ref (ma 15), .ref (ma 16), .ref (ma 17), .ref (ma 18), .ref (ma 19), .ref (ma 20), .int th])), (ma 3, .inl (cI, 80, .inl uK))])) (zSi (ycnt uK k (20 * ca) 20)) 0 0 (fun _ => False) := by
  refine Met.ofW (cc := cX4_count) (maxL := 5) (ret := (some .int)) (by decide) rfl ?_
  intro p e s m args below meth c s₁ B hml hv0
  obtain ⟨rfl, hP, hK⟩ := hv0
  have hx := B.exec
  have hb := B.bytes
  have hr := B.returns
  have hts := atoms_spec (ws := wsX4_count) B.pre
  have hown : s.vm.findClass RX4 = some m.cls := findClass_of_methodNamed B.named
  have hlocks := B.notSynchronized
  have hl := lv_entry ([.ref (ma 0), .int (nI ca), .int k]) (n := 5) (Nat.le_of_ble_eq_true rfl)
  rw [lg_entry_eq]
  generalize (lg_sl ([.ref (ma 0), .int (nI ca), .int k]) ++ List.replicate (5 - (lg_sl ([.ref (ma 0), .int (nI ca), .int k])).length) Slot.unset).toArray = ls at hl ⊢
  have hl : lv_has ls 5 [(0, .ref (ma 0)), (1, .int (nI ca)), (2, .int k)] := hl
  have hiX4 : ∀ w ∈ wsX40, w ∈ wsX4_count := by decide +kernel
  have l16 := hts (.fieldLink RX4 16 "CatalogueHarvesterModel" "kinds" "[I") (by decide +kernel)
  refine lv_iconst (v := 0) hx hb dX4_count_0 (by decide) ?_
  refine lv_istore_n (lv' := [(3, .int 0), (0, .ref (ma 0)), (1, .int (nI ca)), (2, .int k)]) hx hb dX4_count_1 rfl hl (by decide) rfl (fun ls hl => ?_)
  refine lv_bipush (v := 20) hx hb dX4_count_2 (by decide) ?_
  refine lv_iload_n hx hb dX4_count_4 rfl (lv_at hl 2 rfl) ?_
  refine lv_imul hx hb dX4_count_5 ?_
  refine z_tv (v := nI (20 * ca)) (pk_mul 20 ca) ?_
  refine lv_istore (lv' := [(4, .int (nI (20 * ca))), (3, .int 0), (0, .ref (ma 0)), (1, .int (nI ca)), (2, .int k)]) hx hb dX4_count_6 hl (by decide) rfl (fun ls hl => ?_)
  have LOOP1 : ∀ (n i : Nat), i ≤ 20 → 20 < i + n → ∀ (ls : Array Slot), lv_has ls 5 [(0, .ref (ma 0)), (1, .int (nI ca)), (2, .int k), (3, .int (ycnt uK k (20 * ca) i)), (4, .int (nI (20 * ca + i)))] → W p l e (headSpec wsX4_count ({ frames := 0, cells := 0, slots := 0, locals := 0 })).room s m ([.ref (ma 0), .int (nI ca), .int k] : List Value).toArray below meth c s.heap [] 0 0 (MQ below (zSi (ycnt uK k (20 * ca) 20)) ([.ref (ma 0), .int (nI ca), .int k] : List Value).toArray s 0 0 (fun _ => False)) (F0 m 8 ls []) := by
    intro n
    induction n with
    | zero => intro i h1 h2; exact absurd h2 (by omega)
    | succ n ih =>
      intro i hi hin   ls hl
      refine lv_iload hx hb dX4_count_8 (lv_at hl 4 rfl) ?_
      refine lv_bipush (v := 20) hx hb dX4_count_10 (by decide) ?_
      refine lv_iload_n hx hb dX4_count_12 rfl (lv_at hl 1 rfl) ?_
      refine lv_iconst (v := 1) hx hb dX4_count_13 (by decide) ?_
      refine lv_iadd hx hb dX4_count_14 ?_
      refine z_tv (v := nI (ca + 1)) (nI_1 ca) ?_
      refine lv_imul hx hb dX4_count_15 ?_
      refine z_tv (v := nI (20 * (ca + 1))) (pk_mul 20 (ca + 1)) ?_
      refine lv_icmp_ge (tgt := 44) hx hb dX4_count_16 (by decide) (fun c_16 => ?_) (fun c_16 => ?_)
      · skip
        have e20 : i = 20 := z_ge20 hi hca c_16
        subst e20
        refine lv_iload_n hx hb dX4_count_44 rfl (lv_at hl 3 rfl) ?_
        exact W.iret hx hb hr (fun t ht hW => ⟨rfl, ht⟩) (fun _ h => nomatch h) dX4_count_45
      · skip
        have hlt : i < 20 := z_lt20 hi hca c_16
        refine lv_iload_n hx hb dX4_count_19 rfl (lv_at hl 3 rfl) ?_
        have J36_2 : ∀ (ls : Array Slot), lv_has ls 5 [(0, .ref (ma 0)), (1, .int (nI ca)), (2, .int k), (3, .int (ycnt uK k (20 * ca) i)), (4, .int (nI (20 * ca + i)))] → W p l e (headSpec wsX4_count ({ frames := 0, cells := 0, slots := 0, locals := 0 })).room s m ([.ref (ma 0), .int (nI ca), .int k] : List Value).toArray below meth c s.heap [] 0 0 (MQ below (zSi (ycnt uK k (20 * ca) 20)) ([.ref (ma 0), .int (nI ca), .int k] : List Value).toArray s 0 0 (fun _ => False)) (F0 m 36 ls [.int (if uK (20 * ca + i) = k then (1 : Int32) else 0), .int (ycnt uK k (20 * ca) i)]) := by
          intro ls hl
          refine lv_iadd hx hb dX4_count_36 ?_
          refine lv_istore_n (lv' := [(3, .int ((ycnt uK k (20 * ca) i) + (if uK (20 * ca + i) = k then (1 : Int32) else 0))), (0, .ref (ma 0)), (1, .int (nI ca)), (2, .int k), (4, .int (nI (20 * ca + i)))]) hx hb dX4_count_37 rfl hl (by decide) rfl (fun ls hl => ?_)
          refine lv_iinc (v := nI (20 * ca + (i + 1))) (lv' := [(4, .int (nI (20 * ca + (i + 1)))), (3, .int ((ycnt uK k (20 * ca) i) + (if uK (20 * ca + i) = k then (1 : Int32) else 0))), (0, .ref (ma 0)), (1, .int (nI ca)), (2, .int k)]) hx hb dX4_count_38 hl (k := 4) rfl (z_1) (by decide) rfl (fun ls hl => ?_)
          refine lv_goto (tgt := 8) hx hb dX4_count_41 (by decide) ?_
          exact ih (i + 1) (by omega) (by omega)  _ (lv_cg (lv_sub (l' := [(0, .ref (ma 0)), (1, .int (nI ca)), (2, .int k), (3, .int ((ycnt uK k (20 * ca) i) + (if uK (20 * ca + i) = k then (1 : Int32) else 0))), (4, .int (nI (20 * ca + (i + 1))))]) hl [2, 3, 4, 1, 0] rfl) (zl_k (zl_k (zl_k (zl_c (rfl) (zl_k (rfl)))))))
        refine lv_aload_n hx hb dX4_count_20 rfl (lv_at hl 0 rfl) ?_
        refine va_get (D := (dC, dI)) (ci := 4) (v := .ref (ma 3)) (C := RX4) (T := TX4) (N := 22) hx hb hts hiX4 hown hK hP 0 rfl rfl 3 (by decide) l16 (fun _ h9 => h9) rfl dX4_count_21 ?_
        refine lv_iload hx hb dX4_count_24 (lv_at hl 4 rfl) ?_
        refine z_iald hx hb hK hP 1 rfl (zix_nI (by first | assumption | omega) (by decide)) dX4_count_26 ?_
        refine z_tv (v := uK (20 * ca + i)) (rfl) ?_
        refine lv_iload_n hx hb dX4_count_27 rfl (lv_at hl 2 rfl) ?_
        refine lv_icmp_ne (tgt := 35) hx hb dX4_count_28 (by decide) (fun c_28 => ?_) (fun c_28 => ?_)
        · skip
          refine lv_iconst (v := 0) hx hb dX4_count_35 (by decide) ?_
          refine z_tv (v := if uK (20 * ca + i) = k then (1 : Int32) else 0) (by simp [c_28]) ?_
          exact J36_2 _ (lv_sub hl [0, 1, 2, 3, 4] rfl)
        · skip
          refine lv_iconst (v := 1) hx hb dX4_count_31 (by decide) ?_
          refine lv_goto (tgt := 36) hx hb dX4_count_32 (by decide) ?_
          refine z_tv (v := if uK (20 * ca + i) = k then (1 : Int32) else 0) (by simp [c_28]) ?_
          exact J36_2 _ (lv_sub hl [0, 1, 2, 3, 4] rfl)
  exact LOOP1 (20 + 1) 0 (by omega) (by omega)  _ (lv_cg (lv_sub (l' := [(0, .ref (ma 0)), (1, .int (nI ca)), (2, .int k), (3, .int 0), (4, .int (nI (20 * ca)))]) hl [2, 3, 4, 1, 0] rfl) (zl_k (zl_k (zl_k (zl_c (rfl) (zl_c (rfl) (rfl)))))))
set_option maxHeartbeats 4000000 in
set_option maxRecDepth 100000 in
/-- Model.asks_ok -/
theorem kX4_asks_ok (l : Launch) (dC : Nat → ClassId) (dI : Nat → Nat → Nat) (cI cZ cH cJ : ClassId) (ma : Nat → Nat) (now : Int32) (th : Int32) (ca : Nat) (hca : ca < 4) (sz : Nat) : Met l yX4_asks wsX4_asks ({ frames := 2, cells := 0, slots := 0, locals := 42 }) (zPc dC dI (zTy cI cZ cH cJ) [.ref (ma 0), .int (nI ca)] sz ([(ma 0, .inr (4, [.int now, .ref (ma 1), .ref (ma 2), .ref (ma 3), .ref (ma 4), .ref (ma 5), .ref (ma 6), .ref (ma 7), .ref (ma 8), .ref (ma 9), .ref (ma 10), .ref (ma 11), .ref (ma 12), .ref (ma 13), .ref (ma 14), .ref (ma 15), .ref (ma 16), .ref (ma 17), .ref (ma 18), .ref (ma 19), .ref (ma 20), .int th]))])) (zQi dC dI 1 ([(ma 0, .inr (4, [.int now, .ref (ma 1), .ref (ma 2), .ref (ma 3), .ref (ma 4), .ref (ma 5), .ref (ma 6), .ref (ma 7), .ref (ma 8), .ref (ma 9), .ref (ma 10), .ref (ma 11), .ref (ma 12), .ref (ma 13), .ref (ma 14), .ref (ma 15), .ref (ma 16), .ref (ma 17), .ref (ma 18), .ref (ma 19), .ref (ma 20), .int 0]))]) (va_A ([(ma 0, .inr (4, [.int now, .ref (ma 1), .ref (ma 2), .ref (ma 3), .ref (ma 4), .ref (ma 5), .ref (ma 6), .ref (ma 7), .ref (ma 8), .ref (ma 9), .ref (ma 10), .ref (ma 11), .ref (ma 12), .ref (ma 13), .ref (ma 14), .ref (ma 15), .ref (ma 16), .ref (ma 17), .ref (ma 18), .ref (ma 19), .ref (ma 20), .int th]))]) sz)) 0 0 (va_A ([(ma 0, .inr (4, [.int now, .ref (ma 1), .ref (ma 2), .ref (ma 3), .ref (ma 4), .ref (ma 5), .ref (ma 6), .ref (ma 7), .ref (ma 8), .ref (ma 9), .ref (ma 10), .ref (ma 11), .ref (ma 12), .ref (ma 13), .ref (ma 14), .ref (ma 15), .ref (ma 16), .ref (ma 17), .ref (ma 18), .ref (ma 19), .ref (ma 20), .int th]))]) sz) := by
  refine Met.ofW (cc := cX4_asks) (maxL := 2) (ret := (some .boolean)) (by decide) rfl ?_
  intro p e s m args below meth c s₁ B hml hv0
  obtain ⟨rfl, hsz, hP, hK, hD0⟩ := hv0
  have hx := B.exec
  have hb := B.bytes
  have hr := B.returns
  have hts := atoms_spec (ws := wsX4_asks) B.pre
  have hown : s.vm.findClass RX4 = some m.cls := findClass_of_methodNamed B.named
  have hlocks := B.notSynchronized
  subst hsz
  have hD := hD0.self (sz := s.heap.size)
  generalize hAe : va_A ([(ma 0, .inr (4, [.int now, .ref (ma 1), .ref (ma 2), .ref (ma 3), .ref (ma 4), .ref (ma 5), .ref (ma 6), .ref (ma 7), .ref (ma 8), .ref (ma 9), .ref (ma 10), .ref (ma 11), .ref (ma 12), .ref (ma 13), .ref (ma 14), .ref (ma 15), .ref (ma 16), .ref (ma 17), .ref (ma 18), .ref (ma 19), .ref (ma 20), .int th]))]) s.heap.size = A at hD ⊢
  have hA : ∀ q : Nat, s.heap.size ≤ q → A q := fun q h => by rw [← hAe]; exact Or.inr h
  have hS : va_S A s.heap s.heap [] := va_S.rf
  have hl := lv_entry ([.ref (ma 0), .int (nI ca)]) (n := 2) (Nat.le_of_ble_eq_true rfl)
  rw [lg_entry_eq]
  generalize (lg_sl ([.ref (ma 0), .int (nI ca)]) ++ List.replicate (2 - (lg_sl ([.ref (ma 0), .int (nI ca)])).length) Slot.unset).toArray = ls at hl ⊢
  have hl : lv_has ls 2 [(0, .ref (ma 0)), (1, .int (nI ca))] := hl
  refine lv_aload_n hx hb dX4_asks_0 rfl (lv_at hl 0 rfl) ?_
  refine lv_iload_n hx hb dX4_asks_1 rfl (lv_at hl 1 rfl) ?_
  refine z_cRi (va_runS (As := [.int (nI ca)]) (rest := [.ref (ma 0)]) ⟨hx, hb, hml, hown, hts⟩ (kX4_isCatalogue l (nI ca)) (va_cwS 1 hts gX4_asks_X4_isCatalogue rfl rfl rfl (by decide +kernel) ⟨Nat.le_of_ble_eq_true rfl, Nat.le_of_ble_eq_true rfl⟩) (zPre0) rfl rfl hl.1 rfl (lv_room (Nat.le_of_ble_eq_true rfl)) dX4_asks_2 ⟨Nat.le_of_ble_eq_true rfl, Nat.le_of_ble_eq_true rfl⟩) ?_
  refine z_tv (v := 1) (zin_c _ hca) ?_
  refine lv_if_eq (tgt := 12) hx hb dX4_asks_5 (by decide) (fun c_5 => ?_) (fun c_5 => ?_)
  · exact absurd c_5 (by decide)
  · skip
    refine lv_iconst (v := 0) hx hb dX4_asks_8 (by decide) ?_
    refine lv_goto (tgt := 13) hx hb dX4_asks_9 (by decide) ?_
    refine z_cMi (is := [0]) (va_runV (As := [.int 0]) (rest := []) ⟨hx, hb, hml, hown, hts⟩ (kX4_goes l dC dI cI cZ cH cJ ma now th 0 s.heap.size) (cwV 1 hts gX4_asks_X4_goes rfl rfl rfl (by decide +kernel) ⟨Nat.le_of_ble_eq_true rfl, Nat.le_of_ble_eq_true rfl⟩) (zPreV (is := [0]) hK hP hD (by decide) rfl (va_recv hK hP (ci := 4) (q0 := 0) rfl rfl)) rfl rfl hl.1 rfl (lv_room (Nat.le_of_ble_eq_true rfl)) dX4_asks_13 ⟨Nat.le_of_ble_eq_true rfl, Nat.le_of_ble_eq_true rfl⟩) hP hD hS hA rfl (by decide) rfl (fun H locs hP hD hS => ?_)
    have hP : va_P (dC, dI) vwCl ([(ma 0, .inr (4, [.int now, .ref (ma 1), .ref (ma 2), .ref (ma 3), .ref (ma 4), .ref (ma 5), .ref (ma 6), .ref (ma 7), .ref (ma 8), .ref (ma 9), .ref (ma 10), .ref (ma 11), .ref (ma 12), .ref (ma 13), .ref (ma 14), .ref (ma 15), .ref (ma 16), .ref (ma 17), .ref (ma 18), .ref (ma 19), .ref (ma 20), .int 0]))]) H := hP
    have hD : va_D A ([(ma 0, .inr (4, [.int now, .ref (ma 1), .ref (ma 2), .ref (ma 3), .ref (ma 4), .ref (ma 5), .ref (ma 6), .ref (ma 7), .ref (ma 8), .ref (ma 9), .ref (ma 10), .ref (ma 11), .ref (ma 12), .ref (ma 13), .ref (ma 14), .ref (ma 15), .ref (ma 16), .ref (ma 17), .ref (ma 18), .ref (ma 19), .ref (ma 20), .int 0]))]) := hD
    refine z_tv (v := 1) (by decide) ?_
    exact W.zret (ty := .boolean) hx hb hr (rfl) (fun t ht hW => ⟨rfl, ⟨by rw [ht]; exact hP, hD⟩, hS.F ht⟩) hS.2.2 dX4_asks_16
set_option maxHeartbeats 4000000 in
set_option maxRecDepth 100000 in
/-- Model.asks_bad -/
theorem kX4_asks_bad (l : Launch) (dC : Nat → ClassId) (dI : Nat → Nat → Nat) (cI cZ cH cJ : ClassId) (ma : Nat → Nat) (now : Int32) (th : Int32) (v : Int32) (hv : ¬ zin v 0 3 = 1) (sz : Nat) : Met l yX4_asks wsX4_asks ({ frames := 2, cells := 0, slots := 0, locals := 42 }) (zPc dC dI (zTy cI cZ cH cJ) [.ref (ma 0), .int v] sz ([(ma 0, .inr (4, [.int now, .ref (ma 1), .ref (ma 2), .ref (ma 3), .ref (ma 4), .ref (ma 5), .ref (ma 6), .ref (ma 7), .ref (ma 8), .ref (ma 9), .ref (ma 10), .ref (ma 11), .ref (ma 12), .ref (ma 13), .ref (ma 14), .ref (ma 15), .ref (ma 16), .ref (ma 17), .ref (ma 18), .ref (ma 19), .ref (ma 20), .int th]))])) (zQi dC dI 0 ([(ma 0, .inr (4, [.int now, .ref (ma 1), .ref (ma 2), .ref (ma 3), .ref (ma 4), .ref (ma 5), .ref (ma 6), .ref (ma 7), .ref (ma 8), .ref (ma 9), .ref (ma 10), .ref (ma 11), .ref (ma 12), .ref (ma 13), .ref (ma 14), .ref (ma 15), .ref (ma 16), .ref (ma 17), .ref (ma 18), .ref (ma 19), .ref (ma 20), .int 1]))]) (va_A ([(ma 0, .inr (4, [.int now, .ref (ma 1), .ref (ma 2), .ref (ma 3), .ref (ma 4), .ref (ma 5), .ref (ma 6), .ref (ma 7), .ref (ma 8), .ref (ma 9), .ref (ma 10), .ref (ma 11), .ref (ma 12), .ref (ma 13), .ref (ma 14), .ref (ma 15), .ref (ma 16), .ref (ma 17), .ref (ma 18), .ref (ma 19), .ref (ma 20), .int th]))]) sz)) 0 0 (va_A ([(ma 0, .inr (4, [.int now, .ref (ma 1), .ref (ma 2), .ref (ma 3), .ref (ma 4), .ref (ma 5), .ref (ma 6), .ref (ma 7), .ref (ma 8), .ref (ma 9), .ref (ma 10), .ref (ma 11), .ref (ma 12), .ref (ma 13), .ref (ma 14), .ref (ma 15), .ref (ma 16), .ref (ma 17), .ref (ma 18), .ref (ma 19), .ref (ma 20), .int th]))]) sz) := by
  refine Met.ofW (cc := cX4_asks) (maxL := 2) (ret := (some .boolean)) (by decide) rfl ?_
  intro p e s m args below meth c s₁ B hml hv0
  obtain ⟨rfl, hsz, hP, hK, hD0⟩ := hv0
  have hx := B.exec
  have hb := B.bytes
  have hr := B.returns
  have hts := atoms_spec (ws := wsX4_asks) B.pre
  have hown : s.vm.findClass RX4 = some m.cls := findClass_of_methodNamed B.named
  have hlocks := B.notSynchronized
  subst hsz
  have hD := hD0.self (sz := s.heap.size)
  generalize hAe : va_A ([(ma 0, .inr (4, [.int now, .ref (ma 1), .ref (ma 2), .ref (ma 3), .ref (ma 4), .ref (ma 5), .ref (ma 6), .ref (ma 7), .ref (ma 8), .ref (ma 9), .ref (ma 10), .ref (ma 11), .ref (ma 12), .ref (ma 13), .ref (ma 14), .ref (ma 15), .ref (ma 16), .ref (ma 17), .ref (ma 18), .ref (ma 19), .ref (ma 20), .int th]))]) s.heap.size = A at hD ⊢
  have hA : ∀ q : Nat, s.heap.size ≤ q → A q := fun q h => by rw [← hAe]; exact Or.inr h
  have hS : va_S A s.heap s.heap [] := va_S.rf
  have hl := lv_entry ([.ref (ma 0), .int v]) (n := 2) (Nat.le_of_ble_eq_true rfl)
  rw [lg_entry_eq]
  generalize (lg_sl ([.ref (ma 0), .int v]) ++ List.replicate (2 - (lg_sl ([.ref (ma 0), .int v])).length) Slot.unset).toArray = ls at hl ⊢
  have hl : lv_has ls 2 [(0, .ref (ma 0)), (1, .int v)] := hl
  refine lv_aload_n hx hb dX4_asks_0 rfl (lv_at hl 0 rfl) ?_
  refine lv_iload_n hx hb dX4_asks_1 rfl (lv_at hl 1 rfl) ?_
  refine z_cRi (va_runS (As := [.int v]) (rest := [.ref (ma 0)]) ⟨hx, hb, hml, hown, hts⟩ (kX4_isCatalogue l v) (va_cwS 1 hts gX4_asks_X4_isCatalogue rfl rfl rfl (by decide +kernel) ⟨Nat.le_of_ble_eq_true rfl, Nat.le_of_ble_eq_true rfl⟩) (zPre0) rfl rfl hl.1 rfl (lv_room (Nat.le_of_ble_eq_true rfl)) dX4_asks_2 ⟨Nat.le_of_ble_eq_true rfl, Nat.le_of_ble_eq_true rfl⟩) ?_
  refine z_tv (v := zin v 0 3) rfl ?_
  refine lv_if_eq (tgt := 12) hx hb dX4_asks_5 (by decide) (fun c_5 => ?_) (fun c_5 => ?_)
  · skip
    refine lv_iconst (v := 1) hx hb dX4_asks_12 (by decide) ?_
    refine z_cMi (is := [0]) (va_runV (As := [.int 1]) (rest := []) ⟨hx, hb, hml, hown, hts⟩ (kX4_goes l dC dI cI cZ cH cJ ma now th 1 s.heap.size) (cwV 1 hts gX4_asks_X4_goes rfl rfl rfl (by decide +kernel) ⟨Nat.le_of_ble_eq_true rfl, Nat.le_of_ble_eq_true rfl⟩) (zPreV (is := [0]) hK hP hD (by decide) rfl (va_recv hK hP (ci := 4) (q0 := 0) rfl rfl)) rfl rfl hl.1 rfl (lv_room (Nat.le_of_ble_eq_true rfl)) dX4_asks_13 ⟨Nat.le_of_ble_eq_true rfl, Nat.le_of_ble_eq_true rfl⟩) hP hD hS hA rfl (by decide) rfl (fun H locs hP hD hS => ?_)
    have hP : va_P (dC, dI) vwCl ([(ma 0, .inr (4, [.int now, .ref (ma 1), .ref (ma 2), .ref (ma 3), .ref (ma 4), .ref (ma 5), .ref (ma 6), .ref (ma 7), .ref (ma 8), .ref (ma 9), .ref (ma 10), .ref (ma 11), .ref (ma 12), .ref (ma 13), .ref (ma 14), .ref (ma 15), .ref (ma 16), .ref (ma 17), .ref (ma 18), .ref (ma 19), .ref (ma 20), .int 1]))]) H := hP
    have hD : va_D A ([(ma 0, .inr (4, [.int now, .ref (ma 1), .ref (ma 2), .ref (ma 3), .ref (ma 4), .ref (ma 5), .ref (ma 6), .ref (ma 7), .ref (ma 8), .ref (ma 9), .ref (ma 10), .ref (ma 11), .ref (ma 12), .ref (ma 13), .ref (ma 14), .ref (ma 15), .ref (ma 16), .ref (ma 17), .ref (ma 18), .ref (ma 19), .ref (ma 20), .int 1]))]) := hD
    refine z_tv (v := 0) (by decide) ?_
    exact W.zret (ty := .boolean) hx hb hr (rfl) (fun t ht hW => ⟨rfl, ⟨by rw [ht]; exact hP, hD⟩, hS.F ht⟩) hS.2.2 dX4_asks_16
  · exact absurd c_5 (fun q => hv (zin_n1 q))
set_option maxHeartbeats 4000000 in
set_option maxRecDepth 100000 in
/-- Model.begins -/
theorem kX4_begins (l : Launch) (dC : Nat → ClassId) (dI : Nat → Nat → Nat) (cI cZ cH cJ : ClassId) (ma : Nat → Nat) (now : Int32) (th : Int32) (uE : zI) (uD : zI) (uP : zI) (uQ : zI) (uN : zI) (ca : Nat) (hca : ca < 4) (sz : Nat) : Met l yX4_begins wsX4_begins ({ frames := 0, cells := 0, slots := 0, locals := 0 }) (zPc dC dI (zTy cI cZ cH cJ) [.ref (ma 0), .int (nI ca)] sz ([(ma 0, .inr (4, [.int now, .ref (ma 1), .ref (ma 2), .ref (ma 3), .ref (ma 4), .ref (ma 5), .ref (ma 6), .ref (ma 7), .ref (ma 8), .ref (ma 9), .ref (ma 10), .ref (ma 11), .ref (ma 12), .ref (ma 13), .ref (ma 14), .ref (ma 15), .ref (ma 16), .ref (ma 17), .ref (ma 18), .ref (ma 19), .ref (ma 20), .int th])), (ma 12, .inl (cI, 4, .inl uE)), (ma 13, .inl (cI, 4, .inl uD)), (ma 14, .inl (cI, 4, .inl uP)), (ma 15, .inl (cI, 4, .inl uQ)), (ma 20, .inl (cZ, 80, .inl uN))])) (zQv dC dI ([(ma 0, .inr (4, [.int now, .ref (ma 1), .ref (ma 2), .ref (ma 3), .ref (ma 4), .ref (ma 5), .ref (ma 6), .ref (ma 7), .ref (ma 8), .ref (ma 9), .ref (ma 10), .ref (ma 11), .ref (ma 12), .ref (ma 13), .ref (ma 14), .ref (ma 15), .ref (ma 16), .ref (ma 17), .ref (ma 18), .ref (ma 19), .ref (ma 20), .int th])), (ma 12, .inl (cI, 4, .inl (upd uE ca now))), (ma 13, .inl (cI, 4, .inl (upd uD ca now))), (ma 14, .inl (cI, 4, .inl (upd uP ca (-1)))), (ma 15, .inl (cI, 4, .inl (upd uQ ca (-1)))), (ma 20, .inl (cZ, 80, .inl (ysee uN (20 * ca) 20)))]) (va_A ([(ma 0, .inr (4, [.int now, .ref (ma 1), .ref (ma 2), .ref (ma 3), .ref (ma 4), .ref (ma 5), .ref (ma 6), .ref (ma 7), .ref (ma 8), .ref (ma 9), .ref (ma 10), .ref (ma 11), .ref (ma 12), .ref (ma 13), .ref (ma 14), .ref (ma 15), .ref (ma 16), .ref (ma 17), .ref (ma 18), .ref (ma 19), .ref (ma 20), .int th])), (ma 12, .inl (cI, 4, .inl uE)), (ma 13, .inl (cI, 4, .inl uD)), (ma 14, .inl (cI, 4, .inl uP)), (ma 15, .inl (cI, 4, .inl uQ)), (ma 20, .inl (cZ, 80, .inl uN))]) sz)) 0 0 (va_A ([(ma 0, .inr (4, [.int now, .ref (ma 1), .ref (ma 2), .ref (ma 3), .ref (ma 4), .ref (ma 5), .ref (ma 6), .ref (ma 7), .ref (ma 8), .ref (ma 9), .ref (ma 10), .ref (ma 11), .ref (ma 12), .ref (ma 13), .ref (ma 14), .ref (ma 15), .ref (ma 16), .ref (ma 17), .ref (ma 18), .ref (ma 19), .ref (ma 20), .int th])), (ma 12, .inl (cI, 4, .inl uE)), (ma 13, .inl (cI, 4, .inl uD)), (ma 14, .inl (cI, 4, .inl uP)), (ma 15, .inl (cI, 4, .inl uQ)), (ma 20, .inl (cZ, 80, .inl uN))]) sz) := by
  refine Met.ofW (cc := cX4_begins) (maxL := 3) (ret := none) (by decide) rfl ?_
  intro p e s m args below meth c s₁ B hml hv0
  obtain ⟨rfl, hsz, hP, hK, hD0⟩ := hv0
  have hx := B.exec
  have hb := B.bytes
  have hr := B.returns
  have hts := atoms_spec (ws := wsX4_begins) B.pre
  have hown : s.vm.findClass RX4 = some m.cls := findClass_of_methodNamed B.named
  have hlocks := B.notSynchronized
  subst hsz
  have hD := hD0.self (sz := s.heap.size)
  generalize hAe : va_A ([(ma 0, .inr (4, [.int now, .ref (ma 1), .ref (ma 2), .ref (ma 3), .ref (ma 4), .ref (ma 5), .ref (ma 6), .ref (ma 7), .ref (ma 8), .ref (ma 9), .ref (ma 10), .ref (ma 11), .ref (ma 12), .ref (ma 13), .ref (ma 14), .ref (ma 15), .ref (ma 16), .ref (ma 17), .ref (ma 18), .ref (ma 19), .ref (ma 20), .int th])), (ma 12, .inl (cI, 4, .inl uE)), (ma 13, .inl (cI, 4, .inl uD)), (ma 14, .inl (cI, 4, .inl uP)), (ma 15, .inl (cI, 4, .inl uQ)), (ma 20, .inl (cZ, 80, .inl uN))]) s.heap.size = A at hD ⊢
  have hA : ∀ q : Nat, s.heap.size ≤ q → A q := fun q h => by rw [← hAe]; exact Or.inr h
  have hS : va_S A s.heap s.heap [] := va_S.rf
  have hl := lv_entry ([.ref (ma 0), .int (nI ca)]) (n := 3) (Nat.le_of_ble_eq_true rfl)
  rw [lg_entry_eq]
  generalize (lg_sl ([.ref (ma 0), .int (nI ca)]) ++ List.replicate (3 - (lg_sl ([.ref (ma 0), .int (nI ca)])).length) Slot.unset).toArray = ls at hl ⊢
  have hl : lv_has ls 3 [(0, .ref (ma 0)), (1, .int (nI ca))] := hl
  have hiX4 : ∀ w ∈ wsX40, w ∈ wsX4_begins := by decide +kernel
  have l44 := hts (.fieldLink RX4 44 "CatalogueHarvesterModel" "openedOn" "[I") (by decide +kernel)
  have l47 := hts (.fieldLink RX4 47 "CatalogueHarvesterModel" "readOn" "[I") (by decide +kernel)
  have l50 := hts (.fieldLink RX4 50 "CatalogueHarvesterModel" "placeStamps" "[I") (by decide +kernel)
  have l53 := hts (.fieldLink RX4 53 "CatalogueHarvesterModel" "placeRecords" "[I") (by decide +kernel)
  have l68 := hts (.fieldLink RX4 68 "CatalogueHarvesterModel" "wasSeen" "[Z") (by decide +kernel)
  have l79 := hts (.fieldLink RX4 79 "CatalogueHarvesterModel" "today" "I") (by decide +kernel)
  refine lv_aload_n hx hb dX4_begins_0 rfl (lv_at hl 0 rfl) ?_
  refine va_get (D := (dC, dI)) (ci := 4) (v := .ref (ma 12)) (C := RX4) (T := TX4) (N := 22) hx hb hts hiX4 hown hK hP 0 rfl rfl 12 (by decide) l44 (fun _ h9 => h9) rfl dX4_begins_1 ?_
  refine lv_iload_n hx hb dX4_begins_4 rfl (lv_at hl 1 rfl) ?_
  refine lv_aload_n hx hb dX4_begins_5 rfl (lv_at hl 0 rfl) ?_
  refine va_get (D := (dC, dI)) (ci := 4) (v := .int now) (C := RX4) (T := TX4) (N := 22) hx hb hts hiX4 hown hK hP 0 rfl rfl 0 (by decide) l79 (fun _ h9 => h9) rfl dX4_begins_6 ?_
  refine z_iast hx hb hK hP hD hS 1 rfl (zix_nI (by first | assumption | omega) (by decide)) dX4_begins_9 (fun H locs hP hD hS => ?_)
  have hP : va_P (dC, dI) vwCl ([(ma 0, .inr (4, [.int now, .ref (ma 1), .ref (ma 2), .ref (ma 3), .ref (ma 4), .ref (ma 5), .ref (ma 6), .ref (ma 7), .ref (ma 8), .ref (ma 9), .ref (ma 10), .ref (ma 11), .ref (ma 12), .ref (ma 13), .ref (ma 14), .ref (ma 15), .ref (ma 16), .ref (ma 17), .ref (ma 18), .ref (ma 19), .ref (ma 20), .int th])), (ma 12, .inl (cI, 4, .inl (upd uE ca now))), (ma 13, .inl (cI, 4, .inl uD)), (ma 14, .inl (cI, 4, .inl uP)), (ma 15, .inl (cI, 4, .inl uQ)), (ma 20, .inl (cZ, 80, .inl uN))]) H := hP
  have hD : va_D A ([(ma 0, .inr (4, [.int now, .ref (ma 1), .ref (ma 2), .ref (ma 3), .ref (ma 4), .ref (ma 5), .ref (ma 6), .ref (ma 7), .ref (ma 8), .ref (ma 9), .ref (ma 10), .ref (ma 11), .ref (ma 12), .ref (ma 13), .ref (ma 14), .ref (ma 15), .ref (ma 16), .ref (ma 17), .ref (ma 18), .ref (ma 19), .ref (ma 20), .int th])), (ma 12, .inl (cI, 4, .inl (upd uE ca now))), (ma 13, .inl (cI, 4, .inl uD)), (ma 14, .inl (cI, 4, .inl uP)), (ma 15, .inl (cI, 4, .inl uQ)), (ma 20, .inl (cZ, 80, .inl uN))]) := hD
  refine lv_aload_n hx hb dX4_begins_10 rfl (lv_at hl 0 rfl) ?_
  refine va_get (D := (dC, dI)) (ci := 4) (v := .ref (ma 13)) (C := RX4) (T := TX4) (N := 22) hx hb hts hiX4 hown hK hP 0 rfl rfl 13 (by decide) l47 (fun _ h9 => h9) rfl dX4_begins_11 ?_
  refine lv_iload_n hx hb dX4_begins_14 rfl (lv_at hl 1 rfl) ?_
  refine lv_aload_n hx hb dX4_begins_15 rfl (lv_at hl 0 rfl) ?_
  refine va_get (D := (dC, dI)) (ci := 4) (v := .int now) (C := RX4) (T := TX4) (N := 22) hx hb hts hiX4 hown hK hP 0 rfl rfl 0 (by decide) l79 (fun _ h9 => h9) rfl dX4_begins_16 ?_
  refine z_iast hx hb hK hP hD hS 2 rfl (zix_nI (by first | assumption | omega) (by decide)) dX4_begins_19 (fun H locs hP hD hS => ?_)
  have hP : va_P (dC, dI) vwCl ([(ma 0, .inr (4, [.int now, .ref (ma 1), .ref (ma 2), .ref (ma 3), .ref (ma 4), .ref (ma 5), .ref (ma 6), .ref (ma 7), .ref (ma 8), .ref (ma 9), .ref (ma 10), .ref (ma 11), .ref (ma 12), .ref (ma 13), .ref (ma 14), .ref (ma 15), .ref (ma 16), .ref (ma 17), .ref (ma 18), .ref (ma 19), .ref (ma 20), .int th])), (ma 12, .inl (cI, 4, .inl (upd uE ca now))), (ma 13, .inl (cI, 4, .inl (upd uD ca now))), (ma 14, .inl (cI, 4, .inl uP)), (ma 15, .inl (cI, 4, .inl uQ)), (ma 20, .inl (cZ, 80, .inl uN))]) H := hP
  have hD : va_D A ([(ma 0, .inr (4, [.int now, .ref (ma 1), .ref (ma 2), .ref (ma 3), .ref (ma 4), .ref (ma 5), .ref (ma 6), .ref (ma 7), .ref (ma 8), .ref (ma 9), .ref (ma 10), .ref (ma 11), .ref (ma 12), .ref (ma 13), .ref (ma 14), .ref (ma 15), .ref (ma 16), .ref (ma 17), .ref (ma 18), .ref (ma 19), .ref (ma 20), .int th])), (ma 12, .inl (cI, 4, .inl (upd uE ca now))), (ma 13, .inl (cI, 4, .inl (upd uD ca now))), (ma 14, .inl (cI, 4, .inl uP)), (ma 15, .inl (cI, 4, .inl uQ)), (ma 20, .inl (cZ, 80, .inl uN))]) := hD
  refine lv_aload_n hx hb dX4_begins_20 rfl (lv_at hl 0 rfl) ?_
  refine va_get (D := (dC, dI)) (ci := 4) (v := .ref (ma 14)) (C := RX4) (T := TX4) (N := 22) hx hb hts hiX4 hown hK hP 0 rfl rfl 14 (by decide) l50 (fun _ h9 => h9) rfl dX4_begins_21 ?_
  refine lv_iload_n hx hb dX4_begins_24 rfl (lv_at hl 1 rfl) ?_
  refine lv_iconst (v := (-1)) hx hb dX4_begins_25 (by decide) ?_
  refine z_iast hx hb hK hP hD hS 3 rfl (zix_nI (by first | assumption | omega) (by decide)) dX4_begins_26 (fun H locs hP hD hS => ?_)
  have hP : va_P (dC, dI) vwCl ([(ma 0, .inr (4, [.int now, .ref (ma 1), .ref (ma 2), .ref (ma 3), .ref (ma 4), .ref (ma 5), .ref (ma 6), .ref (ma 7), .ref (ma 8), .ref (ma 9), .ref (ma 10), .ref (ma 11), .ref (ma 12), .ref (ma 13), .ref (ma 14), .ref (ma 15), .ref (ma 16), .ref (ma 17), .ref (ma 18), .ref (ma 19), .ref (ma 20), .int th])), (ma 12, .inl (cI, 4, .inl (upd uE ca now))), (ma 13, .inl (cI, 4, .inl (upd uD ca now))), (ma 14, .inl (cI, 4, .inl (upd uP ca (-1)))), (ma 15, .inl (cI, 4, .inl uQ)), (ma 20, .inl (cZ, 80, .inl uN))]) H := hP
  have hD : va_D A ([(ma 0, .inr (4, [.int now, .ref (ma 1), .ref (ma 2), .ref (ma 3), .ref (ma 4), .ref (ma 5), .ref (ma 6), .ref (ma 7), .ref (ma 8), .ref (ma 9), .ref (ma 10), .ref (ma 11), .ref (ma 12), .ref (ma 13), .ref (ma 14), .ref (ma 15), .ref (ma 16), .ref (ma 17), .ref (ma 18), .ref (ma 19), .ref (ma 20), .int th])), (ma 12, .inl (cI, 4, .inl (upd uE ca now))), (ma 13, .inl (cI, 4, .inl (upd uD ca now))), (ma 14, .inl (cI, 4, .inl (upd uP ca (-1)))), (ma 15, .inl (cI, 4, .inl uQ)), (ma 20, .inl (cZ, 80, .inl uN))]) := hD
  refine lv_aload_n hx hb dX4_begins_27 rfl (lv_at hl 0 rfl) ?_
  refine va_get (D := (dC, dI)) (ci := 4) (v := .ref (ma 15)) (C := RX4) (T := TX4) (N := 22) hx hb hts hiX4 hown hK hP 0 rfl rfl 15 (by decide) l53 (fun _ h9 => h9) rfl dX4_begins_28 ?_
  refine lv_iload_n hx hb dX4_begins_31 rfl (lv_at hl 1 rfl) ?_
  refine lv_iconst (v := (-1)) hx hb dX4_begins_32 (by decide) ?_
  refine z_iast hx hb hK hP hD hS 4 rfl (zix_nI (by first | assumption | omega) (by decide)) dX4_begins_33 (fun H locs hP hD hS => ?_)
  have hP : va_P (dC, dI) vwCl ([(ma 0, .inr (4, [.int now, .ref (ma 1), .ref (ma 2), .ref (ma 3), .ref (ma 4), .ref (ma 5), .ref (ma 6), .ref (ma 7), .ref (ma 8), .ref (ma 9), .ref (ma 10), .ref (ma 11), .ref (ma 12), .ref (ma 13), .ref (ma 14), .ref (ma 15), .ref (ma 16), .ref (ma 17), .ref (ma 18), .ref (ma 19), .ref (ma 20), .int th])), (ma 12, .inl (cI, 4, .inl (upd uE ca now))), (ma 13, .inl (cI, 4, .inl (upd uD ca now))), (ma 14, .inl (cI, 4, .inl (upd uP ca (-1)))), (ma 15, .inl (cI, 4, .inl (upd uQ ca (-1)))), (ma 20, .inl (cZ, 80, .inl uN))]) H := hP
  have hD : va_D A ([(ma 0, .inr (4, [.int now, .ref (ma 1), .ref (ma 2), .ref (ma 3), .ref (ma 4), .ref (ma 5), .ref (ma 6), .ref (ma 7), .ref (ma 8), .ref (ma 9), .ref (ma 10), .ref (ma 11), .ref (ma 12), .ref (ma 13), .ref (ma 14), .ref (ma 15), .ref (ma 16), .ref (ma 17), .ref (ma 18), .ref (ma 19), .ref (ma 20), .int th])), (ma 12, .inl (cI, 4, .inl (upd uE ca now))), (ma 13, .inl (cI, 4, .inl (upd uD ca now))), (ma 14, .inl (cI, 4, .inl (upd uP ca (-1)))), (ma 15, .inl (cI, 4, .inl (upd uQ ca (-1)))), (ma 20, .inl (cZ, 80, .inl uN))]) := hD
  refine lv_bipush (v := 20) hx hb dX4_begins_34 (by decide) ?_
  refine lv_iload_n hx hb dX4_begins_36 rfl (lv_at hl 1 rfl) ?_
  refine lv_imul hx hb dX4_begins_37 ?_
  refine z_tv (v := nI (20 * ca)) (pk_mul 20 ca) ?_
  refine lv_istore_n (lv' := [(2, .int (nI (20 * ca))), (0, .ref (ma 0)), (1, .int (nI ca))]) hx hb dX4_begins_38 rfl hl (by decide) rfl (fun ls hl => ?_)
  have LOOP1 : ∀ (n i : Nat), i ≤ 20 → 20 < i + n → ∀ (H : Heap) (locs : List Loc), va_P (dC, dI) vwCl ([(ma 0, .inr (4, [.int now, .ref (ma 1), .ref (ma 2), .ref (ma 3), .ref (ma 4), .ref (ma 5), .ref (ma 6), .ref (ma 7), .ref (ma 8), .ref (ma 9), .ref (ma 10), .ref (ma 11), .ref (ma 12), .ref (ma 13), .ref (ma 14), .ref (ma 15), .ref (ma 16), .ref (ma 17), .ref (ma 18), .ref (ma 19), .ref (ma 20), .int th])), (ma 12, .inl (cI, 4, .inl (upd uE ca now))), (ma 13, .inl (cI, 4, .inl (upd uD ca now))), (ma 14, .inl (cI, 4, .inl (upd uP ca (-1)))), (ma 15, .inl (cI, 4, .inl (upd uQ ca (-1)))), (ma 20, .inl (cZ, 80, .inl (ysee uN (20 * ca) i)))]) H → va_D A ([(ma 0, .inr (4, [.int now, .ref (ma 1), .ref (ma 2), .ref (ma 3), .ref (ma 4), .ref (ma 5), .ref (ma 6), .ref (ma 7), .ref (ma 8), .ref (ma 9), .ref (ma 10), .ref (ma 11), .ref (ma 12), .ref (ma 13), .ref (ma 14), .ref (ma 15), .ref (ma 16), .ref (ma 17), .ref (ma 18), .ref (ma 19), .ref (ma 20), .int th])), (ma 12, .inl (cI, 4, .inl (upd uE ca now))), (ma 13, .inl (cI, 4, .inl (upd uD ca now))), (ma 14, .inl (cI, 4, .inl (upd uP ca (-1)))), (ma 15, .inl (cI, 4, .inl (upd uQ ca (-1)))), (ma 20, .inl (cZ, 80, .inl (ysee uN (20 * ca) i)))]) → va_S A s.heap H locs → ∀ (ls : Array Slot), lv_has ls 3 [(0, .ref (ma 0)), (1, .int (nI ca)), (2, .int (nI (20 * ca + i)))] → W p l e (headSpec wsX4_begins ({ frames := 0, cells := 0, slots := 0, locals := 0 })).room s m ([.ref (ma 0), .int (nI ca)] : List Value).toArray below meth c H locs 0 0 (MQ below (zQv dC dI ([(ma 0, .inr (4, [.int now, .ref (ma 1), .ref (ma 2), .ref (ma 3), .ref (ma 4), .ref (ma 5), .ref (ma 6), .ref (ma 7), .ref (ma 8), .ref (ma 9), .ref (ma 10), .ref (ma 11), .ref (ma 12), .ref (ma 13), .ref (ma 14), .ref (ma 15), .ref (ma 16), .ref (ma 17), .ref (ma 18), .ref (ma 19), .ref (ma 20), .int th])), (ma 12, .inl (cI, 4, .inl (upd uE ca now))), (ma 13, .inl (cI, 4, .inl (upd uD ca now))), (ma 14, .inl (cI, 4, .inl (upd uP ca (-1)))), (ma 15, .inl (cI, 4, .inl (upd uQ ca (-1)))), (ma 20, .inl (cZ, 80, .inl (ysee uN (20 * ca) 20)))]) A) ([.ref (ma 0), .int (nI ca)] : List Value).toArray s 0 0 A) (F0 m 39 ls []) := by
    intro n
    induction n with
    | zero => intro i h1 h2; exact absurd h2 (by omega)
    | succ n ih =>
      intro i hi hin  H locs hP hD hS ls hl
      refine lv_iload_n hx hb dX4_begins_39 rfl (lv_at hl 2 rfl) ?_
      refine lv_bipush (v := 20) hx hb dX4_begins_40 (by decide) ?_
      refine lv_iload_n hx hb dX4_begins_42 rfl (lv_at hl 1 rfl) ?_
      refine lv_iconst (v := 1) hx hb dX4_begins_43 (by decide) ?_
      refine lv_iadd hx hb dX4_begins_44 ?_
      refine z_tv (v := nI (ca + 1)) (nI_1 ca) ?_
      refine lv_imul hx hb dX4_begins_45 ?_
      refine z_tv (v := nI (20 * (ca + 1))) (pk_mul 20 (ca + 1)) ?_
      refine lv_icmp_ge (tgt := 62) hx hb dX4_begins_46 (by decide) (fun c_46 => ?_) (fun c_46 => ?_)
      · skip
        have e20 : i = 20 := z_ge20 hi hca c_46
        subst e20
        exact W.vret hx hb hr (fun t ht hW => ⟨rfl, ⟨by rw [ht]; exact hP, hD⟩, hS.F ht⟩) hS.2.2 dX4_begins_62
      · skip
        have hlt : i < 20 := z_lt20 hi hca c_46
        refine lv_aload_n hx hb dX4_begins_49 rfl (lv_at hl 0 rfl) ?_
        refine va_get (D := (dC, dI)) (ci := 4) (v := .ref (ma 20)) (C := RX4) (T := TX4) (N := 22) hx hb hts hiX4 hown hK hP 0 rfl rfl 20 (by decide) l68 (fun _ h9 => h9) rfl dX4_begins_50 ?_
        refine lv_iload_n hx hb dX4_begins_53 rfl (lv_at hl 2 rfl) ?_
        refine lv_iconst (v := 0) hx hb dX4_begins_54 (by decide) ?_
        refine z_zast (v := 0) hx hb hK hP hD hS 5 rfl (zix_nI (by first | assumption | omega) (by decide)) (rfl) dX4_begins_55 (fun H locs hP hD hS => ?_)
        have hP : va_P (dC, dI) vwCl ([(ma 0, .inr (4, [.int now, .ref (ma 1), .ref (ma 2), .ref (ma 3), .ref (ma 4), .ref (ma 5), .ref (ma 6), .ref (ma 7), .ref (ma 8), .ref (ma 9), .ref (ma 10), .ref (ma 11), .ref (ma 12), .ref (ma 13), .ref (ma 14), .ref (ma 15), .ref (ma 16), .ref (ma 17), .ref (ma 18), .ref (ma 19), .ref (ma 20), .int th])), (ma 12, .inl (cI, 4, .inl (upd uE ca now))), (ma 13, .inl (cI, 4, .inl (upd uD ca now))), (ma 14, .inl (cI, 4, .inl (upd uP ca (-1)))), (ma 15, .inl (cI, 4, .inl (upd uQ ca (-1)))), (ma 20, .inl (cZ, 80, .inl (upd (ysee uN (20 * ca) i) (20 * ca + i) 0)))]) H := hP
        have hD : va_D A ([(ma 0, .inr (4, [.int now, .ref (ma 1), .ref (ma 2), .ref (ma 3), .ref (ma 4), .ref (ma 5), .ref (ma 6), .ref (ma 7), .ref (ma 8), .ref (ma 9), .ref (ma 10), .ref (ma 11), .ref (ma 12), .ref (ma 13), .ref (ma 14), .ref (ma 15), .ref (ma 16), .ref (ma 17), .ref (ma 18), .ref (ma 19), .ref (ma 20), .int th])), (ma 12, .inl (cI, 4, .inl (upd uE ca now))), (ma 13, .inl (cI, 4, .inl (upd uD ca now))), (ma 14, .inl (cI, 4, .inl (upd uP ca (-1)))), (ma 15, .inl (cI, 4, .inl (upd uQ ca (-1)))), (ma 20, .inl (cZ, 80, .inl (upd (ysee uN (20 * ca) i) (20 * ca + i) 0)))]) := hD
        refine lv_iinc (v := nI (20 * ca + (i + 1))) (lv' := [(2, .int (nI (20 * ca + (i + 1)))), (0, .ref (ma 0)), (1, .int (nI ca))]) hx hb dX4_begins_56 hl (k := 2) rfl (z_1) (by decide) rfl (fun ls hl => ?_)
        refine lv_goto (tgt := 39) hx hb dX4_begins_59 (by decide) ?_
        exact ih (i + 1) (by omega) (by omega)  _ _ (zP_eq hP (zw_k (zw_k (zw_k (zw_k (zw_k (zw_a (ysee_s) (rfl)))))))) (zD_eq hD (zw_k (zw_k (zw_k (zw_k (zw_k (zw_a (ysee_s) (rfl)))))))) hS _ (lv_sub hl [1, 2, 0] rfl)
  exact LOOP1 (20 + 1) 0 (by omega) (by omega)  _ _ (zP_eq hP (zw_k (zw_k (zw_k (zw_k (zw_k (zw_a (ysee_0) (rfl)))))))) (zD_eq hD (zw_k (zw_k (zw_k (zw_k (zw_k (zw_a (ysee_0) (rfl)))))))) hS _ (lv_cg (lv_sub (l' := [(0, .ref (ma 0)), (1, .int (nI ca)), (2, .int (nI (20 * ca)))]) hl [1, 2, 0] rfl) (zl_k (zl_k (zl_c (rfl) (rfl)))))
set_option maxHeartbeats 4000000 in
set_option maxRecDepth 100000 in
/-- Model.next -/
theorem kX4_next (l : Launch) (dC : Nat → ClassId) (dI : Nat → Nat → Nat) (cI cZ cH cJ : ClassId) (ma : Nat → Nat) (now : Int32) (th : Int32) (uK : zI) (uS : zI) (uG : zI) (uP : zI) (uQ : zI) (ca : Nat) (hca : ca < 4) : Met l yX4_next wsX4_next ({ frames := 0, cells := 0, slots := 0, locals := 0 }) (zRc dC dI (zTy cI cZ cH cJ) [.ref (ma 0), .int (nI ca)] ([(ma 0, .inr (4, [.int now, .ref (ma 1), .ref (ma 2), .ref (ma 3), .ref (ma 4), .ref (ma 5), .ref (ma 6), .ref (ma 7), .ref (ma 8), .ref (ma 9), .ref (ma 10), .ref (ma 11), .ref (ma 12), .ref (ma 13), .ref (ma 14), .ref (ma 15), .ref (ma 16), .ref (ma 17), .ref (ma 18), .ref (ma 19), .ref (ma 20), .int th])), (ma 3, .inl (cI, 80, .inl uK)), (ma 6, .inl (cI, 80, .inl uS)), (ma 11, .inl (cI, 4, .inl uG)), (ma 14, .inl (cI, 4, .inl uP)), (ma 15, .inl (cI, 4, .inl uQ))])) (zSi (ynx uK uS (uG ca) (uP ca) (uQ ca) (20 * ca) 20)) 0 0 (fun _ => False) := by
  refine Met.ofW (cc := cX4_next) (maxL := 7) (ret := (some .int)) (by decide) rfl ?_
  intro p e s m args below meth c s₁ B hml hv0
  obtain ⟨rfl, hP, hK⟩ := hv0
  have hx := B.exec
  have hb := B.bytes
  have hr := B.returns
  have hts := atoms_spec (ws := wsX4_next) B.pre
  have hown : s.vm.findClass RX4 = some m.cls := findClass_of_methodNamed B.named
  have hlocks := B.notSynchronized
  have hl := lv_entry ([.ref (ma 0), .int (nI ca)]) (n := 7) (Nat.le_of_ble_eq_true rfl)
  rw [lg_entry_eq]
  generalize (lg_sl ([.ref (ma 0), .int (nI ca)]) ++ List.replicate (7 - (lg_sl ([.ref (ma 0), .int (nI ca)])).length) Slot.unset).toArray = ls at hl ⊢
  have hl : lv_has ls 7 [(0, .ref (ma 0)), (1, .int (nI ca))] := hl
  have hiX4 : ∀ w ∈ wsX40, w ∈ wsX4_next := by decide +kernel
  have l16 := hts (.fieldLink RX4 16 "CatalogueHarvesterModel" "kinds" "[I") (by decide +kernel)
  have l25 := hts (.fieldLink RX4 25 "CatalogueHarvesterModel" "stamps" "[I") (by decide +kernel)
  have l41 := hts (.fieldLink RX4 41 "CatalogueHarvesterModel" "froms" "[I") (by decide +kernel)
  have l50 := hts (.fieldLink RX4 50 "CatalogueHarvesterModel" "placeStamps" "[I") (by decide +kernel)
  have l53 := hts (.fieldLink RX4 53 "CatalogueHarvesterModel" "placeRecords" "[I") (by decide +kernel)
  refine lv_iconst (v := (-1)) hx hb dX4_next_0 (by decide) ?_
  refine lv_istore_n (lv' := [(2, .int (-1)), (0, .ref (ma 0)), (1, .int (nI ca))]) hx hb dX4_next_1 rfl hl (by decide) rfl (fun ls hl => ?_)
  refine lv_bipush (v := 20) hx hb dX4_next_2 (by decide) ?_
  refine lv_iload_n hx hb dX4_next_4 rfl (lv_at hl 2 rfl) ?_
  refine lv_imul hx hb dX4_next_5 ?_
  refine z_tv (v := nI (20 * ca)) (pk_mul 20 ca) ?_
  refine lv_istore_n (lv' := [(3, .int (nI (20 * ca))), (2, .int (-1)), (0, .ref (ma 0)), (1, .int (nI ca))]) hx hb dX4_next_6 rfl hl (by decide) rfl (fun ls hl => ?_)
  refine lv_iload_n hx hb dX4_next_7 rfl (lv_at hl 0 rfl) ?_
  refine lv_istore (lv' := [(4, .int (nI (20 * ca))), (3, .int (nI (20 * ca))), (2, .int (-1)), (0, .ref (ma 0)), (1, .int (nI ca))]) hx hb dX4_next_8 hl (by decide) rfl (fun ls hl => ?_)
  have LOOP1 : ∀ (n i : Nat), i ≤ 20 → 20 < i + n → ∀ (ls : Array Slot), lv_has ls 7 [(0, .ref (ma 0)), (1, .int (nI ca)), (2, .int (ynx uK uS (uG ca) (uP ca) (uQ ca) (20 * ca) i)), (3, .int (nI (20 * ca))), (4, .int (nI (20 * ca + i)))] → W p l e (headSpec wsX4_next ({ frames := 0, cells := 0, slots := 0, locals := 0 })).room s m ([.ref (ma 0), .int (nI ca)] : List Value).toArray below meth c s.heap [] 0 0 (MQ below (zSi (ynx uK uS (uG ca) (uP ca) (uQ ca) (20 * ca) 20)) ([.ref (ma 0), .int (nI ca)] : List Value).toArray s 0 0 (fun _ => False)) (F0 m 10 ls []) := by
    intro n
    induction n with
    | zero => intro i h1 h2; exact absurd h2 (by omega)
    | succ n ih =>
      intro i hi hin   ls hl
      refine lv_iload hx hb dX4_next_10 (lv_at hl 4 rfl) ?_
      refine lv_iload_n hx hb dX4_next_12 rfl (lv_at hl 3 rfl) ?_
      refine lv_bipush (v := 20) hx hb dX4_next_13 (by decide) ?_
      refine lv_iadd hx hb dX4_next_15 ?_
      refine z_tv (v := nI (20 * ca + 20)) (nI_add (20 * ca) 20) ?_
      refine lv_icmp_ge (tgt := 148) hx hb dX4_next_16 (by decide) (fun c_16 => ?_) (fun c_16 => ?_)
      · skip
        have e20 : i = 20 := z_ge20b hi hca c_16
        subst e20
        refine lv_iload_n hx hb dX4_next_148 rfl (lv_at hl 2 rfl) ?_
        exact W.iret hx hb hr (fun t ht hW => ⟨rfl, ht⟩) (fun _ h => nomatch h) dX4_next_149
      · skip
        have hlt : i < 20 := z_lt20b hi hca c_16
        have J69_2 : ∀ (ls : Array Slot), lv_has ls 7 [(0, .ref (ma 0)), (1, .int (nI ca)), (2, .int (ynx uK uS (uG ca) (uP ca) (uQ ca) (20 * ca) i)), (3, .int (nI (20 * ca))), (4, .int (nI (20 * ca + i)))] → W p l e (headSpec wsX4_next ({ frames := 0, cells := 0, slots := 0, locals := 0 })).room s m ([.ref (ma 0), .int (nI ca)] : List Value).toArray below meth c s.heap [] 0 0 (MQ below (zSi (ynx uK uS (uG ca) (uP ca) (uQ ca) (20 * ca) 20)) ([.ref (ma 0), .int (nI ca)] : List Value).toArray s 0 0 (fun _ => False)) (F0 m 69 ls [.int (if uP ca < uS (20 * ca + i) ∨ (uS (20 * ca + i) = uP ca ∧ ¬ nI i ≤ uQ ca) then (1 : Int32) else 0)]) := by
          intro ls hl
          refine lv_istore (lv' := [(5, .int (if uP ca < uS (20 * ca + i) ∨ (uS (20 * ca + i) = uP ca ∧ ¬ nI i ≤ uQ ca) then (1 : Int32) else 0)), (0, .ref (ma 0)), (1, .int (nI ca)), (2, .int (ynx uK uS (uG ca) (uP ca) (uQ ca) (20 * ca) i)), (3, .int (nI (20 * ca))), (4, .int (nI (20 * ca + i)))]) hx hb dX4_next_69 hl (by decide) rfl (fun ls hl => ?_)
          have J107_3 : ∀ (ls : Array Slot), lv_has ls 7 [(5, .int (if uP ca < uS (20 * ca + i) ∨ (uS (20 * ca + i) = uP ca ∧ ¬ nI i ≤ uQ ca) then (1 : Int32) else 0)), (0, .ref (ma 0)), (1, .int (nI ca)), (2, .int (ynx uK uS (uG ca) (uP ca) (uQ ca) (20 * ca) i)), (3, .int (nI (20 * ca))), (4, .int (nI (20 * ca + i)))] → W p l e (headSpec wsX4_next ({ frames := 0, cells := 0, slots := 0, locals := 0 })).room s m ([.ref (ma 0), .int (nI ca)] : List Value).toArray below meth c s.heap [] 0 0 (MQ below (zSi (ynx uK uS (uG ca) (uP ca) (uQ ca) (20 * ca) 20)) ([.ref (ma 0), .int (nI ca)] : List Value).toArray s 0 0 (fun _ => False)) (F0 m 107 ls [.int (if uK (20 * ca + i) ≠ 0 ∧ ¬ uS (20 * ca + i) < uG ca ∧ (uP ca < uS (20 * ca + i) ∨ (uS (20 * ca + i) = uP ca ∧ ¬ nI i ≤ uQ ca)) then (1 : Int32) else 0)]) := by
            intro ls hl
            refine lv_istore (lv' := [(6, .int (if uK (20 * ca + i) ≠ 0 ∧ ¬ uS (20 * ca + i) < uG ca ∧ (uP ca < uS (20 * ca + i) ∨ (uS (20 * ca + i) = uP ca ∧ ¬ nI i ≤ uQ ca)) then (1 : Int32) else 0)), (5, .int (if uP ca < uS (20 * ca + i) ∨ (uS (20 * ca + i) = uP ca ∧ ¬ nI i ≤ uQ ca) then (1 : Int32) else 0)), (0, .ref (ma 0)), (1, .int (nI ca)), (2, .int (ynx uK uS (uG ca) (uP ca) (uQ ca) (20 * ca) i)), (3, .int (nI (20 * ca))), (4, .int (nI (20 * ca + i)))]) hx hb dX4_next_107 hl (by decide) rfl (fun ls hl => ?_)
            have J141_4 : ∀ (ls : Array Slot), lv_has ls 7 [(6, .int (if uK (20 * ca + i) ≠ 0 ∧ ¬ uS (20 * ca + i) < uG ca ∧ (uP ca < uS (20 * ca + i) ∨ (uS (20 * ca + i) = uP ca ∧ ¬ nI i ≤ uQ ca)) then (1 : Int32) else 0)), (5, .int (if uP ca < uS (20 * ca + i) ∨ (uS (20 * ca + i) = uP ca ∧ ¬ nI i ≤ uQ ca) then (1 : Int32) else 0)), (0, .ref (ma 0)), (1, .int (nI ca)), (2, .int (ynx uK uS (uG ca) (uP ca) (uQ ca) (20 * ca) i)), (3, .int (nI (20 * ca))), (4, .int (nI (20 * ca + i)))] → W p l e (headSpec wsX4_next ({ frames := 0, cells := 0, slots := 0, locals := 0 })).room s m ([.ref (ma 0), .int (nI ca)] : List Value).toArray below meth c s.heap [] 0 0 (MQ below (zSi (ynx uK uS (uG ca) (uP ca) (uQ ca) (20 * ca) 20)) ([.ref (ma 0), .int (nI ca)] : List Value).toArray s 0 0 (fun _ => False)) (F0 m 141 ls [.int (ynx uK uS (uG ca) (uP ca) (uQ ca) (20 * ca) (i + 1))]) := by
              intro ls hl
              refine lv_istore_n (lv' := [(2, .int (ynx uK uS (uG ca) (uP ca) (uQ ca) (20 * ca) (i + 1))), (6, .int (if uK (20 * ca + i) ≠ 0 ∧ ¬ uS (20 * ca + i) < uG ca ∧ (uP ca < uS (20 * ca + i) ∨ (uS (20 * ca + i) = uP ca ∧ ¬ nI i ≤ uQ ca)) then (1 : Int32) else 0)), (5, .int (if uP ca < uS (20 * ca + i) ∨ (uS (20 * ca + i) = uP ca ∧ ¬ nI i ≤ uQ ca) then (1 : Int32) else 0)), (0, .ref (ma 0)), (1, .int (nI ca)), (3, .int (nI (20 * ca))), (4, .int (nI (20 * ca + i)))]) hx hb dX4_next_141 rfl hl (by decide) rfl (fun ls hl => ?_)
              refine lv_iinc (v := nI (20 * ca + (i + 1))) (lv' := [(4, .int (nI (20 * ca + (i + 1)))), (2, .int (ynx uK uS (uG ca) (uP ca) (uQ ca) (20 * ca) (i + 1))), (6, .int (if uK (20 * ca + i) ≠ 0 ∧ ¬ uS (20 * ca + i) < uG ca ∧ (uP ca < uS (20 * ca + i) ∨ (uS (20 * ca + i) = uP ca ∧ ¬ nI i ≤ uQ ca)) then (1 : Int32) else 0)), (5, .int (if uP ca < uS (20 * ca + i) ∨ (uS (20 * ca + i) = uP ca ∧ ¬ nI i ≤ uQ ca) then (1 : Int32) else 0)), (0, .ref (ma 0)), (1, .int (nI ca)), (3, .int (nI (20 * ca)))]) hx hb dX4_next_142 hl (k := 6) rfl (z_1) (by decide) rfl (fun ls hl => ?_)
              refine lv_goto (tgt := 10) hx hb dX4_next_145 (by decide) ?_
              exact ih (i + 1) (by omega) (by omega)  _ (lv_sub hl [4, 5, 1, 6, 0] rfl)
            refine lv_iload hx hb dX4_next_109 (lv_at hl 0 rfl) ?_
            refine lv_if_eq (tgt := 140) hx hb dX4_next_111 (by decide) (fun c_111 => ?_) (fun c_111 => ?_)
            · skip
              refine lv_iload_n hx hb dX4_next_140 rfl (lv_at hl 4 rfl) ?_
              refine z_tv (v := ynx uK uS (uG ca) (uP ca) (uQ ca) (20 * ca) (i + 1)) (by rw [ynx]; grind) ?_
              exact J141_4 _ (lv_sub hl [0, 1, 2, 3, 4, 5, 6] rfl)
            · skip
              refine lv_iload_n hx hb dX4_next_114 rfl (lv_at hl 4 rfl) ?_
              refine lv_iconst (v := (-1)) hx hb dX4_next_115 (by decide) ?_
              refine lv_icmp_eq (tgt := 135) hx hb dX4_next_116 (by decide) (fun c_116 => ?_) (fun c_116 => ?_)
              · skip
                refine lv_iload hx hb dX4_next_135 (lv_at hl 6 rfl) ?_
                refine lv_goto (tgt := 141) hx hb dX4_next_137 (by decide) ?_
                refine z_tv (v := ynx uK uS (uG ca) (uP ca) (uQ ca) (20 * ca) (i + 1)) (by rw [ynx]; grind) ?_
                exact J141_4 _ (lv_sub hl [0, 1, 2, 3, 4, 5, 6] rfl)
              · skip
                refine lv_aload_n hx hb dX4_next_119 rfl (lv_at hl 2 rfl) ?_
                refine va_get (D := (dC, dI)) (ci := 4) (v := .ref (ma 6)) (C := RX4) (T := TX4) (N := 22) hx hb hts hiX4 hown hK hP 0 rfl rfl 6 (by decide) l25 (fun _ h9 => h9) rfl dX4_next_120 ?_
                refine lv_iload hx hb dX4_next_123 (lv_at hl 6 rfl) ?_
                refine z_iald hx hb hK hP 2 rfl (zix_nI (by first | assumption | omega) (by decide)) dX4_next_125 ?_
                refine z_tv (v := uS (20 * ca + i)) (rfl) ?_
                refine lv_aload_n hx hb dX4_next_126 rfl (lv_at hl 2 rfl) ?_
                refine va_get (D := (dC, dI)) (ci := 4) (v := .ref (ma 6)) (C := RX4) (T := TX4) (N := 22) hx hb hts hiX4 hown hK hP 0 rfl rfl 6 (by decide) l25 (fun _ h9 => h9) rfl dX4_next_127 ?_
                refine lv_iload_n hx hb dX4_next_130 rfl (lv_at hl 4 rfl) ?_
                refine z_iald hx hb hK hP 2 rfl (ynx_ix c_116 (by omega)) dX4_next_131 ?_
                refine z_tv (v := uS ((ynx uK uS (uG ca) (uP ca) (uQ ca) (20 * ca) i).toNatClampNeg)) (rfl) ?_
                refine lv_icmp_ge (tgt := 140) hx hb dX4_next_132 (by decide) (fun c_132 => ?_) (fun c_132 => ?_)
                · skip
                  refine lv_iload_n hx hb dX4_next_140 rfl (lv_at hl 4 rfl) ?_
                  refine z_tv (v := ynx uK uS (uG ca) (uP ca) (uQ ca) (20 * ca) (i + 1)) (by rw [ynx]; grind) ?_
                  exact J141_4 _ (lv_sub hl [0, 1, 2, 3, 4, 5, 6] rfl)
                · skip
                  refine lv_iload hx hb dX4_next_135 (lv_at hl 6 rfl) ?_
                  refine lv_goto (tgt := 141) hx hb dX4_next_137 (by decide) ?_
                  refine z_tv (v := ynx uK uS (uG ca) (uP ca) (uQ ca) (20 * ca) (i + 1)) (by rw [ynx]; grind) ?_
                  exact J141_4 _ (lv_sub hl [0, 1, 2, 3, 4, 5, 6] rfl)
          refine lv_aload_n hx hb dX4_next_71 rfl (lv_at hl 1 rfl) ?_
          refine va_get (D := (dC, dI)) (ci := 4) (v := .ref (ma 3)) (C := RX4) (T := TX4) (N := 22) hx hb hts hiX4 hown hK hP 0 rfl rfl 3 (by decide) l16 (fun _ h9 => h9) rfl dX4_next_72 ?_
          refine lv_iload hx hb dX4_next_75 (lv_at hl 5 rfl) ?_
          refine z_iald hx hb hK hP 1 rfl (zix_nI (by first | assumption | omega) (by decide)) dX4_next_77 ?_
          refine z_tv (v := uK (20 * ca + i)) (rfl) ?_
          refine lv_if_eq (tgt := 106) hx hb dX4_next_78 (by decide) (fun c_78 => ?_) (fun c_78 => ?_)
          · skip
            refine lv_iconst (v := 0) hx hb dX4_next_106 (by decide) ?_
            refine z_tv (v := if uK (20 * ca + i) ≠ 0 ∧ ¬ uS (20 * ca + i) < uG ca ∧ (uP ca < uS (20 * ca + i) ∨ (uS (20 * ca + i) = uP ca ∧ ¬ nI i ≤ uQ ca)) then (1 : Int32) else 0) (by grind) ?_
            exact J107_3 _ (lv_sub hl [0, 1, 2, 3, 4, 5] rfl)
          · skip
            refine lv_aload_n hx hb dX4_next_81 rfl (lv_at hl 1 rfl) ?_
            refine va_get (D := (dC, dI)) (ci := 4) (v := .ref (ma 6)) (C := RX4) (T := TX4) (N := 22) hx hb hts hiX4 hown hK hP 0 rfl rfl 6 (by decide) l25 (fun _ h9 => h9) rfl dX4_next_82 ?_
            refine lv_iload hx hb dX4_next_85 (lv_at hl 5 rfl) ?_
            refine z_iald hx hb hK hP 2 rfl (zix_nI (by first | assumption | omega) (by decide)) dX4_next_87 ?_
            refine z_tv (v := uS (20 * ca + i)) (rfl) ?_
            refine lv_aload_n hx hb dX4_next_88 rfl (lv_at hl 1 rfl) ?_
            refine va_get (D := (dC, dI)) (ci := 4) (v := .ref (ma 11)) (C := RX4) (T := TX4) (N := 22) hx hb hts hiX4 hown hK hP 0 rfl rfl 11 (by decide) l41 (fun _ h9 => h9) rfl dX4_next_89 ?_
            refine lv_iload_n hx hb dX4_next_92 rfl (lv_at hl 2 rfl) ?_
            refine z_iald hx hb hK hP 3 rfl (zix_nI (by first | assumption | omega) (by decide)) dX4_next_93 ?_
            refine z_tv (v := uG ca) (rfl) ?_
            refine lv_icmp_lt (tgt := 106) hx hb dX4_next_94 (by decide) (fun c_94 => ?_) (fun c_94 => ?_)
            · skip
              refine lv_iconst (v := 0) hx hb dX4_next_106 (by decide) ?_
              refine z_tv (v := if uK (20 * ca + i) ≠ 0 ∧ ¬ uS (20 * ca + i) < uG ca ∧ (uP ca < uS (20 * ca + i) ∨ (uS (20 * ca + i) = uP ca ∧ ¬ nI i ≤ uQ ca)) then (1 : Int32) else 0) (by grind) ?_
              exact J107_3 _ (lv_sub hl [0, 1, 2, 3, 4, 5] rfl)
            · skip
              refine lv_iload hx hb dX4_next_97 (lv_at hl 0 rfl) ?_
              refine lv_if_eq (tgt := 106) hx hb dX4_next_99 (by decide) (fun c_99 => ?_) (fun c_99 => ?_)
              · skip
                refine lv_iconst (v := 0) hx hb dX4_next_106 (by decide) ?_
                refine z_tv (v := if uK (20 * ca + i) ≠ 0 ∧ ¬ uS (20 * ca + i) < uG ca ∧ (uP ca < uS (20 * ca + i) ∨ (uS (20 * ca + i) = uP ca ∧ ¬ nI i ≤ uQ ca)) then (1 : Int32) else 0) (by grind) ?_
                exact J107_3 _ (lv_sub hl [0, 1, 2, 3, 4, 5] rfl)
              · skip
                refine lv_iconst (v := 1) hx hb dX4_next_102 (by decide) ?_
                refine lv_goto (tgt := 107) hx hb dX4_next_103 (by decide) ?_
                refine z_tv (v := if uK (20 * ca + i) ≠ 0 ∧ ¬ uS (20 * ca + i) < uG ca ∧ (uP ca < uS (20 * ca + i) ∨ (uS (20 * ca + i) = uP ca ∧ ¬ nI i ≤ uQ ca)) then (1 : Int32) else 0) (by grind) ?_
                exact J107_3 _ (lv_sub hl [0, 1, 2, 3, 4, 5] rfl)
        refine lv_aload_n hx hb dX4_next_19 rfl (lv_at hl 0 rfl) ?_
        refine va_get (D := (dC, dI)) (ci := 4) (v := .ref (ma 6)) (C := RX4) (T := TX4) (N := 22) hx hb hts hiX4 hown hK hP 0 rfl rfl 6 (by decide) l25 (fun _ h9 => h9) rfl dX4_next_20 ?_
        refine lv_iload hx hb dX4_next_23 (lv_at hl 4 rfl) ?_
        refine z_iald hx hb hK hP 2 rfl (zix_nI (by first | assumption | omega) (by decide)) dX4_next_25 ?_
        refine z_tv (v := uS (20 * ca + i)) (rfl) ?_
        refine lv_aload_n hx hb dX4_next_26 rfl (lv_at hl 0 rfl) ?_
        refine va_get (D := (dC, dI)) (ci := 4) (v := .ref (ma 14)) (C := RX4) (T := TX4) (N := 22) hx hb hts hiX4 hown hK hP 0 rfl rfl 14 (by decide) l50 (fun _ h9 => h9) rfl dX4_next_27 ?_
        refine lv_iload_n hx hb dX4_next_30 rfl (lv_at hl 1 rfl) ?_
        refine z_iald hx hb hK hP 4 rfl (zix_nI (by first | assumption | omega) (by decide)) dX4_next_31 ?_
        refine z_tv (v := uP ca) (rfl) ?_
        refine lv_icmp_gt (tgt := 64) hx hb dX4_next_32 (by decide) (fun c_32 => ?_) (fun c_32 => ?_)
        · skip
          refine lv_iconst (v := 1) hx hb dX4_next_64 (by decide) ?_
          refine lv_goto (tgt := 69) hx hb dX4_next_65 (by decide) ?_
          refine z_tv (v := if uP ca < uS (20 * ca + i) ∨ (uS (20 * ca + i) = uP ca ∧ ¬ nI i ≤ uQ ca) then (1 : Int32) else 0) (by grind) ?_
          exact J69_2 _ (lv_sub hl [0, 1, 2, 3, 4] rfl)
        · skip
          refine lv_aload_n hx hb dX4_next_35 rfl (lv_at hl 0 rfl) ?_
          refine va_get (D := (dC, dI)) (ci := 4) (v := .ref (ma 6)) (C := RX4) (T := TX4) (N := 22) hx hb hts hiX4 hown hK hP 0 rfl rfl 6 (by decide) l25 (fun _ h9 => h9) rfl dX4_next_36 ?_
          refine lv_iload hx hb dX4_next_39 (lv_at hl 4 rfl) ?_
          refine z_iald hx hb hK hP 2 rfl (zix_nI (by first | assumption | omega) (by decide)) dX4_next_41 ?_
          refine z_tv (v := uS (20 * ca + i)) (rfl) ?_
          refine lv_aload_n hx hb dX4_next_42 rfl (lv_at hl 0 rfl) ?_
          refine va_get (D := (dC, dI)) (ci := 4) (v := .ref (ma 14)) (C := RX4) (T := TX4) (N := 22) hx hb hts hiX4 hown hK hP 0 rfl rfl 14 (by decide) l50 (fun _ h9 => h9) rfl dX4_next_43 ?_
          refine lv_iload_n hx hb dX4_next_46 rfl (lv_at hl 1 rfl) ?_
          refine z_iald hx hb hK hP 4 rfl (zix_nI (by first | assumption | omega) (by decide)) dX4_next_47 ?_
          refine z_tv (v := uP ca) (rfl) ?_
          refine lv_icmp_ne (tgt := 68) hx hb dX4_next_48 (by decide) (fun c_48 => ?_) (fun c_48 => ?_)
          · skip
            refine lv_iconst (v := 0) hx hb dX4_next_68 (by decide) ?_
            refine z_tv (v := if uP ca < uS (20 * ca + i) ∨ (uS (20 * ca + i) = uP ca ∧ ¬ nI i ≤ uQ ca) then (1 : Int32) else 0) (by grind) ?_
            exact J69_2 _ (lv_sub hl [0, 1, 2, 3, 4] rfl)
          · skip
            refine lv_iload hx hb dX4_next_51 (lv_at hl 4 rfl) ?_
            refine lv_iload_n hx hb dX4_next_53 rfl (lv_at hl 3 rfl) ?_
            refine lv_isub hx hb dX4_next_54 ?_
            refine z_tv (v := nI i) (z_sb) ?_
            refine lv_aload_n hx hb dX4_next_55 rfl (lv_at hl 0 rfl) ?_
            refine va_get (D := (dC, dI)) (ci := 4) (v := .ref (ma 15)) (C := RX4) (T := TX4) (N := 22) hx hb hts hiX4 hown hK hP 0 rfl rfl 15 (by decide) l53 (fun _ h9 => h9) rfl dX4_next_56 ?_
            refine lv_iload_n hx hb dX4_next_59 rfl (lv_at hl 1 rfl) ?_
            refine z_iald hx hb hK hP 5 rfl (zix_nI (by first | assumption | omega) (by decide)) dX4_next_60 ?_
            refine z_tv (v := uQ ca) (rfl) ?_
            refine lv_icmp_le (tgt := 68) hx hb dX4_next_61 (by decide) (fun c_61 => ?_) (fun c_61 => ?_)
            · skip
              refine lv_iconst (v := 0) hx hb dX4_next_68 (by decide) ?_
              refine z_tv (v := if uP ca < uS (20 * ca + i) ∨ (uS (20 * ca + i) = uP ca ∧ ¬ nI i ≤ uQ ca) then (1 : Int32) else 0) (by grind) ?_
              exact J69_2 _ (lv_sub hl [0, 1, 2, 3, 4] rfl)
            · skip
              refine lv_iconst (v := 1) hx hb dX4_next_64 (by decide) ?_
              refine lv_goto (tgt := 69) hx hb dX4_next_65 (by decide) ?_
              refine z_tv (v := if uP ca < uS (20 * ca + i) ∨ (uS (20 * ca + i) = uP ca ∧ ¬ nI i ≤ uQ ca) then (1 : Int32) else 0) (by grind) ?_
              exact J69_2 _ (lv_sub hl [0, 1, 2, 3, 4] rfl)
  exact LOOP1 (20 + 1) 0 (by omega) (by omega)  _ (lv_cg (lv_sub (l' := [(0, .ref (ma 0)), (1, .int (nI ca)), (2, .int (-1)), (3, .int (nI (20 * ca))), (4, .int (nI (20 * ca)))]) hl [3, 4, 2, 1, 0] rfl) (zl_k (zl_k (zl_c (rfl) (zl_k (zl_c (rfl) (rfl)))))))
set_option maxHeartbeats 4000000 in
set_option maxRecDepth 100000 in
/-- Model.takes -/
theorem kX4_takes (l : Launch) (dC : Nat → ClassId) (dI : Nat → Nat → Nat) (cI cZ cH cJ : ClassId) (ma : Nat → Nat) (now : Int32) (th : Int32) (uK : zI) (uW : zI) (uV : zI) (uS : zI) (uP : zI) (uQ : zI) (uH : zI) (xW : zI) (xV : zI) (xS : zI) (uN : zI) (ca : Nat) (hca : ca < 4) (r : Nat) (hrr : r < 20) (sz : Nat) : Met l yX4_takes wsX4_takes ({ frames := 0, cells := 0, slots := 0, locals := 0 }) (zPc dC dI (zTy cI cZ cH cJ) [.ref (ma 0), .int (nI ca), .int (nI (20 * ca + r))] sz ([(ma 0, .inr (4, [.int now, .ref (ma 1), .ref (ma 2), .ref (ma 3), .ref (ma 4), .ref (ma 5), .ref (ma 6), .ref (ma 7), .ref (ma 8), .ref (ma 9), .ref (ma 10), .ref (ma 11), .ref (ma 12), .ref (ma 13), .ref (ma 14), .ref (ma 15), .ref (ma 16), .ref (ma 17), .ref (ma 18), .ref (ma 19), .ref (ma 20), .int th])), (ma 3, .inl (cI, 80, .inl uK)), (ma 4, .inl (cI, 80, .inl uW)), (ma 5, .inl (cI, 80, .inl uV)), (ma 6, .inl (cI, 80, .inl uS)), (ma 14, .inl (cI, 4, .inl uP)), (ma 15, .inl (cI, 4, .inl uQ)), (ma 16, .inl (cZ, 80, .inl uH)), (ma 17, .inl (cI, 80, .inl xW)), (ma 18, .inl (cI, 80, .inl xV)), (ma 19, .inl (cI, 80, .inl xS)), (ma 20, .inl (cZ, 80, .inl uN))])) (zQv dC dI ([(ma 0, .inr (4, [.int now, .ref (ma 1), .ref (ma 2), .ref (ma 3), .ref (ma 4), .ref (ma 5), .ref (ma 6), .ref (ma 7), .ref (ma 8), .ref (ma 9), .ref (ma 10), .ref (ma 11), .ref (ma 12), .ref (ma 13), .ref (ma 14), .ref (ma 15), .ref (ma 16), .ref (ma 17), .ref (ma 18), .ref (ma 19), .ref (ma 20), .int th])), (ma 3, .inl (cI, 80, .inl uK)), (ma 4, .inl (cI, 80, .inl uW)), (ma 5, .inl (cI, 80, .inl uV)), (ma 6, .inl (cI, 80, .inl uS)), (ma 14, .inl (cI, 4, .inl (upd uP ca (uS (20 * ca + r))))), (ma 15, .inl (cI, 4, .inl (upd uQ ca (nI r)))), (ma 16, .inl (cZ, 80, .inl (upd uH (20 * ca + r) (if uK (20 * ca + r) = 1 then (1 : Int32) else 0)))), (ma 17, .inl (cI, 80, .inl (upd xW (20 * ca + r) (uW (20 * ca + r))))), (ma 18, .inl (cI, 80, .inl (upd xV (20 * ca + r) (uV (20 * ca + r))))), (ma 19, .inl (cI, 80, .inl (upd xS (20 * ca + r) (uS (20 * ca + r))))), (ma 20, .inl (cZ, 80, .inl (upd uN (20 * ca + r) 1)))]) (va_A ([(ma 0, .inr (4, [.int now, .ref (ma 1), .ref (ma 2), .ref (ma 3), .ref (ma 4), .ref (ma 5), .ref (ma 6), .ref (ma 7), .ref (ma 8), .ref (ma 9), .ref (ma 10), .ref (ma 11), .ref (ma 12), .ref (ma 13), .ref (ma 14), .ref (ma 15), .ref (ma 16), .ref (ma 17), .ref (ma 18), .ref (ma 19), .ref (ma 20), .int th])), (ma 3, .inl (cI, 80, .inl uK)), (ma 4, .inl (cI, 80, .inl uW)), (ma 5, .inl (cI, 80, .inl uV)), (ma 6, .inl (cI, 80, .inl uS)), (ma 14, .inl (cI, 4, .inl uP)), (ma 15, .inl (cI, 4, .inl uQ)), (ma 16, .inl (cZ, 80, .inl uH)), (ma 17, .inl (cI, 80, .inl xW)), (ma 18, .inl (cI, 80, .inl xV)), (ma 19, .inl (cI, 80, .inl xS)), (ma 20, .inl (cZ, 80, .inl uN))]) sz)) 0 0 (va_A ([(ma 0, .inr (4, [.int now, .ref (ma 1), .ref (ma 2), .ref (ma 3), .ref (ma 4), .ref (ma 5), .ref (ma 6), .ref (ma 7), .ref (ma 8), .ref (ma 9), .ref (ma 10), .ref (ma 11), .ref (ma 12), .ref (ma 13), .ref (ma 14), .ref (ma 15), .ref (ma 16), .ref (ma 17), .ref (ma 18), .ref (ma 19), .ref (ma 20), .int th])), (ma 3, .inl (cI, 80, .inl uK)), (ma 4, .inl (cI, 80, .inl uW)), (ma 5, .inl (cI, 80, .inl uV)), (ma 6, .inl (cI, 80, .inl uS)), (ma 14, .inl (cI, 4, .inl uP)), (ma 15, .inl (cI, 4, .inl uQ)), (ma 16, .inl (cZ, 80, .inl uH)), (ma 17, .inl (cI, 80, .inl xW)), (ma 18, .inl (cI, 80, .inl xV)), (ma 19, .inl (cI, 80, .inl xS)), (ma 20, .inl (cZ, 80, .inl uN))]) sz) := by
  refine Met.ofW (cc := cX4_takes) (maxL := 3) (ret := none) (by decide) rfl ?_
  intro p e s m args below meth c s₁ B hml hv0
  obtain ⟨rfl, hsz, hP, hK, hD0⟩ := hv0
  have hx := B.exec
  have hb := B.bytes
  have hr := B.returns
  have hts := atoms_spec (ws := wsX4_takes) B.pre
  have hown : s.vm.findClass RX4 = some m.cls := findClass_of_methodNamed B.named
  have hlocks := B.notSynchronized
  subst hsz
  have hD := hD0.self (sz := s.heap.size)
  generalize hAe : va_A ([(ma 0, .inr (4, [.int now, .ref (ma 1), .ref (ma 2), .ref (ma 3), .ref (ma 4), .ref (ma 5), .ref (ma 6), .ref (ma 7), .ref (ma 8), .ref (ma 9), .ref (ma 10), .ref (ma 11), .ref (ma 12), .ref (ma 13), .ref (ma 14), .ref (ma 15), .ref (ma 16), .ref (ma 17), .ref (ma 18), .ref (ma 19), .ref (ma 20), .int th])), (ma 3, .inl (cI, 80, .inl uK)), (ma 4, .inl (cI, 80, .inl uW)), (ma 5, .inl (cI, 80, .inl uV)), (ma 6, .inl (cI, 80, .inl uS)), (ma 14, .inl (cI, 4, .inl uP)), (ma 15, .inl (cI, 4, .inl uQ)), (ma 16, .inl (cZ, 80, .inl uH)), (ma 17, .inl (cI, 80, .inl xW)), (ma 18, .inl (cI, 80, .inl xV)), (ma 19, .inl (cI, 80, .inl xS)), (ma 20, .inl (cZ, 80, .inl uN))]) s.heap.size = A at hD ⊢
  have hA : ∀ q : Nat, s.heap.size ≤ q → A q := fun q h => by rw [← hAe]; exact Or.inr h
  have hS : va_S A s.heap s.heap [] := va_S.rf
  have hl := lv_entry ([.ref (ma 0), .int (nI ca), .int (nI (20 * ca + r))]) (n := 3) (Nat.le_of_ble_eq_true rfl)
  rw [lg_entry_eq]
  generalize (lg_sl ([.ref (ma 0), .int (nI ca), .int (nI (20 * ca + r))]) ++ List.replicate (3 - (lg_sl ([.ref (ma 0), .int (nI ca), .int (nI (20 * ca + r))])).length) Slot.unset).toArray = ls at hl ⊢
  have hl : lv_has ls 3 [(0, .ref (ma 0)), (1, .int (nI ca)), (2, .int (nI (20 * ca + r)))] := hl
  have hiX4 : ∀ w ∈ wsX40, w ∈ wsX4_takes := by decide +kernel
  have l16 := hts (.fieldLink RX4 16 "CatalogueHarvesterModel" "kinds" "[I") (by decide +kernel)
  have l19 := hts (.fieldLink RX4 19 "CatalogueHarvesterModel" "works" "[I") (by decide +kernel)
  have l22 := hts (.fieldLink RX4 22 "CatalogueHarvesterModel" "values" "[I") (by decide +kernel)
  have l25 := hts (.fieldLink RX4 25 "CatalogueHarvesterModel" "stamps" "[I") (by decide +kernel)
  have l50 := hts (.fieldLink RX4 50 "CatalogueHarvesterModel" "placeStamps" "[I") (by decide +kernel)
  have l53 := hts (.fieldLink RX4 53 "CatalogueHarvesterModel" "placeRecords" "[I") (by decide +kernel)
  have l56 := hts (.fieldLink RX4 56 "CatalogueHarvesterModel" "isHeld" "[Z") (by decide +kernel)
  have l59 := hts (.fieldLink RX4 59 "CatalogueHarvesterModel" "heldWorks" "[I") (by decide +kernel)
  have l62 := hts (.fieldLink RX4 62 "CatalogueHarvesterModel" "heldValues" "[I") (by decide +kernel)
  have l65 := hts (.fieldLink RX4 65 "CatalogueHarvesterModel" "heldStamps" "[I") (by decide +kernel)
  have l68 := hts (.fieldLink RX4 68 "CatalogueHarvesterModel" "wasSeen" "[Z") (by decide +kernel)
  refine lv_aload_n hx hb dX4_takes_0 rfl (lv_at hl 0 rfl) ?_
  refine va_get (D := (dC, dI)) (ci := 4) (v := .ref (ma 16)) (C := RX4) (T := TX4) (N := 22) hx hb hts hiX4 hown hK hP 0 rfl rfl 16 (by decide) l56 (fun _ h9 => h9) rfl dX4_takes_1 ?_
  refine lv_iload_n hx hb dX4_takes_4 rfl (lv_at hl 2 rfl) ?_
  have J20_1 : ∀ (ls : Array Slot), lv_has ls 3 [(0, .ref (ma 0)), (1, .int (nI ca)), (2, .int (nI (20 * ca + r)))] → W p l e (headSpec wsX4_takes ({ frames := 0, cells := 0, slots := 0, locals := 0 })).room s m ([.ref (ma 0), .int (nI ca), .int (nI (20 * ca + r))] : List Value).toArray below meth c s.heap [] 0 0 (MQ below (zQv dC dI ([(ma 0, .inr (4, [.int now, .ref (ma 1), .ref (ma 2), .ref (ma 3), .ref (ma 4), .ref (ma 5), .ref (ma 6), .ref (ma 7), .ref (ma 8), .ref (ma 9), .ref (ma 10), .ref (ma 11), .ref (ma 12), .ref (ma 13), .ref (ma 14), .ref (ma 15), .ref (ma 16), .ref (ma 17), .ref (ma 18), .ref (ma 19), .ref (ma 20), .int th])), (ma 3, .inl (cI, 80, .inl uK)), (ma 4, .inl (cI, 80, .inl uW)), (ma 5, .inl (cI, 80, .inl uV)), (ma 6, .inl (cI, 80, .inl uS)), (ma 14, .inl (cI, 4, .inl (upd uP ca (uS (20 * ca + r))))), (ma 15, .inl (cI, 4, .inl (upd uQ ca (nI r)))), (ma 16, .inl (cZ, 80, .inl (upd uH (20 * ca + r) (if uK (20 * ca + r) = 1 then (1 : Int32) else 0)))), (ma 17, .inl (cI, 80, .inl (upd xW (20 * ca + r) (uW (20 * ca + r))))), (ma 18, .inl (cI, 80, .inl (upd xV (20 * ca + r) (uV (20 * ca + r))))), (ma 19, .inl (cI, 80, .inl (upd xS (20 * ca + r) (uS (20 * ca + r))))), (ma 20, .inl (cZ, 80, .inl (upd uN (20 * ca + r) 1)))]) A) ([.ref (ma 0), .int (nI ca), .int (nI (20 * ca + r))] : List Value).toArray s 0 0 A) (F0 m 20 ls [.int (if uK (20 * ca + r) = 1 then (1 : Int32) else 0), .int (nI (20 * ca + r)), .ref (ma 16)]) := by
    intro ls hl
    refine z_zast (v := if uK (20 * ca + r) = 1 then (1 : Int32) else 0) hx hb hK hP hD hS 7 rfl (zix_nI (by first | assumption | omega) (by decide)) (z_vb _) dX4_takes_20 (fun H locs hP hD hS => ?_)
    have hP : va_P (dC, dI) vwCl ([(ma 0, .inr (4, [.int now, .ref (ma 1), .ref (ma 2), .ref (ma 3), .ref (ma 4), .ref (ma 5), .ref (ma 6), .ref (ma 7), .ref (ma 8), .ref (ma 9), .ref (ma 10), .ref (ma 11), .ref (ma 12), .ref (ma 13), .ref (ma 14), .ref (ma 15), .ref (ma 16), .ref (ma 17), .ref (ma 18), .ref (ma 19), .ref (ma 20), .int th])), (ma 3, .inl (cI, 80, .inl uK)), (ma 4, .inl (cI, 80, .inl uW)), (ma 5, .inl (cI, 80, .inl uV)), (ma 6, .inl (cI, 80, .inl uS)), (ma 14, .inl (cI, 4, .inl uP)), (ma 15, .inl (cI, 4, .inl uQ)), (ma 16, .inl (cZ, 80, .inl (upd uH (20 * ca + r) (if uK (20 * ca + r) = 1 then (1 : Int32) else 0)))), (ma 17, .inl (cI, 80, .inl xW)), (ma 18, .inl (cI, 80, .inl xV)), (ma 19, .inl (cI, 80, .inl xS)), (ma 20, .inl (cZ, 80, .inl uN))]) H := hP
    have hD : va_D A ([(ma 0, .inr (4, [.int now, .ref (ma 1), .ref (ma 2), .ref (ma 3), .ref (ma 4), .ref (ma 5), .ref (ma 6), .ref (ma 7), .ref (ma 8), .ref (ma 9), .ref (ma 10), .ref (ma 11), .ref (ma 12), .ref (ma 13), .ref (ma 14), .ref (ma 15), .ref (ma 16), .ref (ma 17), .ref (ma 18), .ref (ma 19), .ref (ma 20), .int th])), (ma 3, .inl (cI, 80, .inl uK)), (ma 4, .inl (cI, 80, .inl uW)), (ma 5, .inl (cI, 80, .inl uV)), (ma 6, .inl (cI, 80, .inl uS)), (ma 14, .inl (cI, 4, .inl uP)), (ma 15, .inl (cI, 4, .inl uQ)), (ma 16, .inl (cZ, 80, .inl (upd uH (20 * ca + r) (if uK (20 * ca + r) = 1 then (1 : Int32) else 0)))), (ma 17, .inl (cI, 80, .inl xW)), (ma 18, .inl (cI, 80, .inl xV)), (ma 19, .inl (cI, 80, .inl xS)), (ma 20, .inl (cZ, 80, .inl uN))]) := hD
    refine lv_aload_n hx hb dX4_takes_21 rfl (lv_at hl 0 rfl) ?_
    refine va_get (D := (dC, dI)) (ci := 4) (v := .ref (ma 17)) (C := RX4) (T := TX4) (N := 22) hx hb hts hiX4 hown hK hP 0 rfl rfl 17 (by decide) l59 (fun _ h9 => h9) rfl dX4_takes_22 ?_
    refine lv_iload_n hx hb dX4_takes_25 rfl (lv_at hl 2 rfl) ?_
    refine lv_aload_n hx hb dX4_takes_26 rfl (lv_at hl 0 rfl) ?_
    refine va_get (D := (dC, dI)) (ci := 4) (v := .ref (ma 4)) (C := RX4) (T := TX4) (N := 22) hx hb hts hiX4 hown hK hP 0 rfl rfl 4 (by decide) l19 (fun _ h9 => h9) rfl dX4_takes_27 ?_
    refine lv_iload_n hx hb dX4_takes_30 rfl (lv_at hl 2 rfl) ?_
    refine z_iald hx hb hK hP 2 rfl (zix_nI (by first | assumption | omega) (by decide)) dX4_takes_31 ?_
    refine z_tv (v := uW (20 * ca + r)) (rfl) ?_
    refine z_iast hx hb hK hP hD hS 8 rfl (zix_nI (by first | assumption | omega) (by decide)) dX4_takes_32 (fun H locs hP hD hS => ?_)
    have hP : va_P (dC, dI) vwCl ([(ma 0, .inr (4, [.int now, .ref (ma 1), .ref (ma 2), .ref (ma 3), .ref (ma 4), .ref (ma 5), .ref (ma 6), .ref (ma 7), .ref (ma 8), .ref (ma 9), .ref (ma 10), .ref (ma 11), .ref (ma 12), .ref (ma 13), .ref (ma 14), .ref (ma 15), .ref (ma 16), .ref (ma 17), .ref (ma 18), .ref (ma 19), .ref (ma 20), .int th])), (ma 3, .inl (cI, 80, .inl uK)), (ma 4, .inl (cI, 80, .inl uW)), (ma 5, .inl (cI, 80, .inl uV)), (ma 6, .inl (cI, 80, .inl uS)), (ma 14, .inl (cI, 4, .inl uP)), (ma 15, .inl (cI, 4, .inl uQ)), (ma 16, .inl (cZ, 80, .inl (upd uH (20 * ca + r) (if uK (20 * ca + r) = 1 then (1 : Int32) else 0)))), (ma 17, .inl (cI, 80, .inl (upd xW (20 * ca + r) (uW (20 * ca + r))))), (ma 18, .inl (cI, 80, .inl xV)), (ma 19, .inl (cI, 80, .inl xS)), (ma 20, .inl (cZ, 80, .inl uN))]) H := hP
    have hD : va_D A ([(ma 0, .inr (4, [.int now, .ref (ma 1), .ref (ma 2), .ref (ma 3), .ref (ma 4), .ref (ma 5), .ref (ma 6), .ref (ma 7), .ref (ma 8), .ref (ma 9), .ref (ma 10), .ref (ma 11), .ref (ma 12), .ref (ma 13), .ref (ma 14), .ref (ma 15), .ref (ma 16), .ref (ma 17), .ref (ma 18), .ref (ma 19), .ref (ma 20), .int th])), (ma 3, .inl (cI, 80, .inl uK)), (ma 4, .inl (cI, 80, .inl uW)), (ma 5, .inl (cI, 80, .inl uV)), (ma 6, .inl (cI, 80, .inl uS)), (ma 14, .inl (cI, 4, .inl uP)), (ma 15, .inl (cI, 4, .inl uQ)), (ma 16, .inl (cZ, 80, .inl (upd uH (20 * ca + r) (if uK (20 * ca + r) = 1 then (1 : Int32) else 0)))), (ma 17, .inl (cI, 80, .inl (upd xW (20 * ca + r) (uW (20 * ca + r))))), (ma 18, .inl (cI, 80, .inl xV)), (ma 19, .inl (cI, 80, .inl xS)), (ma 20, .inl (cZ, 80, .inl uN))]) := hD
    refine lv_aload_n hx hb dX4_takes_33 rfl (lv_at hl 0 rfl) ?_
    refine va_get (D := (dC, dI)) (ci := 4) (v := .ref (ma 18)) (C := RX4) (T := TX4) (N := 22) hx hb hts hiX4 hown hK hP 0 rfl rfl 18 (by decide) l62 (fun _ h9 => h9) rfl dX4_takes_34 ?_
    refine lv_iload_n hx hb dX4_takes_37 rfl (lv_at hl 2 rfl) ?_
    refine lv_aload_n hx hb dX4_takes_38 rfl (lv_at hl 0 rfl) ?_
    refine va_get (D := (dC, dI)) (ci := 4) (v := .ref (ma 5)) (C := RX4) (T := TX4) (N := 22) hx hb hts hiX4 hown hK hP 0 rfl rfl 5 (by decide) l22 (fun _ h9 => h9) rfl dX4_takes_39 ?_
    refine lv_iload_n hx hb dX4_takes_42 rfl (lv_at hl 2 rfl) ?_
    refine z_iald hx hb hK hP 3 rfl (zix_nI (by first | assumption | omega) (by decide)) dX4_takes_43 ?_
    refine z_tv (v := uV (20 * ca + r)) (rfl) ?_
    refine z_iast hx hb hK hP hD hS 9 rfl (zix_nI (by first | assumption | omega) (by decide)) dX4_takes_44 (fun H locs hP hD hS => ?_)
    have hP : va_P (dC, dI) vwCl ([(ma 0, .inr (4, [.int now, .ref (ma 1), .ref (ma 2), .ref (ma 3), .ref (ma 4), .ref (ma 5), .ref (ma 6), .ref (ma 7), .ref (ma 8), .ref (ma 9), .ref (ma 10), .ref (ma 11), .ref (ma 12), .ref (ma 13), .ref (ma 14), .ref (ma 15), .ref (ma 16), .ref (ma 17), .ref (ma 18), .ref (ma 19), .ref (ma 20), .int th])), (ma 3, .inl (cI, 80, .inl uK)), (ma 4, .inl (cI, 80, .inl uW)), (ma 5, .inl (cI, 80, .inl uV)), (ma 6, .inl (cI, 80, .inl uS)), (ma 14, .inl (cI, 4, .inl uP)), (ma 15, .inl (cI, 4, .inl uQ)), (ma 16, .inl (cZ, 80, .inl (upd uH (20 * ca + r) (if uK (20 * ca + r) = 1 then (1 : Int32) else 0)))), (ma 17, .inl (cI, 80, .inl (upd xW (20 * ca + r) (uW (20 * ca + r))))), (ma 18, .inl (cI, 80, .inl (upd xV (20 * ca + r) (uV (20 * ca + r))))), (ma 19, .inl (cI, 80, .inl xS)), (ma 20, .inl (cZ, 80, .inl uN))]) H := hP
    have hD : va_D A ([(ma 0, .inr (4, [.int now, .ref (ma 1), .ref (ma 2), .ref (ma 3), .ref (ma 4), .ref (ma 5), .ref (ma 6), .ref (ma 7), .ref (ma 8), .ref (ma 9), .ref (ma 10), .ref (ma 11), .ref (ma 12), .ref (ma 13), .ref (ma 14), .ref (ma 15), .ref (ma 16), .ref (ma 17), .ref (ma 18), .ref (ma 19), .ref (ma 20), .int th])), (ma 3, .inl (cI, 80, .inl uK)), (ma 4, .inl (cI, 80, .inl uW)), (ma 5, .inl (cI, 80, .inl uV)), (ma 6, .inl (cI, 80, .inl uS)), (ma 14, .inl (cI, 4, .inl uP)), (ma 15, .inl (cI, 4, .inl uQ)), (ma 16, .inl (cZ, 80, .inl (upd uH (20 * ca + r) (if uK (20 * ca + r) = 1 then (1 : Int32) else 0)))), (ma 17, .inl (cI, 80, .inl (upd xW (20 * ca + r) (uW (20 * ca + r))))), (ma 18, .inl (cI, 80, .inl (upd xV (20 * ca + r) (uV (20 * ca + r))))), (ma 19, .inl (cI, 80, .inl xS)), (ma 20, .inl (cZ, 80, .inl uN))]) := hD
    refine lv_aload_n hx hb dX4_takes_45 rfl (lv_at hl 0 rfl) ?_
    refine va_get (D := (dC, dI)) (ci := 4) (v := .ref (ma 19)) (C := RX4) (T := TX4) (N := 22) hx hb hts hiX4 hown hK hP 0 rfl rfl 19 (by decide) l65 (fun _ h9 => h9) rfl dX4_takes_46 ?_
    refine lv_iload_n hx hb dX4_takes_49 rfl (lv_at hl 2 rfl) ?_
    refine lv_aload_n hx hb dX4_takes_50 rfl (lv_at hl 0 rfl) ?_
    refine va_get (D := (dC, dI)) (ci := 4) (v := .ref (ma 6)) (C := RX4) (T := TX4) (N := 22) hx hb hts hiX4 hown hK hP 0 rfl rfl 6 (by decide) l25 (fun _ h9 => h9) rfl dX4_takes_51 ?_
    refine lv_iload_n hx hb dX4_takes_54 rfl (lv_at hl 2 rfl) ?_
    refine z_iald hx hb hK hP 4 rfl (zix_nI (by first | assumption | omega) (by decide)) dX4_takes_55 ?_
    refine z_tv (v := uS (20 * ca + r)) (rfl) ?_
    refine z_iast hx hb hK hP hD hS 10 rfl (zix_nI (by first | assumption | omega) (by decide)) dX4_takes_56 (fun H locs hP hD hS => ?_)
    have hP : va_P (dC, dI) vwCl ([(ma 0, .inr (4, [.int now, .ref (ma 1), .ref (ma 2), .ref (ma 3), .ref (ma 4), .ref (ma 5), .ref (ma 6), .ref (ma 7), .ref (ma 8), .ref (ma 9), .ref (ma 10), .ref (ma 11), .ref (ma 12), .ref (ma 13), .ref (ma 14), .ref (ma 15), .ref (ma 16), .ref (ma 17), .ref (ma 18), .ref (ma 19), .ref (ma 20), .int th])), (ma 3, .inl (cI, 80, .inl uK)), (ma 4, .inl (cI, 80, .inl uW)), (ma 5, .inl (cI, 80, .inl uV)), (ma 6, .inl (cI, 80, .inl uS)), (ma 14, .inl (cI, 4, .inl uP)), (ma 15, .inl (cI, 4, .inl uQ)), (ma 16, .inl (cZ, 80, .inl (upd uH (20 * ca + r) (if uK (20 * ca + r) = 1 then (1 : Int32) else 0)))), (ma 17, .inl (cI, 80, .inl (upd xW (20 * ca + r) (uW (20 * ca + r))))), (ma 18, .inl (cI, 80, .inl (upd xV (20 * ca + r) (uV (20 * ca + r))))), (ma 19, .inl (cI, 80, .inl (upd xS (20 * ca + r) (uS (20 * ca + r))))), (ma 20, .inl (cZ, 80, .inl uN))]) H := hP
    have hD : va_D A ([(ma 0, .inr (4, [.int now, .ref (ma 1), .ref (ma 2), .ref (ma 3), .ref (ma 4), .ref (ma 5), .ref (ma 6), .ref (ma 7), .ref (ma 8), .ref (ma 9), .ref (ma 10), .ref (ma 11), .ref (ma 12), .ref (ma 13), .ref (ma 14), .ref (ma 15), .ref (ma 16), .ref (ma 17), .ref (ma 18), .ref (ma 19), .ref (ma 20), .int th])), (ma 3, .inl (cI, 80, .inl uK)), (ma 4, .inl (cI, 80, .inl uW)), (ma 5, .inl (cI, 80, .inl uV)), (ma 6, .inl (cI, 80, .inl uS)), (ma 14, .inl (cI, 4, .inl uP)), (ma 15, .inl (cI, 4, .inl uQ)), (ma 16, .inl (cZ, 80, .inl (upd uH (20 * ca + r) (if uK (20 * ca + r) = 1 then (1 : Int32) else 0)))), (ma 17, .inl (cI, 80, .inl (upd xW (20 * ca + r) (uW (20 * ca + r))))), (ma 18, .inl (cI, 80, .inl (upd xV (20 * ca + r) (uV (20 * ca + r))))), (ma 19, .inl (cI, 80, .inl (upd xS (20 * ca + r) (uS (20 * ca + r))))), (ma 20, .inl (cZ, 80, .inl uN))]) := hD
    refine lv_aload_n hx hb dX4_takes_57 rfl (lv_at hl 0 rfl) ?_
    refine va_get (D := (dC, dI)) (ci := 4) (v := .ref (ma 20)) (C := RX4) (T := TX4) (N := 22) hx hb hts hiX4 hown hK hP 0 rfl rfl 20 (by decide) l68 (fun _ h9 => h9) rfl dX4_takes_58 ?_
    refine lv_iload_n hx hb dX4_takes_61 rfl (lv_at hl 2 rfl) ?_
    refine lv_iconst (v := 1) hx hb dX4_takes_62 (by decide) ?_
    refine z_zast (v := 1) hx hb hK hP hD hS 11 rfl (zix_nI (by first | assumption | omega) (by decide)) (rfl) dX4_takes_63 (fun H locs hP hD hS => ?_)
    have hP : va_P (dC, dI) vwCl ([(ma 0, .inr (4, [.int now, .ref (ma 1), .ref (ma 2), .ref (ma 3), .ref (ma 4), .ref (ma 5), .ref (ma 6), .ref (ma 7), .ref (ma 8), .ref (ma 9), .ref (ma 10), .ref (ma 11), .ref (ma 12), .ref (ma 13), .ref (ma 14), .ref (ma 15), .ref (ma 16), .ref (ma 17), .ref (ma 18), .ref (ma 19), .ref (ma 20), .int th])), (ma 3, .inl (cI, 80, .inl uK)), (ma 4, .inl (cI, 80, .inl uW)), (ma 5, .inl (cI, 80, .inl uV)), (ma 6, .inl (cI, 80, .inl uS)), (ma 14, .inl (cI, 4, .inl uP)), (ma 15, .inl (cI, 4, .inl uQ)), (ma 16, .inl (cZ, 80, .inl (upd uH (20 * ca + r) (if uK (20 * ca + r) = 1 then (1 : Int32) else 0)))), (ma 17, .inl (cI, 80, .inl (upd xW (20 * ca + r) (uW (20 * ca + r))))), (ma 18, .inl (cI, 80, .inl (upd xV (20 * ca + r) (uV (20 * ca + r))))), (ma 19, .inl (cI, 80, .inl (upd xS (20 * ca + r) (uS (20 * ca + r))))), (ma 20, .inl (cZ, 80, .inl (upd uN (20 * ca + r) 1)))]) H := hP
    have hD : va_D A ([(ma 0, .inr (4, [.int now, .ref (ma 1), .ref (ma 2), .ref (ma 3), .ref (ma 4), .ref (ma 5), .ref (ma 6), .ref (ma 7), .ref (ma 8), .ref (ma 9), .ref (ma 10), .ref (ma 11), .ref (ma 12), .ref (ma 13), .ref (ma 14), .ref (ma 15), .ref (ma 16), .ref (ma 17), .ref (ma 18), .ref (ma 19), .ref (ma 20), .int th])), (ma 3, .inl (cI, 80, .inl uK)), (ma 4, .inl (cI, 80, .inl uW)), (ma 5, .inl (cI, 80, .inl uV)), (ma 6, .inl (cI, 80, .inl uS)), (ma 14, .inl (cI, 4, .inl uP)), (ma 15, .inl (cI, 4, .inl uQ)), (ma 16, .inl (cZ, 80, .inl (upd uH (20 * ca + r) (if uK (20 * ca + r) = 1 then (1 : Int32) else 0)))), (ma 17, .inl (cI, 80, .inl (upd xW (20 * ca + r) (uW (20 * ca + r))))), (ma 18, .inl (cI, 80, .inl (upd xV (20 * ca + r) (uV (20 * ca + r))))), (ma 19, .inl (cI, 80, .inl (upd xS (20 * ca + r) (uS (20 * ca + r))))), (ma 20, .inl (cZ, 80, .inl (upd uN (20 * ca + r) 1)))]) := hD
    refine lv_aload_n hx hb dX4_takes_64 rfl (lv_at hl 0 rfl) ?_
    refine va_get (D := (dC, dI)) (ci := 4) (v := .ref (ma 14)) (C := RX4) (T := TX4) (N := 22) hx hb hts hiX4 hown hK hP 0 rfl rfl 14 (by decide) l50 (fun _ h9 => h9) rfl dX4_takes_65 ?_
    refine lv_iload_n hx hb dX4_takes_68 rfl (lv_at hl 1 rfl) ?_
    refine lv_aload_n hx hb dX4_takes_69 rfl (lv_at hl 0 rfl) ?_
    refine va_get (D := (dC, dI)) (ci := 4) (v := .ref (ma 6)) (C := RX4) (T := TX4) (N := 22) hx hb hts hiX4 hown hK hP 0 rfl rfl 6 (by decide) l25 (fun _ h9 => h9) rfl dX4_takes_70 ?_
    refine lv_iload_n hx hb dX4_takes_73 rfl (lv_at hl 2 rfl) ?_
    refine z_iald hx hb hK hP 4 rfl (zix_nI (by first | assumption | omega) (by decide)) dX4_takes_74 ?_
    refine z_tv (v := uS (20 * ca + r)) (rfl) ?_
    refine z_iast hx hb hK hP hD hS 5 rfl (zix_nI (by first | assumption | omega) (by decide)) dX4_takes_75 (fun H locs hP hD hS => ?_)
    have hP : va_P (dC, dI) vwCl ([(ma 0, .inr (4, [.int now, .ref (ma 1), .ref (ma 2), .ref (ma 3), .ref (ma 4), .ref (ma 5), .ref (ma 6), .ref (ma 7), .ref (ma 8), .ref (ma 9), .ref (ma 10), .ref (ma 11), .ref (ma 12), .ref (ma 13), .ref (ma 14), .ref (ma 15), .ref (ma 16), .ref (ma 17), .ref (ma 18), .ref (ma 19), .ref (ma 20), .int th])), (ma 3, .inl (cI, 80, .inl uK)), (ma 4, .inl (cI, 80, .inl uW)), (ma 5, .inl (cI, 80, .inl uV)), (ma 6, .inl (cI, 80, .inl uS)), (ma 14, .inl (cI, 4, .inl (upd uP ca (uS (20 * ca + r))))), (ma 15, .inl (cI, 4, .inl uQ)), (ma 16, .inl (cZ, 80, .inl (upd uH (20 * ca + r) (if uK (20 * ca + r) = 1 then (1 : Int32) else 0)))), (ma 17, .inl (cI, 80, .inl (upd xW (20 * ca + r) (uW (20 * ca + r))))), (ma 18, .inl (cI, 80, .inl (upd xV (20 * ca + r) (uV (20 * ca + r))))), (ma 19, .inl (cI, 80, .inl (upd xS (20 * ca + r) (uS (20 * ca + r))))), (ma 20, .inl (cZ, 80, .inl (upd uN (20 * ca + r) 1)))]) H := hP
    have hD : va_D A ([(ma 0, .inr (4, [.int now, .ref (ma 1), .ref (ma 2), .ref (ma 3), .ref (ma 4), .ref (ma 5), .ref (ma 6), .ref (ma 7), .ref (ma 8), .ref (ma 9), .ref (ma 10), .ref (ma 11), .ref (ma 12), .ref (ma 13), .ref (ma 14), .ref (ma 15), .ref (ma 16), .ref (ma 17), .ref (ma 18), .ref (ma 19), .ref (ma 20), .int th])), (ma 3, .inl (cI, 80, .inl uK)), (ma 4, .inl (cI, 80, .inl uW)), (ma 5, .inl (cI, 80, .inl uV)), (ma 6, .inl (cI, 80, .inl uS)), (ma 14, .inl (cI, 4, .inl (upd uP ca (uS (20 * ca + r))))), (ma 15, .inl (cI, 4, .inl uQ)), (ma 16, .inl (cZ, 80, .inl (upd uH (20 * ca + r) (if uK (20 * ca + r) = 1 then (1 : Int32) else 0)))), (ma 17, .inl (cI, 80, .inl (upd xW (20 * ca + r) (uW (20 * ca + r))))), (ma 18, .inl (cI, 80, .inl (upd xV (20 * ca + r) (uV (20 * ca + r))))), (ma 19, .inl (cI, 80, .inl (upd xS (20 * ca + r) (uS (20 * ca + r))))), (ma 20, .inl (cZ, 80, .inl (upd uN (20 * ca + r) 1)))]) := hD
    refine lv_aload_n hx hb dX4_takes_76 rfl (lv_at hl 0 rfl) ?_
    refine va_get (D := (dC, dI)) (ci := 4) (v := .ref (ma 15)) (C := RX4) (T := TX4) (N := 22) hx hb hts hiX4 hown hK hP 0 rfl rfl 15 (by decide) l53 (fun _ h9 => h9) rfl dX4_takes_77 ?_
    refine lv_iload_n hx hb dX4_takes_80 rfl (lv_at hl 1 rfl) ?_
    refine lv_iload_n hx hb dX4_takes_81 rfl (lv_at hl 2 rfl) ?_
    refine lv_bipush (v := 20) hx hb dX4_takes_82 (by decide) ?_
    refine lv_iload_n hx hb dX4_takes_84 rfl (lv_at hl 1 rfl) ?_
    refine lv_imul hx hb dX4_takes_85 ?_
    refine z_tv (v := nI (20 * ca)) (pk_mul 20 ca) ?_
    refine lv_isub hx hb dX4_takes_86 ?_
    refine z_tv (v := nI r) (z_sb) ?_
    refine z_iast hx hb hK hP hD hS 6 rfl (zix_nI (by first | assumption | omega) (by decide)) dX4_takes_87 (fun H locs hP hD hS => ?_)
    have hP : va_P (dC, dI) vwCl ([(ma 0, .inr (4, [.int now, .ref (ma 1), .ref (ma 2), .ref (ma 3), .ref (ma 4), .ref (ma 5), .ref (ma 6), .ref (ma 7), .ref (ma 8), .ref (ma 9), .ref (ma 10), .ref (ma 11), .ref (ma 12), .ref (ma 13), .ref (ma 14), .ref (ma 15), .ref (ma 16), .ref (ma 17), .ref (ma 18), .ref (ma 19), .ref (ma 20), .int th])), (ma 3, .inl (cI, 80, .inl uK)), (ma 4, .inl (cI, 80, .inl uW)), (ma 5, .inl (cI, 80, .inl uV)), (ma 6, .inl (cI, 80, .inl uS)), (ma 14, .inl (cI, 4, .inl (upd uP ca (uS (20 * ca + r))))), (ma 15, .inl (cI, 4, .inl (upd uQ ca (nI r)))), (ma 16, .inl (cZ, 80, .inl (upd uH (20 * ca + r) (if uK (20 * ca + r) = 1 then (1 : Int32) else 0)))), (ma 17, .inl (cI, 80, .inl (upd xW (20 * ca + r) (uW (20 * ca + r))))), (ma 18, .inl (cI, 80, .inl (upd xV (20 * ca + r) (uV (20 * ca + r))))), (ma 19, .inl (cI, 80, .inl (upd xS (20 * ca + r) (uS (20 * ca + r))))), (ma 20, .inl (cZ, 80, .inl (upd uN (20 * ca + r) 1)))]) H := hP
    have hD : va_D A ([(ma 0, .inr (4, [.int now, .ref (ma 1), .ref (ma 2), .ref (ma 3), .ref (ma 4), .ref (ma 5), .ref (ma 6), .ref (ma 7), .ref (ma 8), .ref (ma 9), .ref (ma 10), .ref (ma 11), .ref (ma 12), .ref (ma 13), .ref (ma 14), .ref (ma 15), .ref (ma 16), .ref (ma 17), .ref (ma 18), .ref (ma 19), .ref (ma 20), .int th])), (ma 3, .inl (cI, 80, .inl uK)), (ma 4, .inl (cI, 80, .inl uW)), (ma 5, .inl (cI, 80, .inl uV)), (ma 6, .inl (cI, 80, .inl uS)), (ma 14, .inl (cI, 4, .inl (upd uP ca (uS (20 * ca + r))))), (ma 15, .inl (cI, 4, .inl (upd uQ ca (nI r)))), (ma 16, .inl (cZ, 80, .inl (upd uH (20 * ca + r) (if uK (20 * ca + r) = 1 then (1 : Int32) else 0)))), (ma 17, .inl (cI, 80, .inl (upd xW (20 * ca + r) (uW (20 * ca + r))))), (ma 18, .inl (cI, 80, .inl (upd xV (20 * ca + r) (uV (20 * ca + r))))), (ma 19, .inl (cI, 80, .inl (upd xS (20 * ca + r) (uS (20 * ca + r))))), (ma 20, .inl (cZ, 80, .inl (upd uN (20 * ca + r) 1)))]) := hD
    exact W.vret hx hb hr (fun t ht hW => ⟨rfl, ⟨by rw [ht]; exact hP, hD⟩, hS.F ht⟩) hS.2.2 dX4_takes_88
  refine lv_aload_n hx hb dX4_takes_5 rfl (lv_at hl 0 rfl) ?_
  refine va_get (D := (dC, dI)) (ci := 4) (v := .ref (ma 3)) (C := RX4) (T := TX4) (N := 22) hx hb hts hiX4 hown hK hP 0 rfl rfl 3 (by decide) l16 (fun _ h9 => h9) rfl dX4_takes_6 ?_
  refine lv_iload_n hx hb dX4_takes_9 rfl (lv_at hl 2 rfl) ?_
  refine z_iald hx hb hK hP 1 rfl (zix_nI (by first | assumption | omega) (by decide)) dX4_takes_10 ?_
  refine z_tv (v := uK (20 * ca + r)) (rfl) ?_
  refine lv_iconst (v := 1) hx hb dX4_takes_11 (by decide) ?_
  refine lv_icmp_ne (tgt := 19) hx hb dX4_takes_12 (by decide) (fun c_12 => ?_) (fun c_12 => ?_)
  · skip
    refine lv_iconst (v := 0) hx hb dX4_takes_19 (by decide) ?_
    refine z_tv (v := if uK (20 * ca + r) = 1 then (1 : Int32) else 0) (by simp [c_12]) ?_
    exact J20_1 _ (lv_sub hl [0, 1, 2] rfl)
  · skip
    refine lv_iconst (v := 1) hx hb dX4_takes_15 (by decide) ?_
    refine lv_goto (tgt := 20) hx hb dX4_takes_16 (by decide) ?_
    refine z_tv (v := if uK (20 * ca + r) = 1 then (1 : Int32) else 0) (by simp [c_12]) ?_
    exact J20_1 _ (lv_sub hl [0, 1, 2] rfl)
set_option maxHeartbeats 4000000 in
set_option maxRecDepth 100000 in
/-- Model.isAlike -/
theorem kX4_isAlike (l : Launch) (dC : Nat → ClassId) (dI : Nat → Nat → Nat) (cI cZ cH cJ : ClassId) (ma : Nat → Nat) (now : Int32) (th : Int32) (uW : zI) (uV : zI) (uS : zI) (uH : zI) (xW : zI) (xV : zI) (xS : zI) (k : Nat) (hk : k < 80) : Met l yX4_isAlike wsX4_isAlike ({ frames := 0, cells := 0, slots := 0, locals := 0 }) (zRc dC dI (zTy cI cZ cH cJ) [.ref (ma 0), .int (nI k)] ([(ma 0, .inr (4, [.int now, .ref (ma 1), .ref (ma 2), .ref (ma 3), .ref (ma 4), .ref (ma 5), .ref (ma 6), .ref (ma 7), .ref (ma 8), .ref (ma 9), .ref (ma 10), .ref (ma 11), .ref (ma 12), .ref (ma 13), .ref (ma 14), .ref (ma 15), .ref (ma 16), .ref (ma 17), .ref (ma 18), .ref (ma 19), .ref (ma 20), .int th])), (ma 4, .inl (cI, 80, .inl uW)), (ma 5, .inl (cI, 80, .inl uV)), (ma 6, .inl (cI, 80, .inl uS)), (ma 16, .inl (cZ, 80, .inl uH)), (ma 17, .inl (cI, 80, .inl xW)), (ma 18, .inl (cI, 80, .inl xV)), (ma 19, .inl (cI, 80, .inl xS))])) (zSi (yali uH xW xV xS uW uV uS k)) 0 0 (fun _ => False) := by
  refine Met.ofW (cc := cX4_isAlike) (maxL := 2) (ret := (some .boolean)) (by decide) rfl ?_
  intro p e s m args below meth c s₁ B hml hv0
  obtain ⟨rfl, hP, hK⟩ := hv0
  have hx := B.exec
  have hb := B.bytes
  have hr := B.returns
  have hts := atoms_spec (ws := wsX4_isAlike) B.pre
  have hown : s.vm.findClass RX4 = some m.cls := findClass_of_methodNamed B.named
  have hlocks := B.notSynchronized
  have hl := lv_entry ([.ref (ma 0), .int (nI k)]) (n := 2) (Nat.le_of_ble_eq_true rfl)
  rw [lg_entry_eq]
  generalize (lg_sl ([.ref (ma 0), .int (nI k)]) ++ List.replicate (2 - (lg_sl ([.ref (ma 0), .int (nI k)])).length) Slot.unset).toArray = ls at hl ⊢
  have hl : lv_has ls 2 [(0, .ref (ma 0)), (1, .int (nI k))] := hl
  have hiX4 : ∀ w ∈ wsX40, w ∈ wsX4_isAlike := by decide +kernel
  have l19 := hts (.fieldLink RX4 19 "CatalogueHarvesterModel" "works" "[I") (by decide +kernel)
  have l22 := hts (.fieldLink RX4 22 "CatalogueHarvesterModel" "values" "[I") (by decide +kernel)
  have l25 := hts (.fieldLink RX4 25 "CatalogueHarvesterModel" "stamps" "[I") (by decide +kernel)
  have l56 := hts (.fieldLink RX4 56 "CatalogueHarvesterModel" "isHeld" "[Z") (by decide +kernel)
  have l59 := hts (.fieldLink RX4 59 "CatalogueHarvesterModel" "heldWorks" "[I") (by decide +kernel)
  have l62 := hts (.fieldLink RX4 62 "CatalogueHarvesterModel" "heldValues" "[I") (by decide +kernel)
  have l65 := hts (.fieldLink RX4 65 "CatalogueHarvesterModel" "heldStamps" "[I") (by decide +kernel)
  refine lv_aload_n hx hb dX4_isAlike_0 rfl (lv_at hl 0 rfl) ?_
  refine va_get (D := (dC, dI)) (ci := 4) (v := .ref (ma 16)) (C := RX4) (T := TX4) (N := 22) hx hb hts hiX4 hown hK hP 0 rfl rfl 16 (by decide) l56 (fun _ h9 => h9) rfl dX4_isAlike_1 ?_
  refine lv_iload_n hx hb dX4_isAlike_4 rfl (lv_at hl 1 rfl) ?_
  refine z_zald hx hb hK hP 4 rfl (zix_nI (by first | assumption | omega) (by decide)) dX4_isAlike_5 ?_
  refine z_tv (v := uH k) (rfl) ?_
  refine lv_if_eq (tgt := 58) hx hb dX4_isAlike_6 (by decide) (fun c_6 => ?_) (fun c_6 => ?_)
  · skip
    refine lv_iconst (v := 0) hx hb dX4_isAlike_58 (by decide) ?_
    refine z_tv (v := yali uH xW xV xS uW uV uS k) (by unfold yali; grind) ?_
    exact W.zret (ty := .boolean) hx hb hr (yali_nl _ _ _ _ _ _ _ _) (fun t ht hW => ⟨rfl, ht⟩) (fun _ h => nomatch h) dX4_isAlike_59
  · skip
    refine lv_aload_n hx hb dX4_isAlike_9 rfl (lv_at hl 0 rfl) ?_
    refine va_get (D := (dC, dI)) (ci := 4) (v := .ref (ma 17)) (C := RX4) (T := TX4) (N := 22) hx hb hts hiX4 hown hK hP 0 rfl rfl 17 (by decide) l59 (fun _ h9 => h9) rfl dX4_isAlike_10 ?_
    refine lv_iload_n hx hb dX4_isAlike_13 rfl (lv_at hl 1 rfl) ?_
    refine z_iald hx hb hK hP 5 rfl (zix_nI (by first | assumption | omega) (by decide)) dX4_isAlike_14 ?_
    refine z_tv (v := xW k) (rfl) ?_
    refine lv_aload_n hx hb dX4_isAlike_15 rfl (lv_at hl 0 rfl) ?_
    refine va_get (D := (dC, dI)) (ci := 4) (v := .ref (ma 4)) (C := RX4) (T := TX4) (N := 22) hx hb hts hiX4 hown hK hP 0 rfl rfl 4 (by decide) l19 (fun _ h9 => h9) rfl dX4_isAlike_16 ?_
    refine lv_iload_n hx hb dX4_isAlike_19 rfl (lv_at hl 1 rfl) ?_
    refine z_iald hx hb hK hP 1 rfl (zix_nI (by first | assumption | omega) (by decide)) dX4_isAlike_20 ?_
    refine z_tv (v := uW k) (rfl) ?_
    refine lv_icmp_ne (tgt := 58) hx hb dX4_isAlike_21 (by decide) (fun c_21 => ?_) (fun c_21 => ?_)
    · skip
      refine lv_iconst (v := 0) hx hb dX4_isAlike_58 (by decide) ?_
      refine z_tv (v := yali uH xW xV xS uW uV uS k) (by unfold yali; grind) ?_
      exact W.zret (ty := .boolean) hx hb hr (yali_nl _ _ _ _ _ _ _ _) (fun t ht hW => ⟨rfl, ht⟩) (fun _ h => nomatch h) dX4_isAlike_59
    · skip
      refine lv_aload_n hx hb dX4_isAlike_24 rfl (lv_at hl 0 rfl) ?_
      refine va_get (D := (dC, dI)) (ci := 4) (v := .ref (ma 18)) (C := RX4) (T := TX4) (N := 22) hx hb hts hiX4 hown hK hP 0 rfl rfl 18 (by decide) l62 (fun _ h9 => h9) rfl dX4_isAlike_25 ?_
      refine lv_iload_n hx hb dX4_isAlike_28 rfl (lv_at hl 1 rfl) ?_
      refine z_iald hx hb hK hP 6 rfl (zix_nI (by first | assumption | omega) (by decide)) dX4_isAlike_29 ?_
      refine z_tv (v := xV k) (rfl) ?_
      refine lv_aload_n hx hb dX4_isAlike_30 rfl (lv_at hl 0 rfl) ?_
      refine va_get (D := (dC, dI)) (ci := 4) (v := .ref (ma 5)) (C := RX4) (T := TX4) (N := 22) hx hb hts hiX4 hown hK hP 0 rfl rfl 5 (by decide) l22 (fun _ h9 => h9) rfl dX4_isAlike_31 ?_
      refine lv_iload_n hx hb dX4_isAlike_34 rfl (lv_at hl 1 rfl) ?_
      refine z_iald hx hb hK hP 2 rfl (zix_nI (by first | assumption | omega) (by decide)) dX4_isAlike_35 ?_
      refine z_tv (v := uV k) (rfl) ?_
      refine lv_icmp_ne (tgt := 58) hx hb dX4_isAlike_36 (by decide) (fun c_36 => ?_) (fun c_36 => ?_)
      · skip
        refine lv_iconst (v := 0) hx hb dX4_isAlike_58 (by decide) ?_
        refine z_tv (v := yali uH xW xV xS uW uV uS k) (by unfold yali; grind) ?_
        exact W.zret (ty := .boolean) hx hb hr (yali_nl _ _ _ _ _ _ _ _) (fun t ht hW => ⟨rfl, ht⟩) (fun _ h => nomatch h) dX4_isAlike_59
      · skip
        refine lv_aload_n hx hb dX4_isAlike_39 rfl (lv_at hl 0 rfl) ?_
        refine va_get (D := (dC, dI)) (ci := 4) (v := .ref (ma 19)) (C := RX4) (T := TX4) (N := 22) hx hb hts hiX4 hown hK hP 0 rfl rfl 19 (by decide) l65 (fun _ h9 => h9) rfl dX4_isAlike_40 ?_
        refine lv_iload_n hx hb dX4_isAlike_43 rfl (lv_at hl 1 rfl) ?_
        refine z_iald hx hb hK hP 7 rfl (zix_nI (by first | assumption | omega) (by decide)) dX4_isAlike_44 ?_
        refine z_tv (v := xS k) (rfl) ?_
        refine lv_aload_n hx hb dX4_isAlike_45 rfl (lv_at hl 0 rfl) ?_
        refine va_get (D := (dC, dI)) (ci := 4) (v := .ref (ma 6)) (C := RX4) (T := TX4) (N := 22) hx hb hts hiX4 hown hK hP 0 rfl rfl 6 (by decide) l25 (fun _ h9 => h9) rfl dX4_isAlike_46 ?_
        refine lv_iload_n hx hb dX4_isAlike_49 rfl (lv_at hl 1 rfl) ?_
        refine z_iald hx hb hK hP 3 rfl (zix_nI (by first | assumption | omega) (by decide)) dX4_isAlike_50 ?_
        refine z_tv (v := uS k) (rfl) ?_
        refine lv_icmp_ne (tgt := 58) hx hb dX4_isAlike_51 (by decide) (fun c_51 => ?_) (fun c_51 => ?_)
        · skip
          refine lv_iconst (v := 0) hx hb dX4_isAlike_58 (by decide) ?_
          refine z_tv (v := yali uH xW xV xS uW uV uS k) (by unfold yali; grind) ?_
          exact W.zret (ty := .boolean) hx hb hr (yali_nl _ _ _ _ _ _ _ _) (fun t ht hW => ⟨rfl, ht⟩) (fun _ h => nomatch h) dX4_isAlike_59
        · skip
          refine lv_iconst (v := 1) hx hb dX4_isAlike_54 (by decide) ?_
          refine lv_goto (tgt := 59) hx hb dX4_isAlike_55 (by decide) ?_
          refine z_tv (v := yali uH xW xV xS uW uV uS k) (by unfold yali; grind) ?_
          exact W.zret (ty := .boolean) hx hb hr (yali_nl _ _ _ _ _ _ _ _) (fun t ht hW => ⟨rfl, ht⟩) (fun _ h => nomatch h) dX4_isAlike_59
