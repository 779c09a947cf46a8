set_option maxHeartbeats 4000000 in
set_option maxRecDepth 100000 in
/-- FarCatalogue.stampOfDay -/
theorem kX0_stampOfDay (l : Launch) (dC : Nat → ClassId) (dI : Nat → Nat → Nat) (cI cZ cH cJ : ClassId) (g0 : Nat) (b0 : Nat) (gI : Nat) (gS : Nat) (gD : Nat) (un : Int32) (de : Int32) (day : Int32) : Met l yX0_stampOfDay wsX0_stampOfDay ({ frames := 0, cells := 0, slots := 0, locals := 0 }) (zRc dC dI (zTy cI cZ cH cJ) [.ref g0, .int day] ([(g0, .inr (0, [.ref b0, .ref gI, .ref gS, .ref gD, .int un, .int de]))])) (zSi (zst un day)) 0 0 (fun _ => False) := by
  refine Met.ofW (cc := cX0_stampOfDay) (maxL := 2) (ret := (some .int)) (by decide) rfl ?_
  intro p e s m args below meth c s₁ B hml hv0
  obtain ⟨rfl, hP, hK⟩ := hv0
  have hx := B.exec
  have hb := B.bytes
  have hr := B.returns
  have hts := atoms_spec (ws := wsX0_stampOfDay) B.pre
  have hown : s.vm.findClass RX0 = some m.cls := findClass_of_methodNamed B.named
  have hlocks := B.notSynchronized
  have hl := lv_entry ([.ref g0, .int day]) (n := 2) (Nat.le_of_ble_eq_true rfl)
  rw [lg_entry_eq]
  generalize (lg_sl ([.ref g0, .int day]) ++ List.replicate (2 - (lg_sl ([.ref g0, .int day])).length) Slot.unset).toArray = ls at hl ⊢
  have hl : lv_has ls 2 [(0, .ref g0), (1, .int day)] := hl
  have hiX0 : ∀ w ∈ wsX00, w ∈ wsX0_stampOfDay := by decide +kernel
  have l29 := hts (.fieldLink RX0 29 "CatalogueHarvester$FarCatalogue" "unit" "I") (by decide +kernel)
  refine lv_aload_n hx hb dX0_stampOfDay_0 rfl (lv_at hl 0 rfl) ?_
  refine va_get (D := (dC, dI)) (ci := 0) (v := .int un) (C := RX0) (T := TX0) (N := 6) hx hb hts hiX0 hown hK hP 0 rfl rfl 4 (by decide) l29 (fun _ h9 => h9) rfl dX0_stampOfDay_1 ?_
  refine lv_iconst (v := 1) hx hb dX0_stampOfDay_4 (by decide) ?_
  refine lv_icmp_le (tgt := 19) hx hb dX0_stampOfDay_5 (by decide) (fun c_5 => ?_) (fun c_5 => ?_)
  · skip
    refine lv_iload_n hx hb dX0_stampOfDay_19 rfl (lv_at hl 1 rfl) ?_
    refine z_tv (v := zst un day) (by simp [zst, c_5]) ?_
    exact W.iret hx hb hr (fun t ht hW => ⟨rfl, ht⟩) (fun _ h => nomatch h) dX0_stampOfDay_20
  · skip
    refine lv_iload_n hx hb dX0_stampOfDay_8 rfl (lv_at hl 1 rfl) ?_
    refine lv_iload_n hx hb dX0_stampOfDay_9 rfl (lv_at hl 1 rfl) ?_
    refine lv_aload_n hx hb dX0_stampOfDay_10 rfl (lv_at hl 0 rfl) ?_
    refine va_get (D := (dC, dI)) (ci := 0) (v := .int un) (C := RX0) (T := TX0) (N := 6) hx hb hts hiX0 hown hK hP 0 rfl rfl 4 (by decide) l29 (fun _ h9 => h9) rfl dX0_stampOfDay_11 ?_
    refine lv_irem hx hb dX0_stampOfDay_14 (z_un c_5) ?_
    refine lv_isub hx hb dX0_stampOfDay_15 ?_
    refine lv_goto (tgt := 20) hx hb dX0_stampOfDay_16 (by decide) ?_
    refine z_tv (v := zst un day) (by simp [zst, c_5]) ?_
    exact W.iret hx hb hr (fun t ht hW => ⟨rfl, ht⟩) (fun _ h => nomatch h) dX0_stampOfDay_20
set_option maxHeartbeats 4000000 in
set_option maxRecDepth 100000 in
/-- FarCatalogue.change -/
theorem kX0_change (l : Launch) (dC : Nat → ClassId) (dI : Nat → Nat → Nat) (cI cZ cH cJ : ClassId) (g0 : Nat) (b0 : Nat) (gI : Nat) (gS : Nat) (gD : Nat) (bT : Nat) (bW : Nat) (bV : Nat) (bS : Nat) (un : Int32) (de : Int32) (fT : zI) (fW : zI) (fV : zI) (fS : zI) (iT : zI) (r : Nat) (hrr : r < 20) (w : Int32) (v : Int32) (today : Int32) (sz : Nat) : Met l yX0_change wsX0_change ({ frames := 1, cells := 0, slots := 0, locals := 24 }) (zPc dC dI (zTy cI cZ cH cJ) [.ref g0, .int (nI r), .int w, .int v, .int today] sz ([(g0, .inr (0, [.ref b0, .ref gI, .ref gS, .ref gD, .int un, .int de])), (b0, .inr (2, [.ref bT, .ref bW, .ref bV, .ref bS])), (bT, .inl (cZ, 20, .inl fT)), (bW, .inl (cI, 20, .inl fW)), (bV, .inl (cI, 20, .inl fV)), (bS, .inl (cI, 20, .inl fS)), (gI, .inl (cZ, 20, .inl iT))])) (zQi dC dI (zst un today) ([(g0, .inr (0, [.ref b0, .ref gI, .ref gS, .ref gD, .int un, .int de])), (b0, .inr (2, [.ref bT, .ref bW, .ref bV, .ref bS])), (bT, .inl (cZ, 20, .inl (upd fT r 1))), (bW, .inl (cI, 20, .inl (upd fW r w))), (bV, .inl (cI, 20, .inl (upd fV r v))), (bS, .inl (cI, 20, .inl (upd fS r (zst un today)))), (gI, .inl (cZ, 20, .inl (upd iT r 0)))]) (va_A ([(g0, .inr (0, [.ref b0, .ref gI, .ref gS, .ref gD, .int un, .int de])), (b0, .inr (2, [.ref bT, .ref bW, .ref bV, .ref bS])), (bT, .inl (cZ, 20, .inl fT)), (bW, .inl (cI, 20, .inl fW)), (bV, .inl (cI, 20, .inl fV)), (bS, .inl (cI, 20, .inl fS)), (gI, .inl (cZ, 20, .inl iT))]) sz)) 0 0 (va_A ([(g0, .inr (0, [.ref b0, .ref gI, .ref gS, .ref gD, .int un, .int de])), (b0, .inr (2, [.ref bT, .ref bW, .ref bV, .ref bS])), (bT, .inl (cZ, 20, .inl fT)), (bW, .inl (cI, 20, .inl fW)), (bV, .inl (cI, 20, .inl fV)), (bS, .inl (cI, 20, .inl fS)), (gI, .inl (cZ, 20, .inl iT))]) sz) := by
  refine Met.ofW (cc := cX0_change) (maxL := 6) (ret := (some .int)) (by decide) rfl ?_
  intro p e s m args below meth c s₁ B hml hv0
  obtain ⟨rfl, hsz, hP, hK, hD0⟩ := hv0
  have hx := B.exec
  have hb := B.bytes
  have hr := B.returns
  have hts := atoms_spec (ws := wsX0_change) B.pre
  have hown : s.vm.findClass RX0 = some m.cls := findClass_of_methodNamed B.named
  have hlocks := B.notSynchronized
  subst hsz
  have hD := hD0.self (sz := s.heap.size)
  generalize hAe : va_A ([(g0, .inr (0, [.ref b0, .ref gI, .ref gS, .ref gD, .int un, .int de])), (b0, .inr (2, [.ref bT, .ref bW, .ref bV, .ref bS])), (bT, .inl (cZ, 20, .inl fT)), (bW, .inl (cI, 20, .inl fW)), (bV, .inl (cI, 20, .inl fV)), (bS, .inl (cI, 20, .inl fS)), (gI, .inl (cZ, 20, .inl iT))]) s.heap.size = A at hD ⊢
  have hA : ∀ q : Nat, s.heap.size ≤ q → A q := fun q h => by rw [← hAe]; exact Or.inr h
  have hS : va_S A s.heap s.heap [] := va_S.rf
  have hl := lv_entry ([.ref g0, .int (nI r), .int w, .int v, .int today]) (n := 6) (Nat.le_of_ble_eq_true rfl)
  rw [lg_entry_eq]
  generalize (lg_sl ([.ref g0, .int (nI r), .int w, .int v, .int today]) ++ List.replicate (6 - (lg_sl ([.ref g0, .int (nI r), .int w, .int v, .int today])).length) Slot.unset).toArray = ls at hl ⊢
  have hl : lv_has ls 6 [(0, .ref g0), (1, .int (nI r)), (2, .int w), (3, .int v), (4, .int today)] := hl
  have hiX0 : ∀ w ∈ wsX00, w ∈ wsX0_change := by decide +kernel
  have l12 := hts (.fieldLink RX0 12 "CatalogueHarvester$FarCatalogue" "records" "LCatalogueHarvester$Records;") (by decide +kernel)
  have l18 := hts (.fieldLink RX0 18 "CatalogueHarvester$FarCatalogue" "isTold" "[Z") (by decide +kernel)
  refine lv_aload_n hx hb dX0_change_0 rfl (lv_at hl 0 rfl) ?_
  refine lv_iload hx hb dX0_change_1 (lv_at hl 4 rfl) ?_
  refine z_cRi (va_runV (As := [.int today]) (rest := []) ⟨hx, hb, hml, hown, hts⟩ (kX0_stampOfDay l dC dI cI cZ cH cJ g0 b0 gI gS gD un de today) (cwV 1 hts gX0_change_X0_stampOfDay rfl rfl rfl (by decide +kernel) ⟨Nat.le_of_ble_eq_true rfl, Nat.le_of_ble_eq_true rfl⟩) (zPreR (is := [0]) hK hP rfl (va_recv hK hP (ci := 0) (q0 := 0) rfl rfl)) rfl rfl hl.1 rfl (lv_room (Nat.le_of_ble_eq_true rfl)) dX0_change_3 ⟨Nat.le_of_ble_eq_true rfl, Nat.le_of_ble_eq_true rfl⟩) ?_
  refine z_tv (v := zst un today) rfl ?_
  refine lv_istore (lv' := [(5, .int (zst un today)), (0, .ref g0), (1, .int (nI r)), (2, .int w), (3, .int v), (4, .int today)]) hx hb dX0_change_6 hl (by decide) rfl (fun ls hl => ?_)
  refine lv_aload_n hx hb dX0_change_8 rfl (lv_at hl 1 rfl) ?_
  refine va_get (D := (dC, dI)) (ci := 0) (v := .ref b0) (C := RX0) (T := TX0) (N := 6) hx hb hts hiX0 hown hK hP 0 rfl rfl 0 (by decide) l12 (fun _ h9 => h9) rfl dX0_change_9 ?_
  refine lv_iload_n hx hb dX0_change_12 rfl (lv_at hl 2 rfl) ?_
  refine lv_iload_n hx hb dX0_change_13 rfl (lv_at hl 3 rfl) ?_
  refine lv_iload_n hx hb dX0_change_14 rfl (lv_at hl 4 rfl) ?_
  refine lv_iload hx hb dX0_change_15 (lv_at hl 0 rfl) ?_
  refine z_cMv (is := [1, 2, 3, 4, 5]) (va_runV (As := [.int (nI r), .int w, .int v, .int (zst un today)]) (rest := []) ⟨hx, hb, hml, hown, hts⟩ (kX2_keep l dC dI cI cZ cH cJ b0 bT bW bV bS fT fW fV fS r (by first | assumption | omega) w v (zst un today) s.heap.size) (cwV 4 hts gX0_change_X2_keep rfl rfl rfl (by decide +kernel) ⟨Nat.le_of_ble_eq_true rfl, Nat.le_of_ble_eq_true rfl⟩) (zPreV (is := [1, 2, 3, 4, 5]) hK hP hD (by decide) rfl (va_recv hK hP (ci := 2) (q0 := 1) rfl rfl)) rfl rfl hl.1 rfl (lv_room (Nat.le_of_ble_eq_true rfl)) dX0_change_17 ⟨Nat.le_of_ble_eq_true rfl, Nat.le_of_ble_eq_true rfl⟩) hP hD hS hA rfl (by decide) rfl (fun H locs hP hD hS => ?_)
  have hP : va_P (dC, dI) vwCl ([(g0, .inr (0, [.ref b0, .ref gI, .ref gS, .ref gD, .int un, .int de])), (b0, .inr (2, [.ref bT, .ref bW, .ref bV, .ref bS])), (bT, .inl (cZ, 20, .inl (upd fT r 1))), (bW, .inl (cI, 20, .inl (upd fW r w))), (bV, .inl (cI, 20, .inl (upd fV r v))), (bS, .inl (cI, 20, .inl (upd fS r (zst un today)))), (gI, .inl (cZ, 20, .inl iT))]) H := hP
  have hD : va_D A ([(g0, .inr (0, [.ref b0, .ref gI, .ref gS, .ref gD, .int un, .int de])), (b0, .inr (2, [.ref bT, .ref bW, .ref bV, .ref bS])), (bT, .inl (cZ, 20, .inl (upd fT r 1))), (bW, .inl (cI, 20, .inl (upd fW r w))), (bV, .inl (cI, 20, .inl (upd fV r v))), (bS, .inl (cI, 20, .inl (upd fS r (zst un today)))), (gI, .inl (cZ, 20, .inl iT))]) := hD
  refine lv_aload_n hx hb dX0_change_20 rfl (lv_at hl 1 rfl) ?_
  refine va_get (D := (dC, dI)) (ci := 0) (v := .ref gI) (C := RX0) (T := TX0) (N := 6) hx hb hts hiX0 hown hK hP 0 rfl rfl 1 (by decide) l18 (fun _ h9 => h9) rfl dX0_change_21 ?_
  refine lv_iload_n hx hb dX0_change_24 rfl (lv_at hl 2 rfl) ?_
  refine lv_iconst (v := 0) hx hb dX0_change_25 (by decide) ?_
  refine z_zast (v := 0) hx hb hK hP hD hS 6 rfl (zix_nI (by first | assumption | omega) (by decide)) (rfl) dX0_change_26 (fun H locs hP hD hS => ?_)
  have hP : va_P (dC, dI) vwCl ([(g0, .inr (0, [.ref b0, .ref gI, .ref gS, .ref gD, .int un, .int de])), (b0, .inr (2, [.ref bT, .ref bW, .ref bV, .ref bS])), (bT, .inl (cZ, 20, .inl (upd fT r 1))), (bW, .inl (cI, 20, .inl (upd fW r w))), (bV, .inl (cI, 20, .inl (upd fV r v))), (bS, .inl (cI, 20, .inl (upd fS r (zst un today)))), (gI, .inl (cZ, 20, .inl (upd iT r 0)))]) H := hP
  have hD : va_D A ([(g0, .inr (0, [.ref b0, .ref gI, .ref gS, .ref gD, .int un, .int de])), (b0, .inr (2, [.ref bT, .ref bW, .ref bV, .ref bS])), (bT, .inl (cZ, 20, .inl (upd fT r 1))), (bW, .inl (cI, 20, .inl (upd fW r w))), (bV, .inl (cI, 20, .inl (upd fV r v))), (bS, .inl (cI, 20, .inl (upd fS r (zst un today)))), (gI, .inl (cZ, 20, .inl (upd iT r 0)))]) := hD
  refine lv_iload hx hb dX0_change_27 (lv_at hl 0 rfl) ?_
  exact W.iret hx hb hr (fun t ht hW => ⟨rfl, ⟨by rw [ht]; exact hP, hD⟩, hS.F ht⟩) hS.2.2 dX0_change_29
set_option maxHeartbeats 4000000 in
set_option maxRecDepth 100000 in
/-- FarCatalogue.delete -/
theorem kX0_delete (l : Launch) (dC : Nat → ClassId) (dI : Nat → Nat → Nat) (cI cZ cH cJ : ClassId) (g0 : Nat) (b0 : Nat) (gI : Nat) (gS : Nat) (gD : Nat) (bT : Nat) (bW : Nat) (bV : Nat) (bS : Nat) (un : Int32) (de : Int32) (fT : zI) (iT : zI) (tS : zI) (rD : zI) (r : Nat) (hrr : r < 20) (today : Int32) (sz : Nat) : Met l yX0_delete wsX0_delete ({ frames := 1, cells := 0, slots := 0, locals := 21 }) (zPc dC dI (zTy cI cZ cH cJ) [.ref g0, .int (nI r), .int today] sz ([(g0, .inr (0, [.ref b0, .ref gI, .ref gS, .ref gD, .int un, .int de])), (b0, .inr (2, [.ref bT, .ref bW, .ref bV, .ref bS])), (bT, .inl (cZ, 20, .inl fT)), (gI, .inl (cZ, 20, .inl iT)), (gS, .inl (cI, 20, .inl tS)), (gD, .inl (cI, 20, .inl rD))])) (zQi dC dI (if de ≠ 2 then (1 : Int32) else 0) ([(g0, .inr (0, [.ref b0, .ref gI, .ref gS, .ref gD, .int un, .int de])), (b0, .inr (2, [.ref bT, .ref bW, .ref bV, .ref bS])), (bT, .inl (cZ, 20, .inl (upd fT r 0))), (gI, .inl (cZ, 20, .inl (upd iT r (if de ≠ 2 then (1 : Int32) else 0)))), (gS, .inl (cI, 20, .inl (upd tS r (zst un today)))), (gD, .inl (cI, 20, .inl (upd rD r today)))]) (va_A ([(g0, .inr (0, [.ref b0, .ref gI, .ref gS, .ref gD, .int un, .int de])), (b0, .inr (2, [.ref bT, .ref bW, .ref bV, .ref bS])), (bT, .inl (cZ, 20, .inl fT)), (gI, .inl (cZ, 20, .inl iT)), (gS, .inl (cI, 20, .inl tS)), (gD, .inl (cI, 20, .inl rD))]) sz)) 0 0 (va_A ([(g0, .inr (0, [.ref b0, .ref gI, .ref gS, .ref gD, .int un, .int de])), (b0, .inr (2, [.ref bT, .ref bW, .ref bV, .ref bS])), (bT, .inl (cZ, 20, .inl fT)), (gI, .inl (cZ, 20, .inl iT)), (gS, .inl (cI, 20, .inl tS)), (gD, .inl (cI, 20, .inl rD))]) sz) := by
  refine Met.ofW (cc := cX0_delete) (maxL := 3) (ret := (some .boolean)) (by decide) rfl ?_
  intro p e s m args below meth c s₁ B hml hv0
  obtain ⟨rfl, hsz, hP, hK, hD0⟩ := hv0
  have hx := B.exec
  have hb := B.bytes
  have hr := B.returns
  have hts := atoms_spec (ws := wsX0_delete) B.pre
  have hown : s.vm.findClass RX0 = some m.cls := findClass_of_methodNamed B.named
  have hlocks := B.notSynchronized
  subst hsz
  have hD := hD0.self (sz := s.heap.size)
  generalize hAe : va_A ([(g0, .inr (0, [.ref b0, .ref gI, .ref gS, .ref gD, .int un, .int de])), (b0, .inr (2, [.ref bT, .ref bW, .ref bV, .ref bS])), (bT, .inl (cZ, 20, .inl fT)), (gI, .inl (cZ, 20, .inl iT)), (gS, .inl (cI, 20, .inl tS)), (gD, .inl (cI, 20, .inl rD))]) s.heap.size = A at hD ⊢
  have hA : ∀ q : Nat, s.heap.size ≤ q → A q := fun q h => by rw [← hAe]; exact Or.inr h
  have hS : va_S A s.heap s.heap [] := va_S.rf
  have hl := lv_entry ([.ref g0, .int (nI r), .int today]) (n := 3) (Nat.le_of_ble_eq_true rfl)
  rw [lg_entry_eq]
  generalize (lg_sl ([.ref g0, .int (nI r), .int today]) ++ List.replicate (3 - (lg_sl ([.ref g0, .int (nI r), .int today])).length) Slot.unset).toArray = ls at hl ⊢
  have hl : lv_has ls 3 [(0, .ref g0), (1, .int (nI r)), (2, .int today)] := hl
  have hiX0 : ∀ w ∈ wsX00, w ∈ wsX0_delete := by decide +kernel
  have l12 := hts (.fieldLink RX0 12 "CatalogueHarvester$FarCatalogue" "records" "LCatalogueHarvester$Records;") (by decide +kernel)
  have l18 := hts (.fieldLink RX0 18 "CatalogueHarvester$FarCatalogue" "isTold" "[Z") (by decide +kernel)
  have l22 := hts (.fieldLink RX0 22 "CatalogueHarvester$FarCatalogue" "toldStamps" "[I") (by decide +kernel)
  have l26 := hts (.fieldLink RX0 26 "CatalogueHarvester$FarCatalogue" "removalDays" "[I") (by decide +kernel)
  have l33 := hts (.fieldLink RX0 33 "CatalogueHarvester$FarCatalogue" "deletes" "I") (by decide +kernel)
  refine lv_aload_n hx hb dX0_delete_0 rfl (lv_at hl 0 rfl) ?_
  refine va_get (D := (dC, dI)) (ci := 0) (v := .ref b0) (C := RX0) (T := TX0) (N := 6) hx hb hts hiX0 hown hK hP 0 rfl rfl 0 (by decide) l12 (fun _ h9 => h9) rfl dX0_delete_1 ?_
  refine lv_iload_n hx hb dX0_delete_4 rfl (lv_at hl 1 rfl) ?_
  refine z_cMv (is := [1, 2]) (va_runV (As := [.int (nI r)]) (rest := []) ⟨hx, hb, hml, hown, hts⟩ (kX2_drop l dC dI cI cZ cH cJ b0 bT bW bV bS fT r (by first | assumption | omega) s.heap.size) (cwV 1 hts gX0_delete_X2_drop rfl rfl rfl (by decide +kernel) ⟨Nat.le_of_ble_eq_true rfl, Nat.le_of_ble_eq_true rfl⟩) (zPreV (is := [1, 2]) hK hP hD (by decide) rfl (va_recv hK hP (ci := 2) (q0 := 1) rfl rfl)) rfl rfl hl.1 rfl (lv_room (Nat.le_of_ble_eq_true rfl)) dX0_delete_5 ⟨Nat.le_of_ble_eq_true rfl, Nat.le_of_ble_eq_true rfl⟩) hP hD hS hA rfl (by decide) rfl (fun H locs hP hD hS => ?_)
  have hP : va_P (dC, dI) vwCl ([(g0, .inr (0, [.ref b0, .ref gI, .ref gS, .ref gD, .int un, .int de])), (b0, .inr (2, [.ref bT, .ref bW, .ref bV, .ref bS])), (bT, .inl (cZ, 20, .inl (upd fT r 0))), (gI, .inl (cZ, 20, .inl iT)), (gS, .inl (cI, 20, .inl tS)), (gD, .inl (cI, 20, .inl rD))]) H := hP
  have hD : va_D A ([(g0, .inr (0, [.ref b0, .ref gI, .ref gS, .ref gD, .int un, .int de])), (b0, .inr (2, [.ref bT, .ref bW, .ref bV, .ref bS])), (bT, .inl (cZ, 20, .inl (upd fT r 0))), (gI, .inl (cZ, 20, .inl iT)), (gS, .inl (cI, 20, .inl tS)), (gD, .inl (cI, 20, .inl rD))]) := hD
  refine lv_aload_n hx hb dX0_delete_8 rfl (lv_at hl 0 rfl) ?_
  refine va_get (D := (dC, dI)) (ci := 0) (v := .ref gI) (C := RX0) (T := TX0) (N := 6) hx hb hts hiX0 hown hK hP 0 rfl rfl 1 (by decide) l18 (fun _ h9 => h9) rfl dX0_delete_9 ?_
  refine lv_iload_n hx hb dX0_delete_12 rfl (lv_at hl 1 rfl) ?_
  have J26_1 : ∀ (ls : Array Slot), lv_has ls 3 [(0, .ref g0), (1, .int (nI r)), (2, .int today)] → W p l e (headSpec wsX0_delete ({ frames := 1, cells := 0, slots := 0, locals := 21 })).room s m ([.ref g0, .int (nI r), .int today] : List Value).toArray below meth c H locs 0 0 (MQ below (zQi dC dI (if de ≠ 2 then (1 : Int32) else 0) ([(g0, .inr (0, [.ref b0, .ref gI, .ref gS, .ref gD, .int un, .int de])), (b0, .inr (2, [.ref bT, .ref bW, .ref bV, .ref bS])), (bT, .inl (cZ, 20, .inl (upd fT r 0))), (gI, .inl (cZ, 20, .inl (upd iT r (if de ≠ 2 then (1 : Int32) else 0)))), (gS, .inl (cI, 20, .inl (upd tS r (zst un today)))), (gD, .inl (cI, 20, .inl (upd rD r today)))]) A) ([.ref g0, .int (nI r), .int today] : List Value).toArray s 0 0 A) (F0 m 26 ls [.int (if de ≠ 2 then (1 : Int32) else 0), .int (nI r), .ref gI]) := by
    intro ls hl
    refine z_zast (v := if de ≠ 2 then (1 : Int32) else 0) hx hb hK hP hD hS 3 rfl (zix_nI (by first | assumption | omega) (by decide)) (z_vb _) dX0_delete_26 (fun H locs hP hD hS => ?_)
    have hP : va_P (dC, dI) vwCl ([(g0, .inr (0, [.ref b0, .ref gI, .ref gS, .ref gD, .int un, .int de])), (b0, .inr (2, [.ref bT, .ref bW, .ref bV, .ref bS])), (bT, .inl (cZ, 20, .inl (upd fT r 0))), (gI, .inl (cZ, 20, .inl (upd iT r (if de ≠ 2 then (1 : Int32) else 0)))), (gS, .inl (cI, 20, .inl tS)), (gD, .inl (cI, 20, .inl rD))]) H := hP
    have hD : va_D A ([(g0, .inr (0, [.ref b0, .ref gI, .ref gS, .ref gD, .int un, .int de])), (b0, .inr (2, [.ref bT, .ref bW, .ref bV, .ref bS])), (bT, .inl (cZ, 20, .inl (upd fT r 0))), (gI, .inl (cZ, 20, .inl (upd iT r (if de ≠ 2 then (1 : Int32) else 0)))), (gS, .inl (cI, 20, .inl tS)), (gD, .inl (cI, 20, .inl rD))]) := hD
    refine lv_aload_n hx hb dX0_delete_27 rfl (lv_at hl 0 rfl) ?_
    refine va_get (D := (dC, dI)) (ci := 0) (v := .ref gS) (C := RX0) (T := TX0) (N := 6) hx hb hts hiX0 hown hK hP 0 rfl rfl 2 (by decide) l22 (fun _ h9 => h9) rfl dX0_delete_28 ?_
    refine lv_iload_n hx hb dX0_delete_31 rfl (lv_at hl 1 rfl) ?_
    refine lv_aload_n hx hb dX0_delete_32 rfl (lv_at hl 0 rfl) ?_
    refine lv_iload_n hx hb dX0_delete_33 rfl (lv_at hl 2 rfl) ?_
    refine z_cRi (va_runV (As := [.int today]) (rest := [.int (nI r), .ref gS]) ⟨hx, hb, hml, hown, hts⟩ (kX0_stampOfDay l dC dI cI cZ cH cJ g0 b0 gI gS gD un de today) (cwV 1 hts gX0_delete_X0_stampOfDay rfl rfl rfl (by decide +kernel) ⟨Nat.le_of_ble_eq_true rfl, Nat.le_of_ble_eq_true rfl⟩) (zPreR (is := [0]) hK hP rfl (va_recv hK hP (ci := 0) (q0 := 0) rfl rfl)) rfl rfl hl.1 rfl (lv_room (Nat.le_of_ble_eq_true rfl)) dX0_delete_34 ⟨Nat.le_of_ble_eq_true rfl, Nat.le_of_ble_eq_true rfl⟩) ?_
    refine z_tv (v := zst un today) rfl ?_
    refine z_iast hx hb hK hP hD hS 4 rfl (zix_nI (by first | assumption | omega) (by decide)) dX0_delete_37 (fun H locs hP hD hS => ?_)
    have hP : va_P (dC, dI) vwCl ([(g0, .inr (0, [.ref b0, .ref gI, .ref gS, .ref gD, .int un, .int de])), (b0, .inr (2, [.ref bT, .ref bW, .ref bV, .ref bS])), (bT, .inl (cZ, 20, .inl (upd fT r 0))), (gI, .inl (cZ, 20, .inl (upd iT r (if de ≠ 2 then (1 : Int32) else 0)))), (gS, .inl (cI, 20, .inl (upd tS r (zst un today)))), (gD, .inl (cI, 20, .inl rD))]) H := hP
    have hD : va_D A ([(g0, .inr (0, [.ref b0, .ref gI, .ref gS, .ref gD, .int un, .int de])), (b0, .inr (2, [.ref bT, .ref bW, .ref bV, .ref bS])), (bT, .inl (cZ, 20, .inl (upd fT r 0))), (gI, .inl (cZ, 20, .inl (upd iT r (if de ≠ 2 then (1 : Int32) else 0)))), (gS, .inl (cI, 20, .inl (upd tS r (zst un today)))), (gD, .inl (cI, 20, .inl rD))]) := hD
    refine lv_aload_n hx hb dX0_delete_38 rfl (lv_at hl 0 rfl) ?_
    refine va_get (D := (dC, dI)) (ci := 0) (v := .ref gD) (C := RX0) (T := TX0) (N := 6) hx hb hts hiX0 hown hK hP 0 rfl rfl 3 (by decide) l26 (fun _ h9 => h9) rfl dX0_delete_39 ?_
    refine lv_iload_n hx hb dX0_delete_42 rfl (lv_at hl 1 rfl) ?_
    refine lv_iload_n hx hb dX0_delete_43 rfl (lv_at hl 2 rfl) ?_
    refine z_iast hx hb hK hP hD hS 5 rfl (zix_nI (by first | assumption | omega) (by decide)) dX0_delete_44 (fun H locs hP hD hS => ?_)
    have hP : va_P (dC, dI) vwCl ([(g0, .inr (0, [.ref b0, .ref gI, .ref gS, .ref gD, .int un, .int de])), (b0, .inr (2, [.ref bT, .ref bW, .ref bV, .ref bS])), (bT, .inl (cZ, 20, .inl (upd fT r 0))), (gI, .inl (cZ, 20, .inl (upd iT r (if de ≠ 2 then (1 : Int32) else 0)))), (gS, .inl (cI, 20, .inl (upd tS r (zst un today)))), (gD, .inl (cI, 20, .inl (upd rD r today)))]) H := hP
    have hD : va_D A ([(g0, .inr (0, [.ref b0, .ref gI, .ref gS, .ref gD, .int un, .int de])), (b0, .inr (2, [.ref bT, .ref bW, .ref bV, .ref bS])), (bT, .inl (cZ, 20, .inl (upd fT r 0))), (gI, .inl (cZ, 20, .inl (upd iT r (if de ≠ 2 then (1 : Int32) else 0)))), (gS, .inl (cI, 20, .inl (upd tS r (zst un today)))), (gD, .inl (cI, 20, .inl (upd rD r today)))]) := hD
    refine lv_aload_n hx hb dX0_delete_45 rfl (lv_at hl 0 rfl) ?_
    refine va_get (D := (dC, dI)) (ci := 0) (v := .ref gI) (C := RX0) (T := TX0) (N := 6) hx hb hts hiX0 hown hK hP 0 rfl rfl 1 (by decide) l18 (fun _ h9 => h9) rfl dX0_delete_46 ?_
    refine lv_iload_n hx hb dX0_delete_49 rfl (lv_at hl 1 rfl) ?_
    refine z_zald hx hb hK hP 3 rfl (zix_nI (by first | assumption | omega) (by decide)) dX0_delete_50 ?_
    refine z_tv (v := (upd iT r (if de ≠ 2 then (1 : Int32) else 0)) r) (rfl) ?_
    refine z_tv (v := if de ≠ 2 then (1 : Int32) else 0) (pk_us) ?_
    exact W.zret (ty := .boolean) hx hb hr (z_nb _) (fun t ht hW => ⟨rfl, ⟨by rw [ht]; exact hP, hD⟩, hS.F ht⟩) hS.2.2 dX0_delete_51
  refine lv_aload_n hx hb dX0_delete_13 rfl (lv_at hl 0 rfl) ?_
  refine va_get (D := (dC, dI)) (ci := 0) (v := .int de) (C := RX0) (T := TX0) (N := 6) hx hb hts hiX0 hown hK hP 0 rfl rfl 5 (by decide) l33 (fun _ h9 => h9) rfl dX0_delete_14 ?_
  refine lv_iconst (v := 2) hx hb dX0_delete_17 (by decide) ?_
  refine lv_icmp_eq (tgt := 25) hx hb dX0_delete_18 (by decide) (fun c_18 => ?_) (fun c_18 => ?_)
  · skip
    refine lv_iconst (v := 0) hx hb dX0_delete_25 (by decide) ?_
    refine z_tv (v := if de ≠ 2 then (1 : Int32) else 0) (by simp [c_18]) ?_
    exact J26_1 _ (lv_sub hl [0, 1, 2] rfl)
  · skip
    refine lv_iconst (v := 1) hx hb dX0_delete_21 (by decide) ?_
    refine lv_goto (tgt := 26) hx hb dX0_delete_22 (by decide) ?_
    refine z_tv (v := if de ≠ 2 then (1 : Int32) else 0) (by simp [c_18]) ?_
    exact J26_1 _ (lv_sub hl [0, 1, 2] rfl)
set_option maxHeartbeats 4000000 in
set_option maxRecDepth 100000 in
/-- FarCatalogue.forgetToldDeletes -/
theorem kX0_forgetToldDeletes (l : Launch) (dC : Nat → ClassId) (dI : Nat → Nat → Nat) (cI cZ cH cJ : ClassId) (g0 : Nat) (b0 : Nat) (gI : Nat) (gS : Nat) (gD : Nat) (un : Int32) (de : Int32) (iT : zI) (rD : zI) (today : Int32) (sz : Nat) : Met l yX0_forgetToldDeletes wsX0_forgetToldDeletes ({ frames := 0, cells := 0, slots := 0, locals := 0 }) (zPc dC dI (zTy cI cZ cH cJ) [.ref g0, .int today] sz ([(g0, .inr (0, [.ref b0, .ref gI, .ref gS, .ref gD, .int un, .int de])), (gI, .inl (cZ, 20, .inl iT)), (gD, .inl (cI, 20, .inl rD))])) (zQv dC dI ([(g0, .inr (0, [.ref b0, .ref gI, .ref gS, .ref gD, .int un, .int de])), (gI, .inl (cZ, 20, .inl (zfg iT rD de today 20))), (gD, .inl (cI, 20, .inl rD))]) (va_A ([(g0, .inr (0, [.ref b0, .ref gI, .ref gS, .ref gD, .int un, .int de])), (gI, .inl (cZ, 20, .inl iT)), (gD, .inl (cI, 20, .inl rD))]) sz)) 0 0 (va_A ([(g0, .inr (0, [.ref b0, .ref gI, .ref gS, .ref gD, .int un, .int de])), (gI, .inl (cZ, 20, .inl iT)), (gD, .inl (cI, 20, .inl rD))]) sz) := by
  refine Met.ofW (cc := cX0_forgetToldDeletes) (maxL := 4) (ret := none) (by decide) rfl ?_
  intro p e s m args below meth c s₁ B hml hv0
  obtain ⟨rfl, hsz, hP, hK, hD0⟩ := hv0
  have hx := B.exec
  have hb := B.bytes
  have hr := B.returns
  have hts := atoms_spec (ws := wsX0_forgetToldDeletes) B.pre
  have hown : s.vm.findClass RX0 = some m.cls := findClass_of_methodNamed B.named
  have hlocks := B.notSynchronized
  subst hsz
  have hD := hD0.self (sz := s.heap.size)
  generalize hAe : va_A ([(g0, .inr (0, [.ref b0, .ref gI, .ref gS, .ref gD, .int un, .int de])), (gI, .inl (cZ, 20, .inl iT)), (gD, .inl (cI, 20, .inl rD))]) s.heap.size = A at hD ⊢
  have hA : ∀ q : Nat, s.heap.size ≤ q → A q := fun q h => by rw [← hAe]; exact Or.inr h
  have hS : va_S A s.heap s.heap [] := va_S.rf
  have hl := lv_entry ([.ref g0, .int today]) (n := 4) (Nat.le_of_ble_eq_true rfl)
  rw [lg_entry_eq]
  generalize (lg_sl ([.ref g0, .int today]) ++ List.replicate (4 - (lg_sl ([.ref g0, .int today])).length) Slot.unset).toArray = ls at hl ⊢
  have hl : lv_has ls 4 [(0, .ref g0), (1, .int today)] := hl
  have hiX0 : ∀ w ∈ wsX00, w ∈ wsX0_forgetToldDeletes := by decide +kernel
  have l18 := hts (.fieldLink RX0 18 "CatalogueHarvester$FarCatalogue" "isTold" "[Z") (by decide +kernel)
  have l26 := hts (.fieldLink RX0 26 "CatalogueHarvester$FarCatalogue" "removalDays" "[I") (by decide +kernel)
  have l33 := hts (.fieldLink RX0 33 "CatalogueHarvester$FarCatalogue" "deletes" "I") (by decide +kernel)
  refine lv_iconst (v := 0) hx hb dX0_forgetToldDeletes_0 (by decide) ?_
  refine lv_istore_n (lv' := [(2, .int 0), (0, .ref g0), (1, .int today)]) hx hb dX0_forgetToldDeletes_1 rfl hl (by decide) rfl (fun ls hl => ?_)
  have LOOP1 : ∀ (n i : Nat), i ≤ 20 → 20 < i + n → ∀ (H : Heap) (locs : List Loc), va_P (dC, dI) vwCl ([(g0, .inr (0, [.ref b0, .ref gI, .ref gS, .ref gD, .int un, .int de])), (gI, .inl (cZ, 20, .inl (zfg iT rD de today i))), (gD, .inl (cI, 20, .inl rD))]) H → va_D A ([(g0, .inr (0, [.ref b0, .ref gI, .ref gS, .ref gD, .int un, .int de])), (gI, .inl (cZ, 20, .inl (zfg iT rD de today i))), (gD, .inl (cI, 20, .inl rD))]) → va_S A s.heap H locs → ∀ (ls : Array Slot), lv_has ls 4 [(0, .ref g0), (1, .int today), (2, .int (nI i))] → W p l e (headSpec wsX0_forgetToldDeletes ({ frames := 0, cells := 0, slots := 0, locals := 0 })).room s m ([.ref g0, .int today] : List Value).toArray below meth c H locs 0 0 (MQ below (zQv dC dI ([(g0, .inr (0, [.ref b0, .ref gI, .ref gS, .ref gD, .int un, .int de])), (gI, .inl (cZ, 20, .inl (zfg iT rD de today 20))), (gD, .inl (cI, 20, .inl rD))]) A) ([.ref g0, .int today] : List Value).toArray s 0 0 A) (F0 m 2 ls []) := by
    intro n
    induction n with
    | zero => intro i h1 h2; exact absurd h2 (by omega)
    | succ n ih =>
      intro i hi hin  H locs hP hD hS ls hl
      refine lv_iload_n hx hb dX0_forgetToldDeletes_2 rfl (lv_at hl 2 rfl) ?_
      refine lv_bipush (v := 20) hx hb dX0_forgetToldDeletes_3 (by decide) ?_
      refine lv_icmp_ge (tgt := 60) hx hb dX0_forgetToldDeletes_5 (by decide) (fun c_5 => ?_) (fun c_5 => ?_)
      · skip
        have e20 : i = 20 := z_ge (n := 20) hi (by decide) c_5
        subst e20
        exact W.vret hx hb hr (fun t ht hW => ⟨rfl, ⟨by rw [ht]; exact hP, hD⟩, hS.F ht⟩) hS.2.2 dX0_forgetToldDeletes_60
      · skip
        have hlt : i < 20 := z_lt (n := 20) hi (by decide) c_5
        have J26_2 : ∀ (ls : Array Slot), lv_has ls 4 [(0, .ref g0), (1, .int today), (2, .int (nI i))] → W p l e (headSpec wsX0_forgetToldDeletes ({ frames := 0, cells := 0, slots := 0, locals := 0 })).room s m ([.ref g0, .int today] : List Value).toArray below meth c H locs 0 0 (MQ below (zQv dC dI ([(g0, .inr (0, [.ref b0, .ref gI, .ref gS, .ref gD, .int un, .int de])), (gI, .inl (cZ, 20, .inl (zfg iT rD de today 20))), (gD, .inl (cI, 20, .inl rD))]) A) ([.ref g0, .int today] : List Value).toArray s 0 0 A) (F0 m 26 ls [.int (if today - rD i < 10 then (0 : Int32) else 1)]) := by
          intro ls hl
          refine lv_istore_n (lv' := [(3, .int (if today - rD i < 10 then (0 : Int32) else 1)), (0, .ref g0), (1, .int today), (2, .int (nI i))]) hx hb dX0_forgetToldDeletes_26 rfl hl (by decide) rfl (fun ls hl => ?_)
          refine lv_aload_n hx hb dX0_forgetToldDeletes_27 rfl (lv_at hl 1 rfl) ?_
          refine va_get (D := (dC, dI)) (ci := 0) (v := .int de) (C := RX0) (T := TX0) (N := 6) hx hb hts hiX0 hown hK hP 0 rfl rfl 5 (by decide) l33 (fun _ h9 => h9) rfl dX0_forgetToldDeletes_28 ?_
          refine lv_iconst (v := 2) hx hb dX0_forgetToldDeletes_31 (by decide) ?_
          refine lv_icmp_eq (tgt := 47) hx hb dX0_forgetToldDeletes_32 (by decide) (fun c_32 => ?_) (fun c_32 => ?_)
          · skip
            refine lv_aload_n hx hb dX0_forgetToldDeletes_47 rfl (lv_at hl 1 rfl) ?_
            refine va_get (D := (dC, dI)) (ci := 0) (v := .ref gI) (C := RX0) (T := TX0) (N := 6) hx hb hts hiX0 hown hK hP 0 rfl rfl 1 (by decide) l18 (fun _ h9 => h9) rfl dX0_forgetToldDeletes_48 ?_
            refine lv_iload_n hx hb dX0_forgetToldDeletes_51 rfl (lv_at hl 3 rfl) ?_
            refine lv_iconst (v := 0) hx hb dX0_forgetToldDeletes_52 (by decide) ?_
            refine z_zast (v := 0) hx hb hK hP hD hS 1 rfl (zix_nI (by first | assumption | omega) (by decide)) (rfl) dX0_forgetToldDeletes_53 (fun H locs hP hD hS => ?_)
            have hP : va_P (dC, dI) vwCl ([(g0, .inr (0, [.ref b0, .ref gI, .ref gS, .ref gD, .int un, .int de])), (gI, .inl (cZ, 20, .inl (upd (zfg iT rD de today i) i 0))), (gD, .inl (cI, 20, .inl rD))]) H := hP
            have hD : va_D A ([(g0, .inr (0, [.ref b0, .ref gI, .ref gS, .ref gD, .int un, .int de])), (gI, .inl (cZ, 20, .inl (upd (zfg iT rD de today i) i 0))), (gD, .inl (cI, 20, .inl rD))]) := hD
            refine lv_iinc (v := nI (i + 1)) (lv' := [(2, .int (nI (i + 1))), (3, .int (if today - rD i < 10 then (0 : Int32) else 1)), (0, .ref g0), (1, .int today)]) hx hb dX0_forgetToldDeletes_54 hl (k := 3) rfl (z_1) (by decide) rfl (fun ls hl => ?_)
            refine lv_goto (tgt := 2) hx hb dX0_forgetToldDeletes_57 (by decide) ?_
            exact ih (i + 1) (by omega) (by omega)  _ _ (zP_eq hP (zw_k (zw_a (by first | exact zfg_y (by grind) | exact zfg_n (by grind)) (zw_k (rfl))))) (zD_eq hD (zw_k (zw_a (by first | exact zfg_y (by grind) | exact zfg_n (by grind)) (zw_k (rfl))))) hS _ (lv_sub hl [2, 3, 0] rfl)
          · skip
            refine lv_aload_n hx hb dX0_forgetToldDeletes_35 rfl (lv_at hl 1 rfl) ?_
            refine va_get (D := (dC, dI)) (ci := 0) (v := .int de) (C := RX0) (T := TX0) (N := 6) hx hb hts hiX0 hown hK hP 0 rfl rfl 5 (by decide) l33 (fun _ h9 => h9) rfl dX0_forgetToldDeletes_36 ?_
            refine lv_iconst (v := 1) hx hb dX0_forgetToldDeletes_39 (by decide) ?_
            refine lv_icmp_ne (tgt := 54) hx hb dX0_forgetToldDeletes_40 (by decide) (fun c_40 => ?_) (fun c_40 => ?_)
            · skip
              refine lv_iinc (v := nI (i + 1)) (lv' := [(2, .int (nI (i + 1))), (3, .int (if today - rD i < 10 then (0 : Int32) else 1)), (0, .ref g0), (1, .int today)]) hx hb dX0_forgetToldDeletes_54 hl (k := 3) rfl (z_1) (by decide) rfl (fun ls hl => ?_)
              refine lv_goto (tgt := 2) hx hb dX0_forgetToldDeletes_57 (by decide) ?_
              exact ih (i + 1) (by omega) (by omega)  _ _ (zP_eq hP (zw_k (zw_a (by first | exact zfg_y (by grind) | exact zfg_n (by grind)) (zw_k (rfl))))) (zD_eq hD (zw_k (zw_a (by first | exact zfg_y (by grind) | exact zfg_n (by grind)) (zw_k (rfl))))) hS _ (lv_sub hl [2, 3, 0] rfl)
            · skip
              refine lv_iload_n hx hb dX0_forgetToldDeletes_43 rfl (lv_at hl 0 rfl) ?_
              refine lv_if_eq (tgt := 54) hx hb dX0_forgetToldDeletes_44 (by decide) (fun c_44 => ?_) (fun c_44 => ?_)
              · skip
                refine lv_iinc (v := nI (i + 1)) (lv' := [(2, .int (nI (i + 1))), (3, .int (if today - rD i < 10 then (0 : Int32) else 1)), (0, .ref g0), (1, .int today)]) hx hb dX0_forgetToldDeletes_54 hl (k := 3) rfl (z_1) (by decide) rfl (fun ls hl => ?_)
                refine lv_goto (tgt := 2) hx hb dX0_forgetToldDeletes_57 (by decide) ?_
                exact ih (i + 1) (by omega) (by omega)  _ _ (zP_eq hP (zw_k (zw_a (by first | exact zfg_y (by grind) | exact zfg_n (by grind)) (zw_k (rfl))))) (zD_eq hD (zw_k (zw_a (by first | exact zfg_y (by grind) | exact zfg_n (by grind)) (zw_k (rfl))))) hS _ (lv_sub hl [2, 3, 0] rfl)
              · skip
                refine lv_aload_n hx hb dX0_forgetToldDeletes_47 rfl (lv_at hl 1 rfl) ?_
                refine va_get (D := (dC, dI)) (ci := 0) (v := .ref gI) (C := RX0) (T := TX0) (N := 6) hx hb hts hiX0 hown hK hP 0 rfl rfl 1 (by decide) l18 (fun _ h9 => h9) rfl dX0_forgetToldDeletes_48 ?_
                refine lv_iload_n hx hb dX0_forgetToldDeletes_51 rfl (lv_at hl 3 rfl) ?_
                refine lv_iconst (v := 0) hx hb dX0_forgetToldDeletes_52 (by decide) ?_
                refine z_zast (v := 0) hx hb hK hP hD hS 1 rfl (zix_nI (by first | assumption | omega) (by decide)) (rfl) dX0_forgetToldDeletes_53 (fun H locs hP hD hS => ?_)
                have hP : va_P (dC, dI) vwCl ([(g0, .inr (0, [.ref b0, .ref gI, .ref gS, .ref gD, .int un, .int de])), (gI, .inl (cZ, 20, .inl (upd (zfg iT rD de today i) i 0))), (gD, .inl (cI, 20, .inl rD))]) H := hP
                have hD : va_D A ([(g0, .inr (0, [.ref b0, .ref gI, .ref gS, .ref gD, .int un, .int de])), (gI, .inl (cZ, 20, .inl (upd (zfg iT rD de today i) i 0))), (gD, .inl (cI, 20, .inl rD))]) := hD
                refine lv_iinc (v := nI (i + 1)) (lv' := [(2, .int (nI (i + 1))), (3, .int (if today - rD i < 10 then (0 : Int32) else 1)), (0, .ref g0), (1, .int today)]) hx hb dX0_forgetToldDeletes_54 hl (k := 3) rfl (z_1) (by decide) rfl (fun ls hl => ?_)
                refine lv_goto (tgt := 2) hx hb dX0_forgetToldDeletes_57 (by decide) ?_
                exact ih (i + 1) (by omega) (by omega)  _ _ (zP_eq hP (zw_k (zw_a (by first | exact zfg_y (by grind) | exact zfg_n (by grind)) (zw_k (rfl))))) (zD_eq hD (zw_k (zw_a (by first | exact zfg_y (by grind) | exact zfg_n (by grind)) (zw_k (rfl))))) hS _ (lv_sub hl [2, 3, 0] rfl)
        refine lv_iload_n hx hb dX0_forgetToldDeletes_8 rfl (lv_at hl 1 rfl) ?_
        refine lv_aload_n hx hb dX0_forgetToldDeletes_9 rfl (lv_at hl 0 rfl) ?_
        refine va_get (D := (dC, dI)) (ci := 0) (v := .ref gD) (C := RX0) (T := TX0) (N := 6) hx hb hts hiX0 hown hK hP 0 rfl rfl 3 (by decide) l26 (fun _ h9 => h9) rfl dX0_forgetToldDeletes_10 ?_
        refine lv_iload_n hx hb dX0_forgetToldDeletes_13 rfl (lv_at hl 2 rfl) ?_
        refine z_iald hx hb hK hP 2 rfl (zix_nI (by first | assumption | omega) (by decide)) dX0_forgetToldDeletes_14 ?_
        refine z_tv (v := rD i) (rfl) ?_
        refine lv_isub hx hb dX0_forgetToldDeletes_15 ?_
        refine lv_bipush (v := 10) hx hb dX0_forgetToldDeletes_16 (by decide) ?_
        refine lv_icmp_lt (tgt := 25) hx hb dX0_forgetToldDeletes_18 (by decide) (fun c_18 => ?_) (fun c_18 => ?_)
        · skip
          refine lv_iconst (v := 0) hx hb dX0_forgetToldDeletes_25 (by decide) ?_
          refine z_tv (v := if today - rD i < 10 then (0 : Int32) else 1) (by simp [c_18]) ?_
          exact J26_2 _ (lv_sub hl [0, 1, 2] rfl)
        · skip
          refine lv_iconst (v := 1) hx hb dX0_forgetToldDeletes_21 (by decide) ?_
          refine lv_goto (tgt := 26) hx hb dX0_forgetToldDeletes_22 (by decide) ?_
          refine z_tv (v := if today - rD i < 10 then (0 : Int32) else 1) (by simp [c_18]) ?_
          exact J26_2 _ (lv_sub hl [0, 1, 2] rfl)
  exact LOOP1 (20 + 1) 0 (by omega) (by omega)  _ _ (zP_eq hP (zw_k (zw_a (zfg_0) (zw_k (rfl))))) (zD_eq hD (zw_k (zw_a (zfg_0) (zw_k (rfl))))) hS _ (lv_cg (lv_sub (l' := [(0, .ref g0), (1, .int today), (2, .int 0)]) hl [1, 2, 0] rfl) (zl_k (zl_k (zl_c (rfl) (rfl)))))
set_option maxHeartbeats 4000000 in
set_option maxRecDepth 100000 in
/-- FarCatalogue.countTold -/
theorem kX0_countTold (l : Launch) (dC : Nat → ClassId) (dI : Nat → Nat → Nat) (cI cZ cH cJ : ClassId) (g0 : Nat) (b0 : Nat) (gI : Nat) (gS : Nat) (gD : Nat) (un : Int32) (de : Int32) (iT : zI) : Met l yX0_countTold wsX0_countTold ({ frames := 0, cells := 0, slots := 0, locals := 0 }) (zRc dC dI (zTy cI cZ cH cJ) [.ref g0] ([(g0, .inr (0, [.ref b0, .ref gI, .ref gS, .ref gD, .int un, .int de])), (gI, .inl (cZ, 20, .inl iT))])) (zSi (zcnt iT 20)) 0 0 (fun _ => False) := by
  refine Met.ofW (cc := cX0_countTold) (maxL := 3) (ret := (some .int)) (by decide) rfl ?_
  intro p e s m args below meth c s₁ B hml hv0
  obtain ⟨rfl, hP, hK⟩ := hv0
  have hx := B.exec
  have hb := B.bytes
  have hr := B.returns
  have hts := atoms_spec (ws := wsX0_countTold) B.pre
  have hown : s.vm.findClass RX0 = some m.cls := findClass_of_methodNamed B.named
  have hlocks := B.notSynchronized
  have hl := lv_entry ([.ref g0]) (n := 3) (Nat.le_of_ble_eq_true rfl)
  rw [lg_entry_eq]
  generalize (lg_sl ([.ref g0]) ++ List.replicate (3 - (lg_sl ([.ref g0])).length) Slot.unset).toArray = ls at hl ⊢
  have hl : lv_has ls 3 [(0, .ref g0)] := hl
  have hiX0 : ∀ w ∈ wsX00, w ∈ wsX0_countTold := by decide +kernel
  have l18 := hts (.fieldLink RX0 18 "CatalogueHarvester$FarCatalogue" "isTold" "[Z") (by decide +kernel)
  refine lv_iconst (v := 0) hx hb dX0_countTold_0 (by decide) ?_
  refine lv_istore_n (lv' := [(1, .int 0), (0, .ref g0)]) hx hb dX0_countTold_1 rfl hl (by decide) rfl (fun ls hl => ?_)
  refine lv_iconst (v := 0) hx hb dX0_countTold_2 (by decide) ?_
  refine lv_istore_n (lv' := [(2, .int 0), (1, .int 0), (0, .ref g0)]) hx hb dX0_countTold_3 rfl hl (by decide) rfl (fun ls hl => ?_)
  have LOOP1 : ∀ (n i : Nat), i ≤ 20 → 20 < i + n → ∀ (ls : Array Slot), lv_has ls 3 [(0, .ref g0), (1, .int (zcnt iT i)), (2, .int (nI i))] → W p l e (headSpec wsX0_countTold ({ frames := 0, cells := 0, slots := 0, locals := 0 })).room s m ([.ref g0] : List Value).toArray below meth c s.heap [] 0 0 (MQ below (zSi (zcnt iT 20)) ([.ref g0] : List Value).toArray s 0 0 (fun _ => False)) (F0 m 4 ls []) := by
    intro n
    induction n with
    | zero => intro i h1 h2; exact absurd h2 (by omega)
    | succ n ih =>
      intro i hi hin   ls hl
      refine lv_iload_n hx hb dX0_countTold_4 rfl (lv_at hl 2 rfl) ?_
      refine lv_bipush (v := 20) hx hb dX0_countTold_5 (by decide) ?_
      refine lv_icmp_ge (tgt := 28) hx hb dX0_countTold_7 (by decide) (fun c_7 => ?_) (fun c_7 => ?_)
      · skip
        have e20 : i = 20 := z_ge (n := 20) hi (by decide) c_7
        subst e20
        refine lv_iload_n hx hb dX0_countTold_28 rfl (lv_at hl 1 rfl) ?_
        exact W.iret hx hb hr (fun t ht hW => ⟨rfl, ht⟩) (fun _ h => nomatch h) dX0_countTold_29
      · skip
        have hlt : i < 20 := z_lt (n := 20) hi (by decide) c_7
        refine lv_aload_n hx hb dX0_countTold_10 rfl (lv_at hl 0 rfl) ?_
        refine va_get (D := (dC, dI)) (ci := 0) (v := .ref gI) (C := RX0) (T := TX0) (N := 6) hx hb hts hiX0 hown hK hP 0 rfl rfl 1 (by decide) l18 (fun _ h9 => h9) rfl dX0_countTold_11 ?_
        refine lv_iload_n hx hb dX0_countTold_14 rfl (lv_at hl 2 rfl) ?_
        refine z_zald hx hb hK hP 1 rfl (zix_nI (by first | assumption | omega) (by decide)) dX0_countTold_15 ?_
        refine z_tv (v := iT i) (rfl) ?_
        refine lv_if_eq (tgt := 22) hx hb dX0_countTold_16 (by decide) (fun c_16 => ?_) (fun c_16 => ?_)
        · skip
          refine lv_iinc (v := nI (i + 1)) (lv' := [(2, .int (nI (i + 1))), (0, .ref g0), (1, .int (zcnt iT i))]) hx hb dX0_countTold_22 hl (k := 2) rfl (z_1) (by decide) rfl (fun ls hl => ?_)
          refine lv_goto (tgt := 4) hx hb dX0_countTold_25 (by decide) ?_
          exact ih (i + 1) (by omega) (by omega)  _ (lv_cg (lv_sub (l' := [(0, .ref g0), (1, .int (zcnt iT i)), (2, .int (nI (i + 1)))]) hl [1, 2, 0] rfl) (zl_k (zl_c (by simp [zcnt, c_16]) (zl_k (rfl)))))
        · skip
          refine lv_iinc (v := (zcnt iT i) + 1) (lv' := [(1, .int ((zcnt iT i) + 1)), (0, .ref g0), (2, .int (nI i))]) hx hb dX0_countTold_19 hl (k := 1) rfl (rfl) (by decide) rfl (fun ls hl => ?_)
          refine lv_iinc (v := nI (i + 1)) (lv' := [(2, .int (nI (i + 1))), (1, .int ((zcnt iT i) + 1)), (0, .ref g0)]) hx hb dX0_countTold_22 hl (k := 2) rfl (z_1) (by decide) rfl (fun ls hl => ?_)
          refine lv_goto (tgt := 4) hx hb dX0_countTold_25 (by decide) ?_
          exact ih (i + 1) (by omega) (by omega)  _ (lv_cg (lv_sub (l' := [(0, .ref g0), (1, .int ((zcnt iT i) + 1)), (2, .int (nI (i + 1)))]) hl [2, 1, 0] rfl) (zl_k (zl_c (by simp [zcnt, c_16]) (zl_k (rfl)))))
  exact LOOP1 (20 + 1) 0 (by omega) (by omega)  _ (lv_cg (lv_sub (l' := [(0, .ref g0), (1, .int 0), (2, .int 0)]) hl [2, 1, 0] rfl) (zl_k (zl_c (rfl) (zl_c (rfl) (rfl)))))
set_option maxHeartbeats 4000000 in
set_option maxRecDepth 100000 in
/-- FarCatalogue.listedStamp -/
theorem kX0_listedStamp (l : Launch) (dC : Nat → ClassId) (dI : Nat → Nat → Nat) (cI cZ cH cJ : ClassId) (g0 : Nat) (b0 : Nat) (gI : Nat) (gS : Nat) (gD : Nat) (bT : Nat) (bW : Nat) (bV : Nat) (bS : Nat) (un : Int32) (de : Int32) (fT : zI) (fS : zI) (iT : zI) (tS : zI) (r : Nat) (hrr : r < 20) : Met l yX0_listedStamp wsX0_listedStamp ({ frames := 0, cells := 0, slots := 0, locals := 0 }) (zRc dC dI (zTy cI cZ cH cJ) [.ref g0, .int (nI r)] ([(g0, .inr (0, [.ref b0, .ref gI, .ref gS, .ref gD, .int un, .int de])), (b0, .inr (2, [.ref bT, .ref bW, .ref bV, .ref bS])), (bT, .inl (cZ, 20, .inl fT)), (bS, .inl (cI, 20, .inl fS)), (gI, .inl (cZ, 20, .inl iT)), (gS, .inl (cI, 20, .inl tS))])) (zSi (zls fT fS iT tS r)) 0 0 (fun _ => False) := by
  refine Met.ofW (cc := cX0_listedStamp) (maxL := 2) (ret := (some .int)) (by decide) rfl ?_
  intro p e s m args below meth c s₁ B hml hv0
  obtain ⟨rfl, hP, hK⟩ := hv0
  have hx := B.exec
  have hb := B.bytes
  have hr := B.returns
  have hts := atoms_spec (ws := wsX0_listedStamp) B.pre
  have hown : s.vm.findClass RX0 = some m.cls := findClass_of_methodNamed B.named
  have hlocks := B.notSynchronized
  have hl := lv_entry ([.ref g0, .int (nI r)]) (n := 2) (Nat.le_of_ble_eq_true rfl)
  rw [lg_entry_eq]
  generalize (lg_sl ([.ref g0, .int (nI r)]) ++ List.replicate (2 - (lg_sl ([.ref g0, .int (nI r)])).length) Slot.unset).toArray = ls at hl ⊢
  have hl : lv_has ls 2 [(0, .ref g0), (1, .int (nI r))] := hl
  have hiX0 : ∀ w ∈ wsX00, w ∈ wsX0_listedStamp := by decide +kernel
  have hiX2 : ∀ w ∈ wsX20, w ∈ wsX0_listedStamp := by decide +kernel
  have l12 := hts (.fieldLink RX0 12 "CatalogueHarvester$FarCatalogue" "records" "LCatalogueHarvester$Records;") (by decide +kernel)
  have l18 := hts (.fieldLink RX0 18 "CatalogueHarvester$FarCatalogue" "isTold" "[Z") (by decide +kernel)
  have l22 := hts (.fieldLink RX0 22 "CatalogueHarvester$FarCatalogue" "toldStamps" "[I") (by decide +kernel)
  have l48 := hts (.fieldLink RX0 48 "CatalogueHarvester$Records" "isThere" "[Z") (by decide +kernel)
  have l51 := hts (.fieldLink RX0 51 "CatalogueHarvester$Records" "stamps" "[I") (by decide +kernel)
  refine lv_aload_n hx hb dX0_listedStamp_0 rfl (lv_at hl 0 rfl) ?_
  refine va_get (D := (dC, dI)) (ci := 0) (v := .ref b0) (C := RX0) (T := TX0) (N := 6) hx hb hts hiX0 hown hK hP 0 rfl rfl 0 (by decide) l12 (fun _ h9 => h9) rfl dX0_listedStamp_1 ?_
  refine va_get (D := (dC, dI)) (ci := 2) (v := .ref bT) (C := RX2) (T := TX2) (N := 4) hx hb hts hiX2 hown hK hP 1 rfl rfl 0 (by decide) l48 (fun _ h9 => h9) rfl dX0_listedStamp_4 ?_
  refine lv_iload_n hx hb dX0_listedStamp_7 rfl (lv_at hl 1 rfl) ?_
  refine z_zald hx hb hK hP 2 rfl (zix_nI (by first | assumption | omega) (by decide)) dX0_listedStamp_8 ?_
  refine z_tv (v := fT r) (rfl) ?_
  refine lv_if_eq (tgt := 22) hx hb dX0_listedStamp_9 (by decide) (fun c_9 => ?_) (fun c_9 => ?_)
  · skip
    refine lv_aload_n hx hb dX0_listedStamp_22 rfl (lv_at hl 0 rfl) ?_
    refine va_get (D := (dC, dI)) (ci := 0) (v := .ref gI) (C := RX0) (T := TX0) (N := 6) hx hb hts hiX0 hown hK hP 0 rfl rfl 1 (by decide) l18 (fun _ h9 => h9) rfl dX0_listedStamp_23 ?_
    refine lv_iload_n hx hb dX0_listedStamp_26 rfl (lv_at hl 1 rfl) ?_
    refine z_zald hx hb hK hP 4 rfl (zix_nI (by first | assumption | omega) (by decide)) dX0_listedStamp_27 ?_
    refine z_tv (v := iT r) (rfl) ?_
    refine lv_if_eq (tgt := 40) hx hb dX0_listedStamp_28 (by decide) (fun c_28 => ?_) (fun c_28 => ?_)
    · skip
      refine lv_iconst (v := (-1)) hx hb dX0_listedStamp_40 (by decide) ?_
      refine z_tv (v := zls fT fS iT tS r) (by simp [zls, c_9, c_28]) ?_
      exact W.iret hx hb hr (fun t ht hW => ⟨rfl, ht⟩) (fun _ h => nomatch h) dX0_listedStamp_41
    · skip
      refine lv_aload_n hx hb dX0_listedStamp_31 rfl (lv_at hl 0 rfl) ?_
      refine va_get (D := (dC, dI)) (ci := 0) (v := .ref gS) (C := RX0) (T := TX0) (N := 6) hx hb hts hiX0 hown hK hP 0 rfl rfl 2 (by decide) l22 (fun _ h9 => h9) rfl dX0_listedStamp_32 ?_
      refine lv_iload_n hx hb dX0_listedStamp_35 rfl (lv_at hl 1 rfl) ?_
      refine z_iald hx hb hK hP 5 rfl (zix_nI (by first | assumption | omega) (by decide)) dX0_listedStamp_36 ?_
      refine z_tv (v := tS r) (rfl) ?_
      refine lv_goto (tgt := 41) hx hb dX0_listedStamp_37 (by decide) ?_
      refine z_tv (v := zls fT fS iT tS r) (by simp [zls, c_9, c_28]) ?_
      exact W.iret hx hb hr (fun t ht hW => ⟨rfl, ht⟩) (fun _ h => nomatch h) dX0_listedStamp_41
  · skip
    refine lv_aload_n hx hb dX0_listedStamp_12 rfl (lv_at hl 0 rfl) ?_
    refine va_get (D := (dC, dI)) (ci := 0) (v := .ref b0) (C := RX0) (T := TX0) (N := 6) hx hb hts hiX0 hown hK hP 0 rfl rfl 0 (by decide) l12 (fun _ h9 => h9) rfl dX0_listedStamp_13 ?_
    refine va_get (D := (dC, dI)) (ci := 2) (v := .ref bS) (C := RX2) (T := TX2) (N := 4) hx hb hts hiX2 hown hK hP 1 rfl rfl 3 (by decide) l51 (fun _ h9 => h9) rfl dX0_listedStamp_16 ?_
    refine lv_iload_n hx hb dX0_listedStamp_19 rfl (lv_at hl 1 rfl) ?_
    refine z_iald hx hb hK hP 3 rfl (zix_nI (by first | assumption | omega) (by decide)) dX0_listedStamp_20 ?_
    refine z_tv (v := fS r) (rfl) ?_
    refine z_tv (v := zls fT fS iT tS r) (by simp [zls, c_9]) ?_
    exact W.iret hx hb hr (fun t ht hW => ⟨rfl, ht⟩) (fun _ h => nomatch h) dX0_listedStamp_21
set_option maxHeartbeats 4000000 in
set_option maxRecDepth 100000 in
/-- FarCatalogue.nextListed -/
theorem kX0_nextListed (l : Launch) (dC : Nat → ClassId) (dI : Nat → Nat → Nat) (cI cZ cH cJ : ClassId) (g0 : Nat) (b0 : Nat) (gI : Nat) (gS : Nat) (gD : Nat) (bT : Nat) (bW : Nat) (bV : Nat) (bS : Nat) (un : Int32) (de : Int32) (fT : zI) (fS : zI) (iT : zI) (tS : zI) (first : Int32) (ps : Int32) (pr : Int32) : Met l yX0_nextListed wsX0_nextListed ({ frames := 1, cells := 0, slots := 0, locals := 21 }) (zRc dC dI (zTy cI cZ cH cJ) [.ref g0, .int first, .int ps, .int pr] ([(g0, .inr (0, [.ref b0, .ref gI, .ref gS, .ref gD, .int un, .int de])), (b0, .inr (2, [.ref bT, .ref bW, .ref bV, .ref bS])), (bT, .inl (cZ, 20, .inl fT)), (bS, .inl (cI, 20, .inl fS)), (gI, .inl (cZ, 20, .inl iT)), (gS, .inl (cI, 20, .inl tS))])) (zSi ((znx (zls fT fS iT tS) first ps pr 20).1)) 0 0 (fun _ => False) := by
  refine Met.ofW (cc := cX0_nextListed) (maxL := 10) (ret := (some .int)) (by decide) rfl ?_
  intro p e s m args below meth c s₁ B hml hv0
  obtain ⟨rfl, hP, hK⟩ := hv0
  have hx := B.exec
  have hb := B.bytes
  have hr := B.returns
  have hts := atoms_spec (ws := wsX0_nextListed) B.pre
  have hown : s.vm.findClass RX0 = some m.cls := findClass_of_methodNamed B.named
  have hlocks := B.notSynchronized
  have hl := lv_entry ([.ref g0, .int first, .int ps, .int pr]) (n := 10) (Nat.le_of_ble_eq_true rfl)
  rw [lg_entry_eq]
  generalize (lg_sl ([.ref g0, .int first, .int ps, .int pr]) ++ List.replicate (10 - (lg_sl ([.ref g0, .int first, .int ps, .int pr])).length) Slot.unset).toArray = ls at hl ⊢
  have hl : lv_has ls 10 [(0, .ref g0), (1, .int first), (2, .int ps), (3, .int pr)] := hl
  refine lv_iconst (v := (-1)) hx hb dX0_nextListed_0 (by decide) ?_
  refine lv_istore (lv' := [(4, .int (-1)), (0, .ref g0), (1, .int first), (2, .int ps), (3, .int pr)]) hx hb dX0_nextListed_1 hl (by decide) rfl (fun ls hl => ?_)
  refine lv_iconst (v := (-1)) hx hb dX0_nextListed_3 (by decide) ?_
  refine lv_istore (lv' := [(5, .int (-1)), (4, .int (-1)), (0, .ref g0), (1, .int first), (2, .int ps), (3, .int pr)]) hx hb dX0_nextListed_4 hl (by decide) rfl (fun ls hl => ?_)
  refine lv_iconst (v := 0) hx hb dX0_nextListed_6 (by decide) ?_
  refine lv_istore (lv' := [(6, .int 0), (5, .int (-1)), (4, .int (-1)), (0, .ref g0), (1, .int first), (2, .int ps), (3, .int pr)]) hx hb dX0_nextListed_7 hl (by decide) rfl (fun ls hl => ?_)
  have LOOP1 : ∀ (n i : Nat), i ≤ 20 → 20 < i + n → ∀ (ls : Array Slot), lv_has ls 10 [(0, .ref g0), (1, .int first), (2, .int ps), (3, .int pr), (4, .int ((znx (zls fT fS iT tS) first ps pr i).1)), (5, .int ((znx (zls fT fS iT tS) first ps pr i).2)), (6, .int (nI i))] → W p l e (headSpec wsX0_nextListed ({ frames := 1, cells := 0, slots := 0, locals := 21 })).room s m ([.ref g0, .int first, .int ps, .int pr] : List Value).toArray below meth c s.heap [] 0 0 (MQ below (zSi ((znx (zls fT fS iT tS) first ps pr 20).1)) ([.ref g0, .int first, .int ps, .int pr] : List Value).toArray s 0 0 (fun _ => False)) (F0 m 9 ls []) := by
    intro n
    induction n with
    | zero => intro i h1 h2; exact absurd h2 (by omega)
    | succ n ih =>
      intro i hi hin   ls hl
      refine lv_iload hx hb dX0_nextListed_9 (lv_at hl 6 rfl) ?_
      refine lv_bipush (v := 20) hx hb dX0_nextListed_11 (by decide) ?_
      refine lv_icmp_ge (tgt := 105) hx hb dX0_nextListed_13 (by decide) (fun c_13 => ?_) (fun c_13 => ?_)
      · skip
        have e20 : i = 20 := z_ge (n := 20) hi (by decide) c_13
        subst e20
        refine lv_iload hx hb dX0_nextListed_105 (lv_at hl 4 rfl) ?_
        exact W.iret hx hb hr (fun t ht hW => ⟨rfl, ht⟩) (fun _ h => nomatch h) dX0_nextListed_107
      · skip
        have hlt : i < 20 := z_lt (n := 20) hi (by decide) c_13
        refine lv_aload_n hx hb dX0_nextListed_16 rfl (lv_at hl 0 rfl) ?_
        refine lv_iload hx hb dX0_nextListed_17 (lv_at hl 6 rfl) ?_
        refine z_cRi (va_runV (As := [.int (nI i)]) (rest := []) ⟨hx, hb, hml, hown, hts⟩ (kX0_listedStamp l dC dI cI cZ cH cJ g0 b0 gI gS gD bT bW bV bS un de fT fS iT tS i (by first | assumption | omega)) (cwV 1 hts gX0_nextListed_X0_listedStamp rfl rfl rfl (by decide +kernel) ⟨Nat.le_of_ble_eq_true rfl, Nat.le_of_ble_eq_true rfl⟩) (zPreR (is := [0, 1, 2, 3, 4, 5]) hK hP rfl (va_recv hK hP (ci := 0) (q0 := 0) rfl rfl)) rfl rfl hl.1 rfl (lv_room (Nat.le_of_ble_eq_true rfl)) dX0_nextListed_19 ⟨Nat.le_of_ble_eq_true rfl, Nat.le_of_ble_eq_true rfl⟩) ?_
        refine z_tv (v := zls fT fS iT tS i) rfl ?_
        refine lv_istore (lv' := [(7, .int (zls fT fS iT tS i)), (0, .ref g0), (1, .int first), (2, .int ps), (3, .int pr), (4, .int ((znx (zls fT fS iT tS) first ps pr i).1)), (5, .int ((znx (zls fT fS iT tS) first ps pr i).2)), (6, .int (nI i))]) hx hb dX0_nextListed_22 hl (by decide) rfl (fun ls hl => ?_)
        have J47_2 : ∀ (ls : Array Slot), lv_has ls 10 [(7, .int (zls fT fS iT tS i)), (0, .ref g0), (1, .int first), (2, .int ps), (3, .int pr), (4, .int ((znx (zls fT fS iT tS) first ps pr i).1)), (5, .int ((znx (zls fT fS iT tS) first ps pr i).2)), (6, .int (nI i))] → W p l e (headSpec wsX0_nextListed ({ frames := 1, cells := 0, slots := 0, locals := 21 })).room s m ([.ref g0, .int first, .int ps, .int pr] : List Value).toArray below meth c s.heap [] 0 0 (MQ below (zSi ((znx (zls fT fS iT tS) first ps pr 20).1)) ([.ref g0, .int first, .int ps, .int pr] : List Value).toArray s 0 0 (fun _ => False)) (F0 m 47 ls [.int (if ps < zls fT fS iT tS i ∨ (zls fT fS iT tS i = ps ∧ ¬ nI i ≤ pr) then (1 : Int32) else 0)]) := by
          intro ls hl
          refine lv_istore (lv' := [(8, .int (if ps < zls fT fS iT tS i ∨ (zls fT fS iT tS i = ps ∧ ¬ nI i ≤ pr) then (1 : Int32) else 0)), (7, .int (zls fT fS iT tS i)), (0, .ref g0), (1, .int first), (2, .int ps), (3, .int pr), (4, .int ((znx (zls fT fS iT tS) first ps pr i).1)), (5, .int ((znx (zls fT fS iT tS) first ps pr i).2)), (6, .int (nI i))]) hx hb dX0_nextListed_47 hl (by decide) rfl (fun ls hl => ?_)
          have J67_3 : ∀ (ls : Array Slot), lv_has ls 10 [(8, .int (if ps < zls fT fS iT tS i ∨ (zls fT fS iT tS i = ps ∧ ¬ nI i ≤ pr) then (1 : Int32) else 0)), (7, .int (zls fT fS iT tS i)), (0, .ref g0), (1, .int first), (2, .int ps), (3, .int pr), (4, .int ((znx (zls fT fS iT tS) first ps pr i).1)), (5, .int ((znx (zls fT fS iT tS) first ps pr i).2)), (6, .int (nI i))] → W p l e (headSpec wsX0_nextListed ({ frames := 1, cells := 0, slots := 0, locals := 21 })).room s m ([.ref g0, .int first, .int ps, .int pr] : List Value).toArray below meth c s.heap [] 0 0 (MQ below (zSi ((znx (zls fT fS iT tS) first ps pr 20).1)) ([.ref g0, .int first, .int ps, .int pr] : List Value).toArray s 0 0 (fun _ => False)) (F0 m 67 ls [.int (if (znx (zls fT fS iT tS) first ps pr i).1 = -1 ∨ ¬ (znx (zls fT fS iT tS) first ps pr i).2 ≤ zls fT fS iT tS i then (1 : Int32) else 0)]) := by
            intro ls hl
            refine lv_istore (lv' := [(9, .int (if (znx (zls fT fS iT tS) first ps pr i).1 = -1 ∨ ¬ (znx (zls fT fS iT tS) first ps pr i).2 ≤ zls fT fS iT tS i then (1 : Int32) else 0)), (8, .int (if ps < zls fT fS iT tS i ∨ (zls fT fS iT tS i = ps ∧ ¬ nI i ≤ pr) then (1 : Int32) else 0)), (7, .int (zls fT fS iT tS i)), (0, .ref g0), (1, .int first), (2, .int ps), (3, .int pr), (4, .int ((znx (zls fT fS iT tS) first ps pr i).1)), (5, .int ((znx (zls fT fS iT tS) first ps pr i).2)), (6, .int (nI i))]) hx hb dX0_nextListed_67 hl (by decide) rfl (fun ls hl => ?_)
            refine lv_iload hx hb dX0_nextListed_69 (lv_at hl 2 rfl) ?_
            refine lv_iconst (v := (-1)) hx hb dX0_nextListed_71 (by decide) ?_
            refine lv_icmp_eq (tgt := 99) hx hb dX0_nextListed_72 (by decide) (fun c_72 => ?_) (fun c_72 => ?_)
            · skip
              refine lv_iinc (v := nI (i + 1)) (lv' := [(6, .int (nI (i + 1))), (9, .int (if (znx (zls fT fS iT tS) first ps pr i).1 = -1 ∨ ¬ (znx (zls fT fS iT tS) first ps pr i).2 ≤ zls fT fS iT tS i then (1 : Int32) else 0)), (8, .int (if ps < zls fT fS iT tS i ∨ (zls fT fS iT tS i = ps ∧ ¬ nI i ≤ pr) then (1 : Int32) else 0)), (7, .int (zls fT fS iT tS i)), (0, .ref g0), (1, .int first), (2, .int ps), (3, .int pr), (4, .int ((znx (zls fT fS iT tS) first ps pr i).1)), (5, .int ((znx (zls fT fS iT tS) first ps pr i).2))]) hx hb dX0_nextListed_99 hl (k := 9) rfl (z_1) (by decide) rfl (fun ls hl => ?_)
              refine lv_goto (tgt := 9) hx hb dX0_nextListed_102 (by decide) ?_
              exact ih (i + 1) (by omega) (by omega)  _ (lv_cg (lv_sub (l' := [(0, .ref g0), (1, .int first), (2, .int ps), (3, .int pr), (4, .int ((znx (zls fT fS iT tS) first ps pr i).1)), (5, .int ((znx (zls fT fS iT tS) first ps pr i).2)), (6, .int (nI (i + 1)))]) hl [4, 5, 6, 7, 8, 9, 0] rfl) (zl_k (zl_k (zl_k (zl_k (zl_c (by grind [znx]) (zl_c (by grind [znx]) (zl_k (rfl)))))))))
            · skip
              refine lv_iload hx hb dX0_nextListed_75 (lv_at hl 2 rfl) ?_
              refine lv_iload_n hx hb dX0_nextListed_77 rfl (lv_at hl 4 rfl) ?_
              refine lv_icmp_lt (tgt := 99) hx hb dX0_nextListed_78 (by decide) (fun c_78 => ?_) (fun c_78 => ?_)
              · skip
                refine lv_iinc (v := nI (i + 1)) (lv' := [(6, .int (nI (i + 1))), (9, .int (if (znx (zls fT fS iT tS) first ps pr i).1 = -1 ∨ ¬ (znx (zls fT fS iT tS) first ps pr i).2 ≤ zls fT fS iT tS i then (1 : Int32) else 0)), (8, .int (if ps < zls fT fS iT tS i ∨ (zls fT fS iT tS i = ps ∧ ¬ nI i ≤ pr) then (1 : Int32) else 0)), (7, .int (zls fT fS iT tS i)), (0, .ref g0), (1, .int first), (2, .int ps), (3, .int pr), (4, .int ((znx (zls fT fS iT tS) first ps pr i).1)), (5, .int ((znx (zls fT fS iT tS) first ps pr i).2))]) hx hb dX0_nextListed_99 hl (k := 9) rfl (z_1) (by decide) rfl (fun ls hl => ?_)
                refine lv_goto (tgt := 9) hx hb dX0_nextListed_102 (by decide) ?_
                exact ih (i + 1) (by omega) (by omega)  _ (lv_cg (lv_sub (l' := [(0, .ref g0), (1, .int first), (2, .int ps), (3, .int pr), (4, .int ((znx (zls fT fS iT tS) first ps pr i).1)), (5, .int ((znx (zls fT fS iT tS) first ps pr i).2)), (6, .int (nI (i + 1)))]) hl [4, 5, 6, 7, 8, 9, 0] rfl) (zl_k (zl_k (zl_k (zl_k (zl_c (by grind [znx]) (zl_c (by grind [znx]) (zl_k (rfl)))))))))
              · skip
                refine lv_iload hx hb dX0_nextListed_81 (lv_at hl 1 rfl) ?_
                refine lv_if_eq (tgt := 99) hx hb dX0_nextListed_83 (by decide) (fun c_83 => ?_) (fun c_83 => ?_)
                · skip
                  refine lv_iinc (v := nI (i + 1)) (lv' := [(6, .int (nI (i + 1))), (9, .int (if (znx (zls fT fS iT tS) first ps pr i).1 = -1 ∨ ¬ (znx (zls fT fS iT tS) first ps pr i).2 ≤ zls fT fS iT tS i then (1 : Int32) else 0)), (8, .int (if ps < zls fT fS iT tS i ∨ (zls fT fS iT tS i = ps ∧ ¬ nI i ≤ pr) then (1 : Int32) else 0)), (7, .int (zls fT fS iT tS i)), (0, .ref g0), (1, .int first), (2, .int ps), (3, .int pr), (4, .int ((znx (zls fT fS iT tS) first ps pr i).1)), (5, .int ((znx (zls fT fS iT tS) first ps pr i).2))]) hx hb dX0_nextListed_99 hl (k := 9) rfl (z_1) (by decide) rfl (fun ls hl => ?_)
                  refine lv_goto (tgt := 9) hx hb dX0_nextListed_102 (by decide) ?_
                  exact ih (i + 1) (by omega) (by omega)  _ (lv_cg (lv_sub (l' := [(0, .ref g0), (1, .int first), (2, .int ps), (3, .int pr), (4, .int ((znx (zls fT fS iT tS) first ps pr i).1)), (5, .int ((znx (zls fT fS iT tS) first ps pr i).2)), (6, .int (nI (i + 1)))]) hl [4, 5, 6, 7, 8, 9, 0] rfl) (zl_k (zl_k (zl_k (zl_k (zl_c (by grind [znx]) (zl_c (by grind [znx]) (zl_k (rfl)))))))))
                · skip
                  refine lv_iload hx hb dX0_nextListed_86 (lv_at hl 0 rfl) ?_
                  refine lv_if_eq (tgt := 99) hx hb dX0_nextListed_88 (by decide) (fun c_88 => ?_) (fun c_88 => ?_)
                  · skip
                    refine lv_iinc (v := nI (i + 1)) (lv' := [(6, .int (nI (i + 1))), (9, .int (if (znx (zls fT fS iT tS) first ps pr i).1 = -1 ∨ ¬ (znx (zls fT fS iT tS) first ps pr i).2 ≤ zls fT fS iT tS i then (1 : Int32) else 0)), (8, .int (if ps < zls fT fS iT tS i ∨ (zls fT fS iT tS i = ps ∧ ¬ nI i ≤ pr) then (1 : Int32) else 0)), (7, .int (zls fT fS iT tS i)), (0, .ref g0), (1, .int first), (2, .int ps), (3, .int pr), (4, .int ((znx (zls fT fS iT tS) first ps pr i).1)), (5, .int ((znx (zls fT fS iT tS) first ps pr i).2))]) hx hb dX0_nextListed_99 hl (k := 9) rfl (z_1) (by decide) rfl (fun ls hl => ?_)
                    refine lv_goto (tgt := 9) hx hb dX0_nextListed_102 (by decide) ?_
                    exact ih (i + 1) (by omega) (by omega)  _ (lv_cg (lv_sub (l' := [(0, .ref g0), (1, .int first), (2, .int ps), (3, .int pr), (4, .int ((znx (zls fT fS iT tS) first ps pr i).1)), (5, .int ((znx (zls fT fS iT tS) first ps pr i).2)), (6, .int (nI (i + 1)))]) hl [4, 5, 6, 7, 8, 9, 0] rfl) (zl_k (zl_k (zl_k (zl_k (zl_c (by grind [znx]) (zl_c (by grind [znx]) (zl_k (rfl)))))))))
                  · skip
                    refine lv_iload hx hb dX0_nextListed_91 (lv_at hl 9 rfl) ?_
                    refine lv_istore (lv' := [(4, .int (nI i)), (9, .int (if (znx (zls fT fS iT tS) first ps pr i).1 = -1 ∨ ¬ (znx (zls fT fS iT tS) first ps pr i).2 ≤ zls fT fS iT tS i then (1 : Int32) else 0)), (8, .int (if ps < zls fT fS iT tS i ∨ (zls fT fS iT tS i = ps ∧ ¬ nI i ≤ pr) then (1 : Int32) else 0)), (7, .int (zls fT fS iT tS i)), (0, .ref g0), (1, .int first), (2, .int ps), (3, .int pr), (5, .int ((znx (zls fT fS iT tS) first ps pr i).2)), (6, .int (nI i))]) hx hb dX0_nextListed_93 hl (by decide) rfl (fun ls hl => ?_)
                    refine lv_iload hx hb dX0_nextListed_95 (lv_at hl 3 rfl) ?_
                    refine lv_istore (lv' := [(5, .int (zls fT fS iT tS i)), (4, .int (nI i)), (9, .int (if (znx (zls fT fS iT tS) first ps pr i).1 = -1 ∨ ¬ (znx (zls fT fS iT tS) first ps pr i).2 ≤ zls fT fS iT tS i then (1 : Int32) else 0)), (8, .int (if ps < zls fT fS iT tS i ∨ (zls fT fS iT tS i = ps ∧ ¬ nI i ≤ pr) then (1 : Int32) else 0)), (7, .int (zls fT fS iT tS i)), (0, .ref g0), (1, .int first), (2, .int ps), (3, .int pr), (6, .int (nI i))]) hx hb dX0_nextListed_97 hl (by decide) rfl (fun ls hl => ?_)
                    refine lv_iinc (v := nI (i + 1)) (lv' := [(6, .int (nI (i + 1))), (5, .int (zls fT fS iT tS i)), (4, .int (nI i)), (9, .int (if (znx (zls fT fS iT tS) first ps pr i).1 = -1 ∨ ¬ (znx (zls fT fS iT tS) first ps pr i).2 ≤ zls fT fS iT tS i then (1 : Int32) else 0)), (8, .int (if ps < zls fT fS iT tS i ∨ (zls fT fS iT tS i = ps ∧ ¬ nI i ≤ pr) then (1 : Int32) else 0)), (7, .int (zls fT fS iT tS i)), (0, .ref g0), (1, .int first), (2, .int ps), (3, .int pr)]) hx hb dX0_nextListed_99 hl (k := 9) rfl (z_1) (by decide) rfl (fun ls hl => ?_)
                    refine lv_goto (tgt := 9) hx hb dX0_nextListed_102 (by decide) ?_
                    exact ih (i + 1) (by omega) (by omega)  _ (lv_cg (lv_sub (l' := [(0, .ref g0), (1, .int first), (2, .int ps), (3, .int pr), (4, .int (nI i)), (5, .int (zls fT fS iT tS i)), (6, .int (nI (i + 1)))]) hl [6, 7, 8, 9, 2, 1, 0] rfl) (zl_k (zl_k (zl_k (zl_k (zl_c (by grind [znx]) (zl_c (by grind [znx]) (zl_k (rfl)))))))))
          refine lv_iload hx hb dX0_nextListed_49 (lv_at hl 6 rfl) ?_
          refine lv_iconst (v := (-1)) hx hb dX0_nextListed_51 (by decide) ?_
          refine lv_icmp_eq (tgt := 62) hx hb dX0_nextListed_52 (by decide) (fun c_52 => ?_) (fun c_52 => ?_)
          · skip
            refine lv_iconst (v := 1) hx hb dX0_nextListed_62 (by decide) ?_
            refine lv_goto (tgt := 67) hx hb dX0_nextListed_63 (by decide) ?_
            refine z_tv (v := if (znx (zls fT fS iT tS) first ps pr i).1 = -1 ∨ ¬ (znx (zls fT fS iT tS) first ps pr i).2 ≤ zls fT fS iT tS i then (1 : Int32) else 0) (by grind) ?_
            exact J67_3 _ (lv_sub hl [0, 1, 2, 3, 4, 5, 6, 7, 8] rfl)
          · skip
            refine lv_iload hx hb dX0_nextListed_55 (lv_at hl 1 rfl) ?_
            refine lv_iload hx hb dX0_nextListed_57 (lv_at hl 7 rfl) ?_
            refine lv_icmp_ge (tgt := 66) hx hb dX0_nextListed_59 (by decide) (fun c_59 => ?_) (fun c_59 => ?_)
            · skip
              refine lv_iconst (v := 0) hx hb dX0_nextListed_66 (by decide) ?_
              refine z_tv (v := if (znx (zls fT fS iT tS) first ps pr i).1 = -1 ∨ ¬ (znx (zls fT fS iT tS) first ps pr i).2 ≤ zls fT fS iT tS i then (1 : Int32) else 0) (by grind) ?_
              exact J67_3 _ (lv_sub hl [0, 1, 2, 3, 4, 5, 6, 7, 8] rfl)
            · skip
              refine lv_iconst (v := 1) hx hb dX0_nextListed_62 (by decide) ?_
              refine lv_goto (tgt := 67) hx hb dX0_nextListed_63 (by decide) ?_
              refine z_tv (v := if (znx (zls fT fS iT tS) first ps pr i).1 = -1 ∨ ¬ (znx (zls fT fS iT tS) first ps pr i).2 ≤ zls fT fS iT tS i then (1 : Int32) else 0) (by grind) ?_
              exact J67_3 _ (lv_sub hl [0, 1, 2, 3, 4, 5, 6, 7, 8] rfl)
        refine lv_iload hx hb dX0_nextListed_24 (lv_at hl 0 rfl) ?_
        refine lv_iload_n hx hb dX0_nextListed_26 rfl (lv_at hl 3 rfl) ?_
        refine lv_icmp_gt (tgt := 42) hx hb dX0_nextListed_27 (by decide) (fun c_27 => ?_) (fun c_27 => ?_)
        · skip
          refine lv_iconst (v := 1) hx hb dX0_nextListed_42 (by decide) ?_
          refine lv_goto (tgt := 47) hx hb dX0_nextListed_43 (by decide) ?_
          refine z_tv (v := if ps < zls fT fS iT tS i ∨ (zls fT fS iT tS i = ps ∧ ¬ nI i ≤ pr) then (1 : Int32) else 0) (by grind) ?_
          exact J47_2 _ (lv_sub hl [0, 1, 2, 3, 4, 5, 6, 7] rfl)
        · skip
          refine lv_iload hx hb dX0_nextListed_30 (lv_at hl 0 rfl) ?_
          refine lv_iload_n hx hb dX0_nextListed_32 rfl (lv_at hl 3 rfl) ?_
          refine lv_icmp_ne (tgt := 46) hx hb dX0_nextListed_33 (by decide) (fun c_33 => ?_) (fun c_33 => ?_)
          · skip
            refine lv_iconst (v := 0) hx hb dX0_nextListed_46 (by decide) ?_
            refine z_tv (v := if ps < zls fT fS iT tS i ∨ (zls fT fS iT tS i = ps ∧ ¬ nI i ≤ pr) then (1 : Int32) else 0) (by grind) ?_
            exact J47_2 _ (lv_sub hl [0, 1, 2, 3, 4, 5, 6, 7] rfl)
          · skip
            refine lv_iload hx hb dX0_nextListed_36 (lv_at hl 7 rfl) ?_
            refine lv_iload_n hx hb dX0_nextListed_38 rfl (lv_at hl 4 rfl) ?_
            refine lv_icmp_le (tgt := 46) hx hb dX0_nextListed_39 (by decide) (fun c_39 => ?_) (fun c_39 => ?_)
            · skip
              refine lv_iconst (v := 0) hx hb dX0_nextListed_46 (by decide) ?_
              refine z_tv (v := if ps < zls fT fS iT tS i ∨ (zls fT fS iT tS i = ps ∧ ¬ nI i ≤ pr) then (1 : Int32) else 0) (by grind) ?_
              exact J47_2 _ (lv_sub hl [0, 1, 2, 3, 4, 5, 6, 7] rfl)
            · skip
              refine lv_iconst (v := 1) hx hb dX0_nextListed_42 (by decide) ?_
              refine lv_goto (tgt := 47) hx hb dX0_nextListed_43 (by decide) ?_
              refine z_tv (v := if ps < zls fT fS iT tS i ∨ (zls fT fS iT tS i = ps ∧ ¬ nI i ≤ pr) then (1 : Int32) else 0) (by grind) ?_
              exact J47_2 _ (lv_sub hl [0, 1, 2, 3, 4, 5, 6, 7] rfl)
  exact LOOP1 (20 + 1) 0 (by omega) (by omega)  _ (lv_cg (lv_sub (l' := [(0, .ref g0), (1, .int first), (2, .int ps), (3, .int pr), (4, .int (-1)), (5, .int (-1)), (6, .int 0)]) hl [3, 4, 5, 6, 2, 1, 0] rfl) (zl_k (zl_k (zl_k (zl_k (zl_c (rfl) (zl_c (rfl) (zl_c (rfl) (rfl)))))))))
