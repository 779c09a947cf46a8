set_option maxHeartbeats 4000000 in
set_option maxRecDepth 100000 in
/-- Model.open_ok -/
theorem kX4_open_ok (l : Launch) (dC : Nat → ClassId) (dI : Nat → Nat → Nat) (cI cZ cH cJ : ClassId) (ma : Nat → Nat) (now : Int32) (th : Int32) (uM : zI) (uO : zI) (uF : zI) (uG : zI) (uE : zI) (uD : zI) (uP : zI) (uQ : zI) (uN : zI) (ca : Nat) (hca : ca < 4) (full : Int32) (hff : full = 0 ∨ full = 1) (sz : Nat) : Met l yX4_open wsX4_open ({ frames := 3, cells := 0, slots := 0, locals := 63 }) (zPc dC dI (zTy cI cZ cH cJ) [.ref (ma 0), .int (nI ca), .int full] sz ([(ma 0, .inr (4, [.int now, .ref (ma 1), .ref (ma 2), .ref (ma 3), .ref (ma 4), .ref (ma 5), .ref (ma 6), .ref (ma 7), .ref (ma 8), .ref (ma 9), .ref (ma 10), .ref (ma 11), .ref (ma 12), .ref (ma 13), .ref (ma 14), .ref (ma 15), .ref (ma 16), .ref (ma 17), .ref (ma 18), .ref (ma 19), .ref (ma 20), .int th])), (ma 8, .inl (cI, 4, .inl uM)), (ma 9, .inl (cZ, 4, .inl uO)), (ma 10, .inl (cZ, 4, .inl uF)), (ma 11, .inl (cI, 4, .inl uG)), (ma 12, .inl (cI, 4, .inl uE)), (ma 13, .inl (cI, 4, .inl uD)), (ma 14, .inl (cI, 4, .inl uP)), (ma 15, .inl (cI, 4, .inl uQ)), (ma 20, .inl (cZ, 80, .inl uN))])) (zQi dC dI (if full = 0 then uM ca else 0) ([(ma 0, .inr (4, [.int now, .ref (ma 1), .ref (ma 2), .ref (ma 3), .ref (ma 4), .ref (ma 5), .ref (ma 6), .ref (ma 7), .ref (ma 8), .ref (ma 9), .ref (ma 10), .ref (ma 11), .ref (ma 12), .ref (ma 13), .ref (ma 14), .ref (ma 15), .ref (ma 16), .ref (ma 17), .ref (ma 18), .ref (ma 19), .ref (ma 20), .int 0])), (ma 8, .inl (cI, 4, .inl uM)), (ma 9, .inl (cZ, 4, .inl (upd uO ca 1))), (ma 10, .inl (cZ, 4, .inl (upd uF ca full))), (ma 11, .inl (cI, 4, .inl (upd uG ca (if full = 0 then uM ca else 0)))), (ma 12, .inl (cI, 4, .inl (upd uE ca now))), (ma 13, .inl (cI, 4, .inl (upd uD ca now))), (ma 14, .inl (cI, 4, .inl (upd uP ca (-1)))), (ma 15, .inl (cI, 4, .inl (upd uQ ca (-1)))), (ma 20, .inl (cZ, 80, .inl (ysee uN (20 * ca) 20)))]) (va_A ([(ma 0, .inr (4, [.int now, .ref (ma 1), .ref (ma 2), .ref (ma 3), .ref (ma 4), .ref (ma 5), .ref (ma 6), .ref (ma 7), .ref (ma 8), .ref (ma 9), .ref (ma 10), .ref (ma 11), .ref (ma 12), .ref (ma 13), .ref (ma 14), .ref (ma 15), .ref (ma 16), .ref (ma 17), .ref (ma 18), .ref (ma 19), .ref (ma 20), .int th])), (ma 8, .inl (cI, 4, .inl uM)), (ma 9, .inl (cZ, 4, .inl uO)), (ma 10, .inl (cZ, 4, .inl uF)), (ma 11, .inl (cI, 4, .inl uG)), (ma 12, .inl (cI, 4, .inl uE)), (ma 13, .inl (cI, 4, .inl uD)), (ma 14, .inl (cI, 4, .inl uP)), (ma 15, .inl (cI, 4, .inl uQ)), (ma 20, .inl (cZ, 80, .inl uN))]) sz)) 0 0 (va_A ([(ma 0, .inr (4, [.int now, .ref (ma 1), .ref (ma 2), .ref (ma 3), .ref (ma 4), .ref (ma 5), .ref (ma 6), .ref (ma 7), .ref (ma 8), .ref (ma 9), .ref (ma 10), .ref (ma 11), .ref (ma 12), .ref (ma 13), .ref (ma 14), .ref (ma 15), .ref (ma 16), .ref (ma 17), .ref (ma 18), .ref (ma 19), .ref (ma 20), .int th])), (ma 8, .inl (cI, 4, .inl uM)), (ma 9, .inl (cZ, 4, .inl uO)), (ma 10, .inl (cZ, 4, .inl uF)), (ma 11, .inl (cI, 4, .inl uG)), (ma 12, .inl (cI, 4, .inl uE)), (ma 13, .inl (cI, 4, .inl uD)), (ma 14, .inl (cI, 4, .inl uP)), (ma 15, .inl (cI, 4, .inl uQ)), (ma 20, .inl (cZ, 80, .inl uN))]) sz) := by
  refine Met.ofW (cc := cX4_open) (maxL := 3) (ret := (some .int)) (by decide) rfl ?_
  intro p e s m args below meth c s₁ B hml hv0
  obtain ⟨rfl, hsz, hP, hK, hD0⟩ := hv0
  have hx := B.exec
  have hb := B.bytes
  have hr := B.returns
  have hts := atoms_spec (ws := wsX4_open) B.pre
  have hown : s.vm.findClass RX4 = some m.cls := findClass_of_methodNamed B.named
  have hlocks := B.notSynchronized
  subst hsz
  have hD := hD0.self (sz := s.heap.size)
  generalize hAe : va_A ([(ma 0, .inr (4, [.int now, .ref (ma 1), .ref (ma 2), .ref (ma 3), .ref (ma 4), .ref (ma 5), .ref (ma 6), .ref (ma 7), .ref (ma 8), .ref (ma 9), .ref (ma 10), .ref (ma 11), .ref (ma 12), .ref (ma 13), .ref (ma 14), .ref (ma 15), .ref (ma 16), .ref (ma 17), .ref (ma 18), .ref (ma 19), .ref (ma 20), .int th])), (ma 8, .inl (cI, 4, .inl uM)), (ma 9, .inl (cZ, 4, .inl uO)), (ma 10, .inl (cZ, 4, .inl uF)), (ma 11, .inl (cI, 4, .inl uG)), (ma 12, .inl (cI, 4, .inl uE)), (ma 13, .inl (cI, 4, .inl uD)), (ma 14, .inl (cI, 4, .inl uP)), (ma 15, .inl (cI, 4, .inl uQ)), (ma 20, .inl (cZ, 80, .inl uN))]) s.heap.size = A at hD ⊢
  have hA : ∀ q : Nat, s.heap.size ≤ q → A q := fun q h => by rw [← hAe]; exact Or.inr h
  have hS : va_S A s.heap s.heap [] := va_S.rf
  have hl := lv_entry ([.ref (ma 0), .int (nI ca), .int full]) (n := 3) (Nat.le_of_ble_eq_true rfl)
  rw [lg_entry_eq]
  generalize (lg_sl ([.ref (ma 0), .int (nI ca), .int full]) ++ List.replicate (3 - (lg_sl ([.ref (ma 0), .int (nI ca), .int full])).length) Slot.unset).toArray = ls at hl ⊢
  have hl : lv_has ls 3 [(0, .ref (ma 0)), (1, .int (nI ca)), (2, .int full)] := hl
  have hiX4 : ∀ w ∈ wsX40, w ∈ wsX4_open := by decide +kernel
  have l31 := hts (.fieldLink RX4 31 "CatalogueHarvesterModel" "marks" "[I") (by decide +kernel)
  have l34 := hts (.fieldLink RX4 34 "CatalogueHarvesterModel" "isOpen" "[Z") (by decide +kernel)
  have l38 := hts (.fieldLink RX4 38 "CatalogueHarvesterModel" "isFull" "[Z") (by decide +kernel)
  have l41 := hts (.fieldLink RX4 41 "CatalogueHarvesterModel" "froms" "[I") (by decide +kernel)
  refine lv_aload_n hx hb dX4_open_0 rfl (lv_at hl 0 rfl) ?_
  refine lv_iload_n hx hb dX4_open_1 rfl (lv_at hl 1 rfl) ?_
  refine z_cMi (is := [0]) (va_runV (As := [.int (nI ca)]) (rest := []) ⟨hx, hb, hml, hown, hts⟩ (kX4_asks_ok l dC dI cI cZ cH cJ ma now th ca (by first | assumption | omega) s.heap.size) (cwV 1 hts gX4_open_X4_asks rfl rfl rfl (by decide +kernel) ⟨Nat.le_of_ble_eq_true rfl, Nat.le_of_ble_eq_true rfl⟩) (zPreV (is := [0]) hK hP hD (by decide) rfl (va_recv hK hP (ci := 4) (q0 := 0) rfl rfl)) rfl rfl hl.1 rfl (lv_room (Nat.le_of_ble_eq_true rfl)) dX4_open_2 ⟨Nat.le_of_ble_eq_true rfl, Nat.le_of_ble_eq_true rfl⟩) hP hD hS hA rfl (by decide) rfl (fun H locs hP hD hS => ?_)
  have hP : va_P (dC, dI) vwCl ([(ma 0, .inr (4, [.int now, .ref (ma 1), .ref (ma 2), .ref (ma 3), .ref (ma 4), .ref (ma 5), .ref (ma 6), .ref (ma 7), .ref (ma 8), .ref (ma 9), .ref (ma 10), .ref (ma 11), .ref (ma 12), .ref (ma 13), .ref (ma 14), .ref (ma 15), .ref (ma 16), .ref (ma 17), .ref (ma 18), .ref (ma 19), .ref (ma 20), .int 0])), (ma 8, .inl (cI, 4, .inl uM)), (ma 9, .inl (cZ, 4, .inl uO)), (ma 10, .inl (cZ, 4, .inl uF)), (ma 11, .inl (cI, 4, .inl uG)), (ma 12, .inl (cI, 4, .inl uE)), (ma 13, .inl (cI, 4, .inl uD)), (ma 14, .inl (cI, 4, .inl uP)), (ma 15, .inl (cI, 4, .inl uQ)), (ma 20, .inl (cZ, 80, .inl uN))]) H := hP
  have hD : va_D A ([(ma 0, .inr (4, [.int now, .ref (ma 1), .ref (ma 2), .ref (ma 3), .ref (ma 4), .ref (ma 5), .ref (ma 6), .ref (ma 7), .ref (ma 8), .ref (ma 9), .ref (ma 10), .ref (ma 11), .ref (ma 12), .ref (ma 13), .ref (ma 14), .ref (ma 15), .ref (ma 16), .ref (ma 17), .ref (ma 18), .ref (ma 19), .ref (ma 20), .int 0])), (ma 8, .inl (cI, 4, .inl uM)), (ma 9, .inl (cZ, 4, .inl uO)), (ma 10, .inl (cZ, 4, .inl uF)), (ma 11, .inl (cI, 4, .inl uG)), (ma 12, .inl (cI, 4, .inl uE)), (ma 13, .inl (cI, 4, .inl uD)), (ma 14, .inl (cI, 4, .inl uP)), (ma 15, .inl (cI, 4, .inl uQ)), (ma 20, .inl (cZ, 80, .inl uN))]) := hD
  refine z_tv (v := 1) rfl ?_
  refine lv_if_ne (tgt := 10) hx hb dX4_open_5 (by decide) (fun c_5 => ?_) (fun c_5 => ?_)
  · skip
    refine lv_aload_n hx hb dX4_open_10 rfl (lv_at hl 0 rfl) ?_
    refine va_get (D := (dC, dI)) (ci := 4) (v := .ref (ma 9)) (C := RX4) (T := TX4) (N := 22) hx hb hts hiX4 hown hK hP 0 rfl rfl 9 (by decide) l34 (fun _ h9 => h9) rfl dX4_open_11 ?_
    refine lv_iload_n hx hb dX4_open_14 rfl (lv_at hl 1 rfl) ?_
    refine lv_iconst (v := 1) hx hb dX4_open_15 (by decide) ?_
    refine z_zast (v := 1) hx hb hK hP hD hS 2 rfl (zix_nI (by first | assumption | omega) (by decide)) (rfl) dX4_open_16 (fun H locs hP hD hS => ?_)
    have hP : va_P (dC, dI) vwCl ([(ma 0, .inr (4, [.int now, .ref (ma 1), .ref (ma 2), .ref (ma 3), .ref (ma 4), .ref (ma 5), .ref (ma 6), .ref (ma 7), .ref (ma 8), .ref (ma 9), .ref (ma 10), .ref (ma 11), .ref (ma 12), .ref (ma 13), .ref (ma 14), .ref (ma 15), .ref (ma 16), .ref (ma 17), .ref (ma 18), .ref (ma 19), .ref (ma 20), .int 0])), (ma 8, .inl (cI, 4, .inl uM)), (ma 9, .inl (cZ, 4, .inl (upd uO ca 1))), (ma 10, .inl (cZ, 4, .inl uF)), (ma 11, .inl (cI, 4, .inl uG)), (ma 12, .inl (cI, 4, .inl uE)), (ma 13, .inl (cI, 4, .inl uD)), (ma 14, .inl (cI, 4, .inl uP)), (ma 15, .inl (cI, 4, .inl uQ)), (ma 20, .inl (cZ, 80, .inl uN))]) H := hP
    have hD : va_D A ([(ma 0, .inr (4, [.int now, .ref (ma 1), .ref (ma 2), .ref (ma 3), .ref (ma 4), .ref (ma 5), .ref (ma 6), .ref (ma 7), .ref (ma 8), .ref (ma 9), .ref (ma 10), .ref (ma 11), .ref (ma 12), .ref (ma 13), .ref (ma 14), .ref (ma 15), .ref (ma 16), .ref (ma 17), .ref (ma 18), .ref (ma 19), .ref (ma 20), .int 0])), (ma 8, .inl (cI, 4, .inl uM)), (ma 9, .inl (cZ, 4, .inl (upd uO ca 1))), (ma 10, .inl (cZ, 4, .inl uF)), (ma 11, .inl (cI, 4, .inl uG)), (ma 12, .inl (cI, 4, .inl uE)), (ma 13, .inl (cI, 4, .inl uD)), (ma 14, .inl (cI, 4, .inl uP)), (ma 15, .inl (cI, 4, .inl uQ)), (ma 20, .inl (cZ, 80, .inl uN))]) := hD
    refine lv_aload_n hx hb dX4_open_17 rfl (lv_at hl 0 rfl) ?_
    refine va_get (D := (dC, dI)) (ci := 4) (v := .ref (ma 10)) (C := RX4) (T := TX4) (N := 22) hx hb hts hiX4 hown hK hP 0 rfl rfl 10 (by decide) l38 (fun _ h9 => h9) rfl dX4_open_18 ?_
    refine lv_iload_n hx hb dX4_open_21 rfl (lv_at hl 1 rfl) ?_
    refine lv_iload_n hx hb dX4_open_22 rfl (lv_at hl 2 rfl) ?_
    refine z_zast (v := full) hx hb hK hP hD hS 3 rfl (zix_nI (by first | assumption | omega) (by decide)) (z_vf hff) dX4_open_23 (fun H locs hP hD hS => ?_)
    have hP : va_P (dC, dI) vwCl ([(ma 0, .inr (4, [.int now, .ref (ma 1), .ref (ma 2), .ref (ma 3), .ref (ma 4), .ref (ma 5), .ref (ma 6), .ref (ma 7), .ref (ma 8), .ref (ma 9), .ref (ma 10), .ref (ma 11), .ref (ma 12), .ref (ma 13), .ref (ma 14), .ref (ma 15), .ref (ma 16), .ref (ma 17), .ref (ma 18), .ref (ma 19), .ref (ma 20), .int 0])), (ma 8, .inl (cI, 4, .inl uM)), (ma 9, .inl (cZ, 4, .inl (upd uO ca 1))), (ma 10, .inl (cZ, 4, .inl (upd uF ca full))), (ma 11, .inl (cI, 4, .inl uG)), (ma 12, .inl (cI, 4, .inl uE)), (ma 13, .inl (cI, 4, .inl uD)), (ma 14, .inl (cI, 4, .inl uP)), (ma 15, .inl (cI, 4, .inl uQ)), (ma 20, .inl (cZ, 80, .inl uN))]) H := hP
    have hD : va_D A ([(ma 0, .inr (4, [.int now, .ref (ma 1), .ref (ma 2), .ref (ma 3), .ref (ma 4), .ref (ma 5), .ref (ma 6), .ref (ma 7), .ref (ma 8), .ref (ma 9), .ref (ma 10), .ref (ma 11), .ref (ma 12), .ref (ma 13), .ref (ma 14), .ref (ma 15), .ref (ma 16), .ref (ma 17), .ref (ma 18), .ref (ma 19), .ref (ma 20), .int 0])), (ma 8, .inl (cI, 4, .inl uM)), (ma 9, .inl (cZ, 4, .inl (upd uO ca 1))), (ma 10, .inl (cZ, 4, .inl (upd uF ca full))), (ma 11, .inl (cI, 4, .inl uG)), (ma 12, .inl (cI, 4, .inl uE)), (ma 13, .inl (cI, 4, .inl uD)), (ma 14, .inl (cI, 4, .inl uP)), (ma 15, .inl (cI, 4, .inl uQ)), (ma 20, .inl (cZ, 80, .inl uN))]) := hD
    refine lv_aload_n hx hb dX4_open_24 rfl (lv_at hl 0 rfl) ?_
    refine va_get (D := (dC, dI)) (ci := 4) (v := .ref (ma 11)) (C := RX4) (T := TX4) (N := 22) hx hb hts hiX4 hown hK hP 0 rfl rfl 11 (by decide) l41 (fun _ h9 => h9) rfl dX4_open_25 ?_
    refine lv_iload_n hx hb dX4_open_28 rfl (lv_at hl 1 rfl) ?_
    have J43_1 : ∀ (ls : Array Slot), lv_has ls 3 [(0, .ref (ma 0)), (1, .int (nI ca)), (2, .int full)] → W p l e (headSpec wsX4_open ({ frames := 3, cells := 0, slots := 0, locals := 63 })).room s m ([.ref (ma 0), .int (nI ca), .int full] : List Value).toArray below meth c H locs 0 0 (MQ below (zQi dC dI (if full = 0 then uM ca else 0) ([(ma 0, .inr (4, [.int now, .ref (ma 1), .ref (ma 2), .ref (ma 3), .ref (ma 4), .ref (ma 5), .ref (ma 6), .ref (ma 7), .ref (ma 8), .ref (ma 9), .ref (ma 10), .ref (ma 11), .ref (ma 12), .ref (ma 13), .ref (ma 14), .ref (ma 15), .ref (ma 16), .ref (ma 17), .ref (ma 18), .ref (ma 19), .ref (ma 20), .int 0])), (ma 8, .inl (cI, 4, .inl uM)), (ma 9, .inl (cZ, 4, .inl (upd uO ca 1))), (ma 10, .inl (cZ, 4, .inl (upd uF ca full))), (ma 11, .inl (cI, 4, .inl (upd uG ca (if full = 0 then uM ca else 0)))), (ma 12, .inl (cI, 4, .inl (upd uE ca now))), (ma 13, .inl (cI, 4, .inl (upd uD ca now))), (ma 14, .inl (cI, 4, .inl (upd uP ca (-1)))), (ma 15, .inl (cI, 4, .inl (upd uQ ca (-1)))), (ma 20, .inl (cZ, 80, .inl (ysee uN (20 * ca) 20)))]) A) ([.ref (ma 0), .int (nI ca), .int full] : List Value).toArray s 0 0 A) (F0 m 43 ls [.int (if full = 0 then uM ca else 0), .int (nI ca), .ref (ma 11)]) := by
      intro ls hl
      refine z_iast hx hb hK hP hD hS 4 rfl (zix_nI (by first | assumption | omega) (by decide)) dX4_open_43 (fun H locs hP hD hS => ?_)
      have hP : va_P (dC, dI) vwCl ([(ma 0, .inr (4, [.int now, .ref (ma 1), .ref (ma 2), .ref (ma 3), .ref (ma 4), .ref (ma 5), .ref (ma 6), .ref (ma 7), .ref (ma 8), .ref (ma 9), .ref (ma 10), .ref (ma 11), .ref (ma 12), .ref (ma 13), .ref (ma 14), .ref (ma 15), .ref (ma 16), .ref (ma 17), .ref (ma 18), .ref (ma 19), .ref (ma 20), .int 0])), (ma 8, .inl (cI, 4, .inl uM)), (ma 9, .inl (cZ, 4, .inl (upd uO ca 1))), (ma 10, .inl (cZ, 4, .inl (upd uF ca full))), (ma 11, .inl (cI, 4, .inl (upd uG ca (if full = 0 then uM ca else 0)))), (ma 12, .inl (cI, 4, .inl uE)), (ma 13, .inl (cI, 4, .inl uD)), (ma 14, .inl (cI, 4, .inl uP)), (ma 15, .inl (cI, 4, .inl uQ)), (ma 20, .inl (cZ, 80, .inl uN))]) H := hP
      have hD : va_D A ([(ma 0, .inr (4, [.int now, .ref (ma 1), .ref (ma 2), .ref (ma 3), .ref (ma 4), .ref (ma 5), .ref (ma 6), .ref (ma 7), .ref (ma 8), .ref (ma 9), .ref (ma 10), .ref (ma 11), .ref (ma 12), .ref (ma 13), .ref (ma 14), .ref (ma 15), .ref (ma 16), .ref (ma 17), .ref (ma 18), .ref (ma 19), .ref (ma 20), .int 0])), (ma 8, .inl (cI, 4, .inl uM)), (ma 9, .inl (cZ, 4, .inl (upd uO ca 1))), (ma 10, .inl (cZ, 4, .inl (upd uF ca full))), (ma 11, .inl (cI, 4, .inl (upd uG ca (if full = 0 then uM ca else 0)))), (ma 12, .inl (cI, 4, .inl uE)), (ma 13, .inl (cI, 4, .inl uD)), (ma 14, .inl (cI, 4, .inl uP)), (ma 15, .inl (cI, 4, .inl uQ)), (ma 20, .inl (cZ, 80, .inl uN))]) := hD
      refine lv_aload_n hx hb dX4_open_44 rfl (lv_at hl 0 rfl) ?_
      refine lv_iload_n hx hb dX4_open_45 rfl (lv_at hl 1 rfl) ?_
      refine z_cMv (is := [0, 5, 6, 7, 8, 9]) (va_runV (As := [.int (nI ca)]) (rest := []) ⟨hx, hb, hml, hown, hts⟩ (kX4_begins l dC dI cI cZ cH cJ ma now 0 uE uD uP uQ uN ca (by first | assumption | omega) H.size) (cwV 1 hts gX4_open_X4_begins rfl rfl rfl (by decide +kernel) ⟨Nat.le_of_ble_eq_true rfl, Nat.le_of_ble_eq_true rfl⟩) (zPreV (is := [0, 5, 6, 7, 8, 9]) hK hP hD (by decide) rfl (va_recv hK hP (ci := 4) (q0 := 0) rfl rfl)) rfl rfl hl.1 rfl (lv_room (Nat.le_of_ble_eq_true rfl)) dX4_open_46 ⟨Nat.le_of_ble_eq_true rfl, Nat.le_of_ble_eq_true rfl⟩) hP hD hS hA rfl (by decide) rfl (fun H locs hP hD hS => ?_)
      have hP : va_P (dC, dI) vwCl ([(ma 0, .inr (4, [.int now, .ref (ma 1), .ref (ma 2), .ref (ma 3), .ref (ma 4), .ref (ma 5), .ref (ma 6), .ref (ma 7), .ref (ma 8), .ref (ma 9), .ref (ma 10), .ref (ma 11), .ref (ma 12), .ref (ma 13), .ref (ma 14), .ref (ma 15), .ref (ma 16), .ref (ma 17), .ref (ma 18), .ref (ma 19), .ref (ma 20), .int 0])), (ma 8, .inl (cI, 4, .inl uM)), (ma 9, .inl (cZ, 4, .inl (upd uO ca 1))), (ma 10, .inl (cZ, 4, .inl (upd uF ca full))), (ma 11, .inl (cI, 4, .inl (upd uG ca (if full = 0 then uM ca else 0)))), (ma 12, .inl (cI, 4, .inl (upd uE ca now))), (ma 13, .inl (cI, 4, .inl (upd uD ca now))), (ma 14, .inl (cI, 4, .inl (upd uP ca (-1)))), (ma 15, .inl (cI, 4, .inl (upd uQ ca (-1)))), (ma 20, .inl (cZ, 80, .inl (ysee uN (20 * ca) 20)))]) H := hP
      have hD : va_D A ([(ma 0, .inr (4, [.int now, .ref (ma 1), .ref (ma 2), .ref (ma 3), .ref (ma 4), .ref (ma 5), .ref (ma 6), .ref (ma 7), .ref (ma 8), .ref (ma 9), .ref (ma 10), .ref (ma 11), .ref (ma 12), .ref (ma 13), .ref (ma 14), .ref (ma 15), .ref (ma 16), .ref (ma 17), .ref (ma 18), .ref (ma 19), .ref (ma 20), .int 0])), (ma 8, .inl (cI, 4, .inl uM)), (ma 9, .inl (cZ, 4, .inl (upd uO ca 1))), (ma 10, .inl (cZ, 4, .inl (upd uF ca full))), (ma 11, .inl (cI, 4, .inl (upd uG ca (if full = 0 then uM ca else 0)))), (ma 12, .inl (cI, 4, .inl (upd uE ca now))), (ma 13, .inl (cI, 4, .inl (upd uD ca now))), (ma 14, .inl (cI, 4, .inl (upd uP ca (-1)))), (ma 15, .inl (cI, 4, .inl (upd uQ ca (-1)))), (ma 20, .inl (cZ, 80, .inl (ysee uN (20 * ca) 20)))]) := hD
      refine lv_aload_n hx hb dX4_open_49 rfl (lv_at hl 0 rfl) ?_
      refine va_get (D := (dC, dI)) (ci := 4) (v := .ref (ma 11)) (C := RX4) (T := TX4) (N := 22) hx hb hts hiX4 hown hK hP 0 rfl rfl 11 (by decide) l41 (fun _ h9 => h9) rfl dX4_open_50 ?_
      refine lv_iload_n hx hb dX4_open_53 rfl (lv_at hl 1 rfl) ?_
      refine z_iald hx hb hK hP 4 rfl (zix_nI (by first | assumption | omega) (by decide)) dX4_open_54 ?_
      refine z_tv (v := (upd uG ca (if full = 0 then uM ca else 0)) ca) (rfl) ?_
      refine z_tv (v := if full = 0 then uM ca else 0) (pk_us) ?_
      exact W.iret hx hb hr (fun t ht hW => ⟨rfl, ⟨by rw [ht]; exact hP, hD⟩, hS.F ht⟩) hS.2.2 dX4_open_55
    refine lv_iload_n hx hb dX4_open_29 rfl (lv_at hl 2 rfl) ?_
    refine lv_if_eq (tgt := 37) hx hb dX4_open_30 (by decide) (fun c_30 => ?_) (fun c_30 => ?_)
    · skip
      refine lv_aload_n hx hb dX4_open_37 rfl (lv_at hl 0 rfl) ?_
      refine va_get (D := (dC, dI)) (ci := 4) (v := .ref (ma 8)) (C := RX4) (T := TX4) (N := 22) hx hb hts hiX4 hown hK hP 0 rfl rfl 8 (by decide) l31 (fun _ h9 => h9) rfl dX4_open_38 ?_
      refine lv_iload_n hx hb dX4_open_41 rfl (lv_at hl 1 rfl) ?_
      refine z_iald hx hb hK hP 1 rfl (zix_nI (by first | assumption | omega) (by decide)) dX4_open_42 ?_
      refine z_tv (v := uM ca) (rfl) ?_
      refine z_tv (v := if full = 0 then uM ca else 0) (by simp [c_30]) ?_
      exact J43_1 _ (lv_sub hl [0, 1, 2] rfl)
    · skip
      refine lv_iconst (v := 0) hx hb dX4_open_33 (by decide) ?_
      refine lv_goto (tgt := 43) hx hb dX4_open_34 (by decide) ?_
      refine z_tv (v := if full = 0 then uM ca else 0) (by simp [c_30]) ?_
      exact J43_1 _ (lv_sub hl [0, 1, 2] rfl)
  · exact absurd c_5 (by decide)
set_option maxHeartbeats 4000000 in
set_option maxRecDepth 100000 in
/-- Model.open_bad -/
theorem kX4_open_bad (l : Launch) (dC : Nat → ClassId) (dI : Nat → Nat → Nat) (cI cZ cH cJ : ClassId) (ma : Nat → Nat) (now : Int32) (th : Int32) (v : Int32) (hv : ¬ zin v 0 3 = 1) (full : Int32) (sz : Nat) : Met l yX4_open wsX4_open ({ frames := 3, cells := 0, slots := 0, locals := 63 }) (zPc dC dI (zTy cI cZ cH cJ) [.ref (ma 0), .int v, .int full] sz ([(ma 0, .inr (4, [.int now, .ref (ma 1), .ref (ma 2), .ref (ma 3), .ref (ma 4), .ref (ma 5), .ref (ma 6), .ref (ma 7), .ref (ma 8), .ref (ma 9), .ref (ma 10), .ref (ma 11), .ref (ma 12), .ref (ma 13), .ref (ma 14), .ref (ma 15), .ref (ma 16), .ref (ma 17), .ref (ma 18), .ref (ma 19), .ref (ma 20), .int th]))])) (zQi dC dI 0 ([(ma 0, .inr (4, [.int now, .ref (ma 1), .ref (ma 2), .ref (ma 3), .ref (ma 4), .ref (ma 5), .ref (ma 6), .ref (ma 7), .ref (ma 8), .ref (ma 9), .ref (ma 10), .ref (ma 11), .ref (ma 12), .ref (ma 13), .ref (ma 14), .ref (ma 15), .ref (ma 16), .ref (ma 17), .ref (ma 18), .ref (ma 19), .ref (ma 20), .int 1]))]) (va_A ([(ma 0, .inr (4, [.int now, .ref (ma 1), .ref (ma 2), .ref (ma 3), .ref (ma 4), .ref (ma 5), .ref (ma 6), .ref (ma 7), .ref (ma 8), .ref (ma 9), .ref (ma 10), .ref (ma 11), .ref (ma 12), .ref (ma 13), .ref (ma 14), .ref (ma 15), .ref (ma 16), .ref (ma 17), .ref (ma 18), .ref (ma 19), .ref (ma 20), .int th]))]) sz)) 0 0 (va_A ([(ma 0, .inr (4, [.int now, .ref (ma 1), .ref (ma 2), .ref (ma 3), .ref (ma 4), .ref (ma 5), .ref (ma 6), .ref (ma 7), .ref (ma 8), .ref (ma 9), .ref (ma 10), .ref (ma 11), .ref (ma 12), .ref (ma 13), .ref (ma 14), .ref (ma 15), .ref (ma 16), .ref (ma 17), .ref (ma 18), .ref (ma 19), .ref (ma 20), .int th]))]) sz) := by
  refine Met.ofW (cc := cX4_open) (maxL := 3) (ret := (some .int)) (by decide) rfl ?_
  intro p e s m args below meth c s₁ B hml hv0
  obtain ⟨rfl, hsz, hP, hK, hD0⟩ := hv0
  have hx := B.exec
  have hb := B.bytes
  have hr := B.returns
  have hts := atoms_spec (ws := wsX4_open) B.pre
  have hown : s.vm.findClass RX4 = some m.cls := findClass_of_methodNamed B.named
  have hlocks := B.notSynchronized
  subst hsz
  have hD := hD0.self (sz := s.heap.size)
  generalize hAe : va_A ([(ma 0, .inr (4, [.int now, .ref (ma 1), .ref (ma 2), .ref (ma 3), .ref (ma 4), .ref (ma 5), .ref (ma 6), .ref (ma 7), .ref (ma 8), .ref (ma 9), .ref (ma 10), .ref (ma 11), .ref (ma 12), .ref (ma 13), .ref (ma 14), .ref (ma 15), .ref (ma 16), .ref (ma 17), .ref (ma 18), .ref (ma 19), .ref (ma 20), .int th]))]) s.heap.size = A at hD ⊢
  have hA : ∀ q : Nat, s.heap.size ≤ q → A q := fun q h => by rw [← hAe]; exact Or.inr h
  have hS : va_S A s.heap s.heap [] := va_S.rf
  have hl := lv_entry ([.ref (ma 0), .int v, .int full]) (n := 3) (Nat.le_of_ble_eq_true rfl)
  rw [lg_entry_eq]
  generalize (lg_sl ([.ref (ma 0), .int v, .int full]) ++ List.replicate (3 - (lg_sl ([.ref (ma 0), .int v, .int full])).length) Slot.unset).toArray = ls at hl ⊢
  have hl : lv_has ls 3 [(0, .ref (ma 0)), (1, .int v), (2, .int full)] := hl
  refine lv_aload_n hx hb dX4_open_0 rfl (lv_at hl 0 rfl) ?_
  refine lv_iload_n hx hb dX4_open_1 rfl (lv_at hl 1 rfl) ?_
  refine z_cMi (is := [0]) (va_runV (As := [.int v]) (rest := []) ⟨hx, hb, hml, hown, hts⟩ (kX4_asks_bad l dC dI cI cZ cH cJ ma now th v (by first | assumption | omega) s.heap.size) (cwV 1 hts gX4_open_X4_asks rfl rfl rfl (by decide +kernel) ⟨Nat.le_of_ble_eq_true rfl, Nat.le_of_ble_eq_true rfl⟩) (zPreV (is := [0]) hK hP hD (by decide) rfl (va_recv hK hP (ci := 4) (q0 := 0) rfl rfl)) rfl rfl hl.1 rfl (lv_room (Nat.le_of_ble_eq_true rfl)) dX4_open_2 ⟨Nat.le_of_ble_eq_true rfl, Nat.le_of_ble_eq_true rfl⟩) hP hD hS hA rfl (by decide) rfl (fun H locs hP hD hS => ?_)
  have hP : va_P (dC, dI) vwCl ([(ma 0, .inr (4, [.int now, .ref (ma 1), .ref (ma 2), .ref (ma 3), .ref (ma 4), .ref (ma 5), .ref (ma 6), .ref (ma 7), .ref (ma 8), .ref (ma 9), .ref (ma 10), .ref (ma 11), .ref (ma 12), .ref (ma 13), .ref (ma 14), .ref (ma 15), .ref (ma 16), .ref (ma 17), .ref (ma 18), .ref (ma 19), .ref (ma 20), .int 1]))]) H := hP
  have hD : va_D A ([(ma 0, .inr (4, [.int now, .ref (ma 1), .ref (ma 2), .ref (ma 3), .ref (ma 4), .ref (ma 5), .ref (ma 6), .ref (ma 7), .ref (ma 8), .ref (ma 9), .ref (ma 10), .ref (ma 11), .ref (ma 12), .ref (ma 13), .ref (ma 14), .ref (ma 15), .ref (ma 16), .ref (ma 17), .ref (ma 18), .ref (ma 19), .ref (ma 20), .int 1]))]) := hD
  refine z_tv (v := 0) rfl ?_
  refine lv_if_ne (tgt := 10) hx hb dX4_open_5 (by decide) (fun c_5 => ?_) (fun c_5 => ?_)
  · exact absurd c_5 (by decide)
  · skip
    refine lv_iconst (v := 0) hx hb dX4_open_8 (by decide) ?_
    exact W.iret hx hb hr (fun t ht hW => ⟨rfl, ⟨by rw [ht]; exact hP, hD⟩, hS.F ht⟩) hS.2.2 dX4_open_9
set_option maxHeartbeats 4000000 in
set_option maxRecDepth 100000 in
/-- Model.isOpen_ok -/
theorem kX4_isOpen_ok (l : Launch) (dC : Nat → ClassId) (dI : Nat → Nat → Nat) (cI cZ cH cJ : ClassId) (ma : Nat → Nat) (now : Int32) (th : Int32) (uO : zI) (ca : Nat) (hca : ca < 4) (sz : Nat) : Met l yX4_isOpen wsX4_isOpen ({ frames := 3, cells := 0, slots := 0, locals := 63 }) (zPc dC dI (zTy cI cZ cH cJ) [.ref (ma 0), .int (nI ca)] sz ([(ma 0, .inr (4, [.int now, .ref (ma 1), .ref (ma 2), .ref (ma 3), .ref (ma 4), .ref (ma 5), .ref (ma 6), .ref (ma 7), .ref (ma 8), .ref (ma 9), .ref (ma 10), .ref (ma 11), .ref (ma 12), .ref (ma 13), .ref (ma 14), .ref (ma 15), .ref (ma 16), .ref (ma 17), .ref (ma 18), .ref (ma 19), .ref (ma 20), .int th])), (ma 9, .inl (cZ, 4, .inl uO))])) (zQi dC dI (if ¬ uO ca = 0 then (1 : Int32) else 0) ([(ma 0, .inr (4, [.int now, .ref (ma 1), .ref (ma 2), .ref (ma 3), .ref (ma 4), .ref (ma 5), .ref (ma 6), .ref (ma 7), .ref (ma 8), .ref (ma 9), .ref (ma 10), .ref (ma 11), .ref (ma 12), .ref (ma 13), .ref (ma 14), .ref (ma 15), .ref (ma 16), .ref (ma 17), .ref (ma 18), .ref (ma 19), .ref (ma 20), .int 0])), (ma 9, .inl (cZ, 4, .inl uO))]) (va_A ([(ma 0, .inr (4, [.int now, .ref (ma 1), .ref (ma 2), .ref (ma 3), .ref (ma 4), .ref (ma 5), .ref (ma 6), .ref (ma 7), .ref (ma 8), .ref (ma 9), .ref (ma 10), .ref (ma 11), .ref (ma 12), .ref (ma 13), .ref (ma 14), .ref (ma 15), .ref (ma 16), .ref (ma 17), .ref (ma 18), .ref (ma 19), .ref (ma 20), .int th])), (ma 9, .inl (cZ, 4, .inl uO))]) sz)) 0 0 (va_A ([(ma 0, .inr (4, [.int now, .ref (ma 1), .ref (ma 2), .ref (ma 3), .ref (ma 4), .ref (ma 5), .ref (ma 6), .ref (ma 7), .ref (ma 8), .ref (ma 9), .ref (ma 10), .ref (ma 11), .ref (ma 12), .ref (ma 13), .ref (ma 14), .ref (ma 15), .ref (ma 16), .ref (ma 17), .ref (ma 18), .ref (ma 19), .ref (ma 20), .int th])), (ma 9, .inl (cZ, 4, .inl uO))]) sz) := by
  refine Met.ofW (cc := cX4_isOpen) (maxL := 2) (ret := (some .boolean)) (by decide) rfl ?_
  intro p e s m args below meth c s₁ B hml hv0
  obtain ⟨rfl, hsz, hP, hK, hD0⟩ := hv0
  have hx := B.exec
  have hb := B.bytes
  have hr := B.returns
  have hts := atoms_spec (ws := wsX4_isOpen) B.pre
  have hown : s.vm.findClass RX4 = some m.cls := findClass_of_methodNamed B.named
  have hlocks := B.notSynchronized
  subst hsz
  have hD := hD0.self (sz := s.heap.size)
  generalize hAe : va_A ([(ma 0, .inr (4, [.int now, .ref (ma 1), .ref (ma 2), .ref (ma 3), .ref (ma 4), .ref (ma 5), .ref (ma 6), .ref (ma 7), .ref (ma 8), .ref (ma 9), .ref (ma 10), .ref (ma 11), .ref (ma 12), .ref (ma 13), .ref (ma 14), .ref (ma 15), .ref (ma 16), .ref (ma 17), .ref (ma 18), .ref (ma 19), .ref (ma 20), .int th])), (ma 9, .inl (cZ, 4, .inl uO))]) s.heap.size = A at hD ⊢
  have hA : ∀ q : Nat, s.heap.size ≤ q → A q := fun q h => by rw [← hAe]; exact Or.inr h
  have hS : va_S A s.heap s.heap [] := va_S.rf
  have hl := lv_entry ([.ref (ma 0), .int (nI ca)]) (n := 2) (Nat.le_of_ble_eq_true rfl)
  rw [lg_entry_eq]
  generalize (lg_sl ([.ref (ma 0), .int (nI ca)]) ++ List.replicate (2 - (lg_sl ([.ref (ma 0), .int (nI ca)])).length) Slot.unset).toArray = ls at hl ⊢
  have hl : lv_has ls 2 [(0, .ref (ma 0)), (1, .int (nI ca))] := hl
  have hiX4 : ∀ w ∈ wsX40, w ∈ wsX4_isOpen := by decide +kernel
  have l34 := hts (.fieldLink RX4 34 "CatalogueHarvesterModel" "isOpen" "[Z") (by decide +kernel)
  refine lv_aload_n hx hb dX4_isOpen_0 rfl (lv_at hl 0 rfl) ?_
  refine lv_iload_n hx hb dX4_isOpen_1 rfl (lv_at hl 1 rfl) ?_
  refine z_cMi (is := [0]) (va_runV (As := [.int (nI ca)]) (rest := []) ⟨hx, hb, hml, hown, hts⟩ (kX4_asks_ok l dC dI cI cZ cH cJ ma now th ca (by first | assumption | omega) s.heap.size) (cwV 1 hts gX4_isOpen_X4_asks rfl rfl rfl (by decide +kernel) ⟨Nat.le_of_ble_eq_true rfl, Nat.le_of_ble_eq_true rfl⟩) (zPreV (is := [0]) hK hP hD (by decide) rfl (va_recv hK hP (ci := 4) (q0 := 0) rfl rfl)) rfl rfl hl.1 rfl (lv_room (Nat.le_of_ble_eq_true rfl)) dX4_isOpen_2 ⟨Nat.le_of_ble_eq_true rfl, Nat.le_of_ble_eq_true rfl⟩) hP hD hS hA rfl (by decide) rfl (fun H locs hP hD hS => ?_)
  have hP : va_P (dC, dI) vwCl ([(ma 0, .inr (4, [.int now, .ref (ma 1), .ref (ma 2), .ref (ma 3), .ref (ma 4), .ref (ma 5), .ref (ma 6), .ref (ma 7), .ref (ma 8), .ref (ma 9), .ref (ma 10), .ref (ma 11), .ref (ma 12), .ref (ma 13), .ref (ma 14), .ref (ma 15), .ref (ma 16), .ref (ma 17), .ref (ma 18), .ref (ma 19), .ref (ma 20), .int 0])), (ma 9, .inl (cZ, 4, .inl uO))]) H := hP
  have hD : va_D A ([(ma 0, .inr (4, [.int now, .ref (ma 1), .ref (ma 2), .ref (ma 3), .ref (ma 4), .ref (ma 5), .ref (ma 6), .ref (ma 7), .ref (ma 8), .ref (ma 9), .ref (ma 10), .ref (ma 11), .ref (ma 12), .ref (ma 13), .ref (ma 14), .ref (ma 15), .ref (ma 16), .ref (ma 17), .ref (ma 18), .ref (ma 19), .ref (ma 20), .int 0])), (ma 9, .inl (cZ, 4, .inl uO))]) := hD
  refine z_tv (v := 1) rfl ?_
  refine lv_if_eq (tgt := 21) hx hb dX4_isOpen_5 (by decide) (fun c_5 => ?_) (fun c_5 => ?_)
  · exact absurd c_5 (by decide)
  · skip
    refine lv_aload_n hx hb dX4_isOpen_8 rfl (lv_at hl 0 rfl) ?_
    refine va_get (D := (dC, dI)) (ci := 4) (v := .ref (ma 9)) (C := RX4) (T := TX4) (N := 22) hx hb hts hiX4 hown hK hP 0 rfl rfl 9 (by decide) l34 (fun _ h9 => h9) rfl dX4_isOpen_9 ?_
    refine lv_iload_n hx hb dX4_isOpen_12 rfl (lv_at hl 1 rfl) ?_
    refine z_zald hx hb hK hP 1 rfl (zix_nI (by first | assumption | omega) (by decide)) dX4_isOpen_13 ?_
    refine z_tv (v := uO ca) (rfl) ?_
    refine lv_if_eq (tgt := 21) hx hb dX4_isOpen_14 (by decide) (fun c_14 => ?_) (fun c_14 => ?_)
    · skip
      refine lv_iconst (v := 0) hx hb dX4_isOpen_21 (by decide) ?_
      refine z_tv (v := if ¬ uO ca = 0 then (1 : Int32) else 0) (by simp [c_14]) ?_
      exact W.zret (ty := .boolean) hx hb hr (z_nb _) (fun t ht hW => ⟨rfl, ⟨by rw [ht]; exact hP, hD⟩, hS.F ht⟩) hS.2.2 dX4_isOpen_22
    · skip
      refine lv_iconst (v := 1) hx hb dX4_isOpen_17 (by decide) ?_
      refine lv_goto (tgt := 22) hx hb dX4_isOpen_18 (by decide) ?_
      refine z_tv (v := if ¬ uO ca = 0 then (1 : Int32) else 0) (by simp [c_14]) ?_
      exact W.zret (ty := .boolean) hx hb hr (z_nb _) (fun t ht hW => ⟨rfl, ⟨by rw [ht]; exact hP, hD⟩, hS.F ht⟩) hS.2.2 dX4_isOpen_22
set_option maxHeartbeats 4000000 in
set_option maxRecDepth 100000 in
/-- Model.isOpen_bad -/
theorem kX4_isOpen_bad (l : Launch) (dC : Nat → ClassId) (dI : Nat → Nat → Nat) (cI cZ cH cJ : ClassId) (ma : Nat → Nat) (now : Int32) (th : Int32) (v : Int32) (hv : ¬ zin v 0 3 = 1) (sz : Nat) : Met l yX4_isOpen wsX4_isOpen ({ frames := 3, cells := 0, slots := 0, locals := 63 }) (zPc dC dI (zTy cI cZ cH cJ) [.ref (ma 0), .int v] sz ([(ma 0, .inr (4, [.int now, .ref (ma 1), .ref (ma 2), .ref (ma 3), .ref (ma 4), .ref (ma 5), .ref (ma 6), .ref (ma 7), .ref (ma 8), .ref (ma 9), .ref (ma 10), .ref (ma 11), .ref (ma 12), .ref (ma 13), .ref (ma 14), .ref (ma 15), .ref (ma 16), .ref (ma 17), .ref (ma 18), .ref (ma 19), .ref (ma 20), .int th]))])) (zQi dC dI 0 ([(ma 0, .inr (4, [.int now, .ref (ma 1), .ref (ma 2), .ref (ma 3), .ref (ma 4), .ref (ma 5), .ref (ma 6), .ref (ma 7), .ref (ma 8), .ref (ma 9), .ref (ma 10), .ref (ma 11), .ref (ma 12), .ref (ma 13), .ref (ma 14), .ref (ma 15), .ref (ma 16), .ref (ma 17), .ref (ma 18), .ref (ma 19), .ref (ma 20), .int 1]))]) (va_A ([(ma 0, .inr (4, [.int now, .ref (ma 1), .ref (ma 2), .ref (ma 3), .ref (ma 4), .ref (ma 5), .ref (ma 6), .ref (ma 7), .ref (ma 8), .ref (ma 9), .ref (ma 10), .ref (ma 11), .ref (ma 12), .ref (ma 13), .ref (ma 14), .ref (ma 15), .ref (ma 16), .ref (ma 17), .ref (ma 18), .ref (ma 19), .ref (ma 20), .int th]))]) sz)) 0 0 (va_A ([(ma 0, .inr (4, [.int now, .ref (ma 1), .ref (ma 2), .ref (ma 3), .ref (ma 4), .ref (ma 5), .ref (ma 6), .ref (ma 7), .ref (ma 8), .ref (ma 9), .ref (ma 10), .ref (ma 11), .ref (ma 12), .ref (ma 13), .ref (ma 14), .ref (ma 15), .ref (ma 16), .ref (ma 17), .ref (ma 18), .ref (ma 19), .ref (ma 20), .int th]))]) sz) := by
  refine Met.ofW (cc := cX4_isOpen) (maxL := 2) (ret := (some .boolean)) (by decide) rfl ?_
  intro p e s m args below meth c s₁ B hml hv0
  obtain ⟨rfl, hsz, hP, hK, hD0⟩ := hv0
  have hx := B.exec
  have hb := B.bytes
  have hr := B.returns
  have hts := atoms_spec (ws := wsX4_isOpen) B.pre
  have hown : s.vm.findClass RX4 = some m.cls := findClass_of_methodNamed B.named
  have hlocks := B.notSynchronized
  subst hsz
  have hD := hD0.self (sz := s.heap.size)
  generalize hAe : va_A ([(ma 0, .inr (4, [.int now, .ref (ma 1), .ref (ma 2), .ref (ma 3), .ref (ma 4), .ref (ma 5), .ref (ma 6), .ref (ma 7), .ref (ma 8), .ref (ma 9), .ref (ma 10), .ref (ma 11), .ref (ma 12), .ref (ma 13), .ref (ma 14), .ref (ma 15), .ref (ma 16), .ref (ma 17), .ref (ma 18), .ref (ma 19), .ref (ma 20), .int th]))]) s.heap.size = A at hD ⊢
  have hA : ∀ q : Nat, s.heap.size ≤ q → A q := fun q h => by rw [← hAe]; exact Or.inr h
  have hS : va_S A s.heap s.heap [] := va_S.rf
  have hl := lv_entry ([.ref (ma 0), .int v]) (n := 2) (Nat.le_of_ble_eq_true rfl)
  rw [lg_entry_eq]
  generalize (lg_sl ([.ref (ma 0), .int v]) ++ List.replicate (2 - (lg_sl ([.ref (ma 0), .int v])).length) Slot.unset).toArray = ls at hl ⊢
  have hl : lv_has ls 2 [(0, .ref (ma 0)), (1, .int v)] := hl
  refine lv_aload_n hx hb dX4_isOpen_0 rfl (lv_at hl 0 rfl) ?_
  refine lv_iload_n hx hb dX4_isOpen_1 rfl (lv_at hl 1 rfl) ?_
  refine z_cMi (is := [0]) (va_runV (As := [.int v]) (rest := []) ⟨hx, hb, hml, hown, hts⟩ (kX4_asks_bad l dC dI cI cZ cH cJ ma now th v (by first | assumption | omega) s.heap.size) (cwV 1 hts gX4_isOpen_X4_asks rfl rfl rfl (by decide +kernel) ⟨Nat.le_of_ble_eq_true rfl, Nat.le_of_ble_eq_true rfl⟩) (zPreV (is := [0]) hK hP hD (by decide) rfl (va_recv hK hP (ci := 4) (q0 := 0) rfl rfl)) rfl rfl hl.1 rfl (lv_room (Nat.le_of_ble_eq_true rfl)) dX4_isOpen_2 ⟨Nat.le_of_ble_eq_true rfl, Nat.le_of_ble_eq_true rfl⟩) hP hD hS hA rfl (by decide) rfl (fun H locs hP hD hS => ?_)
  have hP : va_P (dC, dI) vwCl ([(ma 0, .inr (4, [.int now, .ref (ma 1), .ref (ma 2), .ref (ma 3), .ref (ma 4), .ref (ma 5), .ref (ma 6), .ref (ma 7), .ref (ma 8), .ref (ma 9), .ref (ma 10), .ref (ma 11), .ref (ma 12), .ref (ma 13), .ref (ma 14), .ref (ma 15), .ref (ma 16), .ref (ma 17), .ref (ma 18), .ref (ma 19), .ref (ma 20), .int 1]))]) H := hP
  have hD : va_D A ([(ma 0, .inr (4, [.int now, .ref (ma 1), .ref (ma 2), .ref (ma 3), .ref (ma 4), .ref (ma 5), .ref (ma 6), .ref (ma 7), .ref (ma 8), .ref (ma 9), .ref (ma 10), .ref (ma 11), .ref (ma 12), .ref (ma 13), .ref (ma 14), .ref (ma 15), .ref (ma 16), .ref (ma 17), .ref (ma 18), .ref (ma 19), .ref (ma 20), .int 1]))]) := hD
  refine z_tv (v := 0) rfl ?_
  refine lv_if_eq (tgt := 21) hx hb dX4_isOpen_5 (by decide) (fun c_5 => ?_) (fun c_5 => ?_)
  · skip
    refine lv_iconst (v := 0) hx hb dX4_isOpen_21 (by decide) ?_
    exact W.zret (ty := .boolean) hx hb hr (rfl) (fun t ht hW => ⟨rfl, ⟨by rw [ht]; exact hP, hD⟩, hS.F ht⟩) hS.2.2 dX4_isOpen_22
  · exact absurd c_5 (by decide)
set_option maxHeartbeats 4000000 in
set_option maxRecDepth 100000 in
/-- Model.stored_ok -/
theorem kX4_stored_ok (l : Launch) (dC : Nat → ClassId) (dI : Nat → Nat → Nat) (cI cZ cH cJ : ClassId) (ma : Nat → Nat) (now : Int32) (th : Int32) (uH : zI) (xV : zI) (ca : Nat) (hca : ca < 4) (r : Nat) (hrr : r < 20) (sz : Nat) : Met l yX4_stored wsX4_stored ({ frames := 2, cells := 0, slots := 0, locals := 42 }) (zPc dC dI (zTy cI cZ cH cJ) [.ref (ma 0), .int (nI ca), .int (nI r)] sz ([(ma 0, .inr (4, [.int now, .ref (ma 1), .ref (ma 2), .ref (ma 3), .ref (ma 4), .ref (ma 5), .ref (ma 6), .ref (ma 7), .ref (ma 8), .ref (ma 9), .ref (ma 10), .ref (ma 11), .ref (ma 12), .ref (ma 13), .ref (ma 14), .ref (ma 15), .ref (ma 16), .ref (ma 17), .ref (ma 18), .ref (ma 19), .ref (ma 20), .int th])), (ma 16, .inl (cZ, 80, .inl uH)), (ma 18, .inl (cI, 80, .inl xV))])) (zQi dC dI (if uH (20 * ca + r) = 0 then (-1) else xV (20 * ca + r)) ([(ma 0, .inr (4, [.int now, .ref (ma 1), .ref (ma 2), .ref (ma 3), .ref (ma 4), .ref (ma 5), .ref (ma 6), .ref (ma 7), .ref (ma 8), .ref (ma 9), .ref (ma 10), .ref (ma 11), .ref (ma 12), .ref (ma 13), .ref (ma 14), .ref (ma 15), .ref (ma 16), .ref (ma 17), .ref (ma 18), .ref (ma 19), .ref (ma 20), .int 0])), (ma 16, .inl (cZ, 80, .inl uH)), (ma 18, .inl (cI, 80, .inl xV))]) (va_A ([(ma 0, .inr (4, [.int now, .ref (ma 1), .ref (ma 2), .ref (ma 3), .ref (ma 4), .ref (ma 5), .ref (ma 6), .ref (ma 7), .ref (ma 8), .ref (ma 9), .ref (ma 10), .ref (ma 11), .ref (ma 12), .ref (ma 13), .ref (ma 14), .ref (ma 15), .ref (ma 16), .ref (ma 17), .ref (ma 18), .ref (ma 19), .ref (ma 20), .int th])), (ma 16, .inl (cZ, 80, .inl uH)), (ma 18, .inl (cI, 80, .inl xV))]) sz)) 0 0 (va_A ([(ma 0, .inr (4, [.int now, .ref (ma 1), .ref (ma 2), .ref (ma 3), .ref (ma 4), .ref (ma 5), .ref (ma 6), .ref (ma 7), .ref (ma 8), .ref (ma 9), .ref (ma 10), .ref (ma 11), .ref (ma 12), .ref (ma 13), .ref (ma 14), .ref (ma 15), .ref (ma 16), .ref (ma 17), .ref (ma 18), .ref (ma 19), .ref (ma 20), .int th])), (ma 16, .inl (cZ, 80, .inl uH)), (ma 18, .inl (cI, 80, .inl xV))]) sz) := by
  refine Met.ofW (cc := cX4_stored) (maxL := 4) (ret := (some .int)) (by decide) rfl ?_
  intro p e s m args below meth c s₁ B hml hv0
  obtain ⟨rfl, hsz, hP, hK, hD0⟩ := hv0
  have hx := B.exec
  have hb := B.bytes
  have hr := B.returns
  have hts := atoms_spec (ws := wsX4_stored) B.pre
  have hown : s.vm.findClass RX4 = some m.cls := findClass_of_methodNamed B.named
  have hlocks := B.notSynchronized
  subst hsz
  have hD := hD0.self (sz := s.heap.size)
  generalize hAe : va_A ([(ma 0, .inr (4, [.int now, .ref (ma 1), .ref (ma 2), .ref (ma 3), .ref (ma 4), .ref (ma 5), .ref (ma 6), .ref (ma 7), .ref (ma 8), .ref (ma 9), .ref (ma 10), .ref (ma 11), .ref (ma 12), .ref (ma 13), .ref (ma 14), .ref (ma 15), .ref (ma 16), .ref (ma 17), .ref (ma 18), .ref (ma 19), .ref (ma 20), .int th])), (ma 16, .inl (cZ, 80, .inl uH)), (ma 18, .inl (cI, 80, .inl xV))]) s.heap.size = A at hD ⊢
  have hA : ∀ q : Nat, s.heap.size ≤ q → A q := fun q h => by rw [← hAe]; exact Or.inr h
  have hS : va_S A s.heap s.heap [] := va_S.rf
  have hl := lv_entry ([.ref (ma 0), .int (nI ca), .int (nI r)]) (n := 4) (Nat.le_of_ble_eq_true rfl)
  rw [lg_entry_eq]
  generalize (lg_sl ([.ref (ma 0), .int (nI ca), .int (nI r)]) ++ List.replicate (4 - (lg_sl ([.ref (ma 0), .int (nI ca), .int (nI r)])).length) Slot.unset).toArray = ls at hl ⊢
  have hl : lv_has ls 4 [(0, .ref (ma 0)), (1, .int (nI ca)), (2, .int (nI r))] := hl
  have hiX4 : ∀ w ∈ wsX40, w ∈ wsX4_stored := by decide +kernel
  have l56 := hts (.fieldLink RX4 56 "CatalogueHarvesterModel" "isHeld" "[Z") (by decide +kernel)
  have l62 := hts (.fieldLink RX4 62 "CatalogueHarvesterModel" "heldValues" "[I") (by decide +kernel)
  refine lv_iload_n hx hb dX4_stored_0 rfl (lv_at hl 1 rfl) ?_
  refine z_cRi (va_runS (As := [.int (nI ca)]) (rest := []) ⟨hx, hb, hml, hown, hts⟩ (kX4_isCatalogue l (nI ca)) (va_cwS 1 hts gX4_stored_X4_isCatalogue rfl rfl rfl (by decide +kernel) ⟨Nat.le_of_ble_eq_true rfl, Nat.le_of_ble_eq_true rfl⟩) (zPre0) rfl rfl hl.1 rfl (lv_room (Nat.le_of_ble_eq_true rfl)) dX4_stored_1 ⟨Nat.le_of_ble_eq_true rfl, Nat.le_of_ble_eq_true rfl⟩) ?_
  refine z_tv (v := 1) (zin_c _ hca) ?_
  refine lv_if_eq (tgt := 18) hx hb dX4_stored_4 (by decide) (fun c_4 => ?_) (fun c_4 => ?_)
  · exact absurd c_4 (by decide)
  · skip
    refine lv_iload_n hx hb dX4_stored_7 rfl (lv_at hl 2 rfl) ?_
    refine z_cRi (va_runS (As := [.int (nI r)]) (rest := []) ⟨hx, hb, hml, hown, hts⟩ (kX4_isRecord l (nI r)) (va_cwS 1 hts gX4_stored_X4_isRecord rfl rfl rfl (by decide +kernel) ⟨Nat.le_of_ble_eq_true rfl, Nat.le_of_ble_eq_true rfl⟩) (zPre0) rfl rfl hl.1 rfl (lv_room (Nat.le_of_ble_eq_true rfl)) dX4_stored_8 ⟨Nat.le_of_ble_eq_true rfl, Nat.le_of_ble_eq_true rfl⟩) ?_
    refine z_tv (v := 1) (zin_r _ hrr) ?_
    refine lv_if_eq (tgt := 18) hx hb dX4_stored_11 (by decide) (fun c_11 => ?_) (fun c_11 => ?_)
    · exact absurd c_11 (by decide)
    · skip
      refine lv_iconst (v := 1) hx hb dX4_stored_14 (by decide) ?_
      refine lv_goto (tgt := 19) hx hb dX4_stored_15 (by decide) ?_
      refine lv_istore_n (lv' := [(3, .int 1), (0, .ref (ma 0)), (1, .int (nI ca)), (2, .int (nI r))]) hx hb dX4_stored_19 rfl hl (by decide) rfl (fun ls hl => ?_)
      refine lv_aload_n hx hb dX4_stored_20 rfl (lv_at hl 1 rfl) ?_
      refine lv_iload_n hx hb dX4_stored_21 rfl (lv_at hl 0 rfl) ?_
      refine lv_if_eq (tgt := 29) hx hb dX4_stored_22 (by decide) (fun c_22 => ?_) (fun c_22 => ?_)
      · exact absurd c_22 (by decide)
      · skip
        refine lv_iconst (v := 0) hx hb dX4_stored_25 (by decide) ?_
        refine lv_goto (tgt := 30) hx hb dX4_stored_26 (by decide) ?_
        refine z_cMi (is := [0]) (va_runV (As := [.int 0]) (rest := []) ⟨hx, hb, hml, hown, hts⟩ (kX4_goes l dC dI cI cZ cH cJ ma now th 0 s.heap.size) (cwV 1 hts gX4_stored_X4_goes rfl rfl rfl (by decide +kernel) ⟨Nat.le_of_ble_eq_true rfl, Nat.le_of_ble_eq_true rfl⟩) (zPreV (is := [0]) hK hP hD (by decide) rfl (va_recv hK hP (ci := 4) (q0 := 0) rfl rfl)) rfl rfl hl.1 rfl (lv_room (Nat.le_of_ble_eq_true rfl)) dX4_stored_30 ⟨Nat.le_of_ble_eq_true rfl, Nat.le_of_ble_eq_true rfl⟩) hP hD hS hA rfl (by decide) rfl (fun H locs hP hD hS => ?_)
        have hP : va_P (dC, dI) vwCl ([(ma 0, .inr (4, [.int now, .ref (ma 1), .ref (ma 2), .ref (ma 3), .ref (ma 4), .ref (ma 5), .ref (ma 6), .ref (ma 7), .ref (ma 8), .ref (ma 9), .ref (ma 10), .ref (ma 11), .ref (ma 12), .ref (ma 13), .ref (ma 14), .ref (ma 15), .ref (ma 16), .ref (ma 17), .ref (ma 18), .ref (ma 19), .ref (ma 20), .int 0])), (ma 16, .inl (cZ, 80, .inl uH)), (ma 18, .inl (cI, 80, .inl xV))]) H := hP
        have hD : va_D A ([(ma 0, .inr (4, [.int now, .ref (ma 1), .ref (ma 2), .ref (ma 3), .ref (ma 4), .ref (ma 5), .ref (ma 6), .ref (ma 7), .ref (ma 8), .ref (ma 9), .ref (ma 10), .ref (ma 11), .ref (ma 12), .ref (ma 13), .ref (ma 14), .ref (ma 15), .ref (ma 16), .ref (ma 17), .ref (ma 18), .ref (ma 19), .ref (ma 20), .int 0])), (ma 16, .inl (cZ, 80, .inl uH)), (ma 18, .inl (cI, 80, .inl xV))]) := hD
        refine z_tv (v := 1) (by decide) ?_
        refine lv_if_eq (tgt := 68) hx hb dX4_stored_33 (by decide) (fun c_33 => ?_) (fun c_33 => ?_)
        · exact absurd c_33 (by decide)
        · skip
          refine lv_aload_n hx hb dX4_stored_36 rfl (lv_at hl 1 rfl) ?_
          refine va_get (D := (dC, dI)) (ci := 4) (v := .ref (ma 16)) (C := RX4) (T := TX4) (N := 22) hx hb hts hiX4 hown hK hP 0 rfl rfl 16 (by decide) l56 (fun _ h9 => h9) rfl dX4_stored_37 ?_
          refine lv_bipush (v := 20) hx hb dX4_stored_40 (by decide) ?_
          refine lv_iload_n hx hb dX4_stored_42 rfl (lv_at hl 2 rfl) ?_
          refine lv_imul hx hb dX4_stored_43 ?_
          refine z_tv (v := nI (20 * ca)) (pk_mul 20 ca) ?_
          refine lv_iload_n hx hb dX4_stored_44 rfl (lv_at hl 3 rfl) ?_
          refine lv_iadd hx hb dX4_stored_45 ?_
          refine z_tv (v := nI (20 * ca + r)) (nI_add (20 * ca) r) ?_
          refine z_zald hx hb hK hP 1 rfl (zix_nI (by first | assumption | omega) (by decide)) dX4_stored_46 ?_
          refine z_tv (v := uH (20 * ca + r)) (rfl) ?_
          refine lv_if_eq (tgt := 64) hx hb dX4_stored_47 (by decide) (fun c_47 => ?_) (fun c_47 => ?_)
          · skip
            refine lv_iconst (v := (-1)) hx hb dX4_stored_64 (by decide) ?_
            refine lv_goto (tgt := 69) hx hb dX4_stored_65 (by decide) ?_
            refine z_tv (v := if uH (20 * ca + r) = 0 then (-1) else xV (20 * ca + r)) (by simp [c_47]) ?_
            exact W.iret hx hb hr (fun t ht hW => ⟨rfl, ⟨by rw [ht]; exact hP, hD⟩, hS.F ht⟩) hS.2.2 dX4_stored_69
          · skip
            refine lv_aload_n hx hb dX4_stored_50 rfl (lv_at hl 1 rfl) ?_
            refine va_get (D := (dC, dI)) (ci := 4) (v := .ref (ma 18)) (C := RX4) (T := TX4) (N := 22) hx hb hts hiX4 hown hK hP 0 rfl rfl 18 (by decide) l62 (fun _ h9 => h9) rfl dX4_stored_51 ?_
            refine lv_bipush (v := 20) hx hb dX4_stored_54 (by decide) ?_
            refine lv_iload_n hx hb dX4_stored_56 rfl (lv_at hl 2 rfl) ?_
            refine lv_imul hx hb dX4_stored_57 ?_
            refine z_tv (v := nI (20 * ca)) (pk_mul 20 ca) ?_
            refine lv_iload_n hx hb dX4_stored_58 rfl (lv_at hl 3 rfl) ?_
            refine lv_iadd hx hb dX4_stored_59 ?_
            refine z_tv (v := nI (20 * ca + r)) (nI_add (20 * ca) r) ?_
            refine z_iald hx hb hK hP 2 rfl (zix_nI (by first | assumption | omega) (by decide)) dX4_stored_60 ?_
            refine z_tv (v := xV (20 * ca + r)) (rfl) ?_
            refine lv_goto (tgt := 69) hx hb dX4_stored_61 (by decide) ?_
            refine z_tv (v := if uH (20 * ca + r) = 0 then (-1) else xV (20 * ca + r)) (by simp [c_47]) ?_
            exact W.iret hx hb hr (fun t ht hW => ⟨rfl, ⟨by rw [ht]; exact hP, hD⟩, hS.F ht⟩) hS.2.2 dX4_stored_69
set_option maxHeartbeats 4000000 in
set_option maxRecDepth 100000 in
/-- Model.stored_bad -/
theorem kX4_stored_bad (l : Launch) (dC : Nat → ClassId) (dI : Nat → Nat → Nat) (cI cZ cH cJ : ClassId) (ma : Nat → Nat) (now : Int32) (th : Int32) (a : Int32) (b : Int32) (hv : ¬ (zin a 0 3 = 1 ∧ zin b 0 19 = 1)) (sz : Nat) : Met l yX4_stored wsX4_stored ({ frames := 2, cells := 0, slots := 0, locals := 42 }) (zPc dC dI (zTy cI cZ cH cJ) [.ref (ma 0), .int a, .int b] sz ([(ma 0, .inr (4, [.int now, .ref (ma 1), .ref (ma 2), .ref (ma 3), .ref (ma 4), .ref (ma 5), .ref (ma 6), .ref (ma 7), .ref (ma 8), .ref (ma 9), .ref (ma 10), .ref (ma 11), .ref (ma 12), .ref (ma 13), .ref (ma 14), .ref (ma 15), .ref (ma 16), .ref (ma 17), .ref (ma 18), .ref (ma 19), .ref (ma 20), .int th]))])) (zQi dC dI 0 ([(ma 0, .inr (4, [.int now, .ref (ma 1), .ref (ma 2), .ref (ma 3), .ref (ma 4), .ref (ma 5), .ref (ma 6), .ref (ma 7), .ref (ma 8), .ref (ma 9), .ref (ma 10), .ref (ma 11), .ref (ma 12), .ref (ma 13), .ref (ma 14), .ref (ma 15), .ref (ma 16), .ref (ma 17), .ref (ma 18), .ref (ma 19), .ref (ma 20), .int 1]))]) (va_A ([(ma 0, .inr (4, [.int now, .ref (ma 1), .ref (ma 2), .ref (ma 3), .ref (ma 4), .ref (ma 5), .ref (ma 6), .ref (ma 7), .ref (ma 8), .ref (ma 9), .ref (ma 10), .ref (ma 11), .ref (ma 12), .ref (ma 13), .ref (ma 14), .ref (ma 15), .ref (ma 16), .ref (ma 17), .ref (ma 18), .ref (ma 19), .ref (ma 20), .int th]))]) sz)) 0 0 (va_A ([(ma 0, .inr (4, [.int now, .ref (ma 1), .ref (ma 2), .ref (ma 3), .ref (ma 4), .ref (ma 5), .ref (ma 6), .ref (ma 7), .ref (ma 8), .ref (ma 9), .ref (ma 10), .ref (ma 11), .ref (ma 12), .ref (ma 13), .ref (ma 14), .ref (ma 15), .ref (ma 16), .ref (ma 17), .ref (ma 18), .ref (ma 19), .ref (ma 20), .int th]))]) sz) := by
  refine Met.ofW (cc := cX4_stored) (maxL := 4) (ret := (some .int)) (by decide) rfl ?_
  intro p e s m args below meth c s₁ B hml hv0
  obtain ⟨rfl, hsz, hP, hK, hD0⟩ := hv0
  have hx := B.exec
  have hb := B.bytes
  have hr := B.returns
  have hts := atoms_spec (ws := wsX4_stored) B.pre
  have hown : s.vm.findClass RX4 = some m.cls := findClass_of_methodNamed B.named
  have hlocks := B.notSynchronized
  subst hsz
  have hD := hD0.self (sz := s.heap.size)
  generalize hAe : va_A ([(ma 0, .inr (4, [.int now, .ref (ma 1), .ref (ma 2), .ref (ma 3), .ref (ma 4), .ref (ma 5), .ref (ma 6), .ref (ma 7), .ref (ma 8), .ref (ma 9), .ref (ma 10), .ref (ma 11), .ref (ma 12), .ref (ma 13), .ref (ma 14), .ref (ma 15), .ref (ma 16), .ref (ma 17), .ref (ma 18), .ref (ma 19), .ref (ma 20), .int th]))]) s.heap.size = A at hD ⊢
  have hA : ∀ q : Nat, s.heap.size ≤ q → A q := fun q h => by rw [← hAe]; exact Or.inr h
  have hS : va_S A s.heap s.heap [] := va_S.rf
  have hl := lv_entry ([.ref (ma 0), .int a, .int b]) (n := 4) (Nat.le_of_ble_eq_true rfl)
  rw [lg_entry_eq]
  generalize (lg_sl ([.ref (ma 0), .int a, .int b]) ++ List.replicate (4 - (lg_sl ([.ref (ma 0), .int a, .int b])).length) Slot.unset).toArray = ls at hl ⊢
  have hl : lv_has ls 4 [(0, .ref (ma 0)), (1, .int a), (2, .int b)] := hl
  refine lv_iload_n hx hb dX4_stored_0 rfl (lv_at hl 1 rfl) ?_
  refine z_cRi (va_runS (As := [.int a]) (rest := []) ⟨hx, hb, hml, hown, hts⟩ (kX4_isCatalogue l a) (va_cwS 1 hts gX4_stored_X4_isCatalogue rfl rfl rfl (by decide +kernel) ⟨Nat.le_of_ble_eq_true rfl, Nat.le_of_ble_eq_true rfl⟩) (zPre0) rfl rfl hl.1 rfl (lv_room (Nat.le_of_ble_eq_true rfl)) dX4_stored_1 ⟨Nat.le_of_ble_eq_true rfl, Nat.le_of_ble_eq_true rfl⟩) ?_
  refine z_tv (v := zin a 0 3) rfl ?_
  refine lv_if_eq (tgt := 18) hx hb dX4_stored_4 (by decide) (fun c_4 => ?_) (fun c_4 => ?_)
  · skip
    refine lv_iconst (v := 0) hx hb dX4_stored_18 (by decide) ?_
    refine lv_istore_n (lv' := [(3, .int 0), (0, .ref (ma 0)), (1, .int a), (2, .int b)]) hx hb dX4_stored_19 rfl hl (by decide) rfl (fun ls hl => ?_)
    refine lv_aload_n hx hb dX4_stored_20 rfl (lv_at hl 1 rfl) ?_
    refine lv_iload_n hx hb dX4_stored_21 rfl (lv_at hl 0 rfl) ?_
    refine lv_if_eq (tgt := 29) hx hb dX4_stored_22 (by decide) (fun c_22 => ?_) (fun c_22 => ?_)
    · skip
      refine lv_iconst (v := 1) hx hb dX4_stored_29 (by decide) ?_
      refine z_cMi (is := [0]) (va_runV (As := [.int 1]) (rest := []) ⟨hx, hb, hml, hown, hts⟩ (kX4_goes l dC dI cI cZ cH cJ ma now th 1 s.heap.size) (cwV 1 hts gX4_stored_X4_goes rfl rfl rfl (by decide +kernel) ⟨Nat.le_of_ble_eq_true rfl, Nat.le_of_ble_eq_true rfl⟩) (zPreV (is := [0]) hK hP hD (by decide) rfl (va_recv hK hP (ci := 4) (q0 := 0) rfl rfl)) rfl rfl hl.1 rfl (lv_room (Nat.le_of_ble_eq_true rfl)) dX4_stored_30 ⟨Nat.le_of_ble_eq_true rfl, Nat.le_of_ble_eq_true rfl⟩) hP hD hS hA rfl (by decide) rfl (fun H locs hP hD hS => ?_)
      have hP : va_P (dC, dI) vwCl ([(ma 0, .inr (4, [.int now, .ref (ma 1), .ref (ma 2), .ref (ma 3), .ref (ma 4), .ref (ma 5), .ref (ma 6), .ref (ma 7), .ref (ma 8), .ref (ma 9), .ref (ma 10), .ref (ma 11), .ref (ma 12), .ref (ma 13), .ref (ma 14), .ref (ma 15), .ref (ma 16), .ref (ma 17), .ref (ma 18), .ref (ma 19), .ref (ma 20), .int 1]))]) H := hP
      have hD : va_D A ([(ma 0, .inr (4, [.int now, .ref (ma 1), .ref (ma 2), .ref (ma 3), .ref (ma 4), .ref (ma 5), .ref (ma 6), .ref (ma 7), .ref (ma 8), .ref (ma 9), .ref (ma 10), .ref (ma 11), .ref (ma 12), .ref (ma 13), .ref (ma 14), .ref (ma 15), .ref (ma 16), .ref (ma 17), .ref (ma 18), .ref (ma 19), .ref (ma 20), .int 1]))]) := hD
      refine z_tv (v := 0) (by decide) ?_
      refine lv_if_eq (tgt := 68) hx hb dX4_stored_33 (by decide) (fun c_33 => ?_) (fun c_33 => ?_)
      · skip
        refine lv_iconst (v := 0) hx hb dX4_stored_68 (by decide) ?_
        exact W.iret hx hb hr (fun t ht hW => ⟨rfl, ⟨by rw [ht]; exact hP, hD⟩, hS.F ht⟩) hS.2.2 dX4_stored_69
      · exact absurd c_33 (by decide)
    · exact absurd c_22 (by decide)
  · skip
    refine lv_iload_n hx hb dX4_stored_7 rfl (lv_at hl 2 rfl) ?_
    refine z_cRi (va_runS (As := [.int b]) (rest := []) ⟨hx, hb, hml, hown, hts⟩ (kX4_isRecord l b) (va_cwS 1 hts gX4_stored_X4_isRecord rfl rfl rfl (by decide +kernel) ⟨Nat.le_of_ble_eq_true rfl, Nat.le_of_ble_eq_true rfl⟩) (zPre0) rfl rfl hl.1 rfl (lv_room (Nat.le_of_ble_eq_true rfl)) dX4_stored_8 ⟨Nat.le_of_ble_eq_true rfl, Nat.le_of_ble_eq_true rfl⟩) ?_
    refine z_tv (v := zin b 0 19) rfl ?_
    refine lv_if_eq (tgt := 18) hx hb dX4_stored_11 (by decide) (fun c_11 => ?_) (fun c_11 => ?_)
    · skip
      refine lv_iconst (v := 0) hx hb dX4_stored_18 (by decide) ?_
      refine lv_istore_n (lv' := [(3, .int 0), (0, .ref (ma 0)), (1, .int a), (2, .int b)]) hx hb dX4_stored_19 rfl hl (by decide) rfl (fun ls hl => ?_)
      refine lv_aload_n hx hb dX4_stored_20 rfl (lv_at hl 1 rfl) ?_
      refine lv_iload_n hx hb dX4_stored_21 rfl (lv_at hl 0 rfl) ?_
      refine lv_if_eq (tgt := 29) hx hb dX4_stored_22 (by decide) (fun c_22 => ?_) (fun c_22 => ?_)
      · skip
        refine lv_iconst (v := 1) hx hb dX4_stored_29 (by decide) ?_
        refine z_cMi (is := [0]) (va_runV (As := [.int 1]) (rest := []) ⟨hx, hb, hml, hown, hts⟩ (kX4_goes l dC dI cI cZ cH cJ ma now th 1 s.heap.size) (cwV 1 hts gX4_stored_X4_goes rfl rfl rfl (by decide +kernel) ⟨Nat.le_of_ble_eq_true rfl, Nat.le_of_ble_eq_true rfl⟩) (zPreV (is := [0]) hK hP hD (by decide) rfl (va_recv hK hP (ci := 4) (q0 := 0) rfl rfl)) rfl rfl hl.1 rfl (lv_room (Nat.le_of_ble_eq_true rfl)) dX4_stored_30 ⟨Nat.le_of_ble_eq_true rfl, Nat.le_of_ble_eq_true rfl⟩) hP hD hS hA rfl (by decide) rfl (fun H locs hP hD hS => ?_)
        have hP : va_P (dC, dI) vwCl ([(ma 0, .inr (4, [.int now, .ref (ma 1), .ref (ma 2), .ref (ma 3), .ref (ma 4), .ref (ma 5), .ref (ma 6), .ref (ma 7), .ref (ma 8), .ref (ma 9), .ref (ma 10), .ref (ma 11), .ref (ma 12), .ref (ma 13), .ref (ma 14), .ref (ma 15), .ref (ma 16), .ref (ma 17), .ref (ma 18), .ref (ma 19), .ref (ma 20), .int 1]))]) H := hP
        have hD : va_D A ([(ma 0, .inr (4, [.int now, .ref (ma 1), .ref (ma 2), .ref (ma 3), .ref (ma 4), .ref (ma 5), .ref (ma 6), .ref (ma 7), .ref (ma 8), .ref (ma 9), .ref (ma 10), .ref (ma 11), .ref (ma 12), .ref (ma 13), .ref (ma 14), .ref (ma 15), .ref (ma 16), .ref (ma 17), .ref (ma 18), .ref (ma 19), .ref (ma 20), .int 1]))]) := hD
        refine z_tv (v := 0) (by decide) ?_
        refine lv_if_eq (tgt := 68) hx hb dX4_stored_33 (by decide) (fun c_33 => ?_) (fun c_33 => ?_)
        · skip
          refine lv_iconst (v := 0) hx hb dX4_stored_68 (by decide) ?_
          exact W.iret hx hb hr (fun t ht hW => ⟨rfl, ⟨by rw [ht]; exact hP, hD⟩, hS.F ht⟩) hS.2.2 dX4_stored_69
        · exact absurd c_33 (by decide)
      · exact absurd c_22 (by decide)
    · exact absurd c_11 (fun q => hv ⟨zin_n1 c_4, zin_n1 q⟩)
set_option maxHeartbeats 4000000 in
set_option maxRecDepth 100000 in
/-- Model.held_ok -/
theorem kX4_held_ok (l : Launch) (dC : Nat → ClassId) (dI : Nat → Nat → Nat) (cI cZ cH cJ : ClassId) (ma : Nat → Nat) (now : Int32) (th : Int32) (uH : zI) (ca : Nat) (hca : ca < 4) (sz : Nat) : Met l yX4_held wsX4_held ({ frames := 3, cells := 0, slots := 0, locals := 63 }) (zPc dC dI (zTy cI cZ cH cJ) [.ref (ma 0), .int (nI ca)] sz ([(ma 0, .inr (4, [.int now, .ref (ma 1), .ref (ma 2), .ref (ma 3), .ref (ma 4), .ref (ma 5), .ref (ma 6), .ref (ma 7), .ref (ma 8), .ref (ma 9), .ref (ma 10), .ref (ma 11), .ref (ma 12), .ref (ma 13), .ref (ma 14), .ref (ma 15), .ref (ma 16), .ref (ma 17), .ref (ma 18), .ref (ma 19), .ref (ma 20), .int th])), (ma 16, .inl (cZ, 80, .inl uH))])) (zQi dC dI (yhld uH (20 * ca) 20) ([(ma 0, .inr (4, [.int now, .ref (ma 1), .ref (ma 2), .ref (ma 3), .ref (ma 4), .ref (ma 5), .ref (ma 6), .ref (ma 7), .ref (ma 8), .ref (ma 9), .ref (ma 10), .ref (ma 11), .ref (ma 12), .ref (ma 13), .ref (ma 14), .ref (ma 15), .ref (ma 16), .ref (ma 17), .ref (ma 18), .ref (ma 19), .ref (ma 20), .int 0])), (ma 16, .inl (cZ, 80, .inl uH))]) (va_A ([(ma 0, .inr (4, [.int now, .ref (ma 1), .ref (ma 2), .ref (ma 3), .ref (ma 4), .ref (ma 5), .ref (ma 6), .ref (ma 7), .ref (ma 8), .ref (ma 9), .ref (ma 10), .ref (ma 11), .ref (ma 12), .ref (ma 13), .ref (ma 14), .ref (ma 15), .ref (ma 16), .ref (ma 17), .ref (ma 18), .ref (ma 19), .ref (ma 20), .int th])), (ma 16, .inl (cZ, 80, .inl uH))]) sz)) 0 0 (va_A ([(ma 0, .inr (4, [.int now, .ref (ma 1), .ref (ma 2), .ref (ma 3), .ref (ma 4), .ref (ma 5), .ref (ma 6), .ref (ma 7), .ref (ma 8), .ref (ma 9), .ref (ma 10), .ref (ma 11), .ref (ma 12), .ref (ma 13), .ref (ma 14), .ref (ma 15), .ref (ma 16), .ref (ma 17), .ref (ma 18), .ref (ma 19), .ref (ma 20), .int th])), (ma 16, .inl (cZ, 80, .inl uH))]) sz) := by
  refine Met.ofW (cc := cX4_held) (maxL := 4) (ret := (some .int)) (by decide) rfl ?_
  intro p e s m args below meth c s₁ B hml hv0
  obtain ⟨rfl, hsz, hP, hK, hD0⟩ := hv0
  have hx := B.exec
  have hb := B.bytes
  have hr := B.returns
  have hts := atoms_spec (ws := wsX4_held) B.pre
  have hown : s.vm.findClass RX4 = some m.cls := findClass_of_methodNamed B.named
  have hlocks := B.notSynchronized
  subst hsz
  have hD := hD0.self (sz := s.heap.size)
  generalize hAe : va_A ([(ma 0, .inr (4, [.int now, .ref (ma 1), .ref (ma 2), .ref (ma 3), .ref (ma 4), .ref (ma 5), .ref (ma 6), .ref (ma 7), .ref (ma 8), .ref (ma 9), .ref (ma 10), .ref (ma 11), .ref (ma 12), .ref (ma 13), .ref (ma 14), .ref (ma 15), .ref (ma 16), .ref (ma 17), .ref (ma 18), .ref (ma 19), .ref (ma 20), .int th])), (ma 16, .inl (cZ, 80, .inl uH))]) s.heap.size = A at hD ⊢
  have hA : ∀ q : Nat, s.heap.size ≤ q → A q := fun q h => by rw [← hAe]; exact Or.inr h
  have hS : va_S A s.heap s.heap [] := va_S.rf
  have hl := lv_entry ([.ref (ma 0), .int (nI ca)]) (n := 4) (Nat.le_of_ble_eq_true rfl)
  rw [lg_entry_eq]
  generalize (lg_sl ([.ref (ma 0), .int (nI ca)]) ++ List.replicate (4 - (lg_sl ([.ref (ma 0), .int (nI ca)])).length) Slot.unset).toArray = ls at hl ⊢
  have hl : lv_has ls 4 [(0, .ref (ma 0)), (1, .int (nI ca))] := hl
  have hiX4 : ∀ w ∈ wsX40, w ∈ wsX4_held := by decide +kernel
  have l56 := hts (.fieldLink RX4 56 "CatalogueHarvesterModel" "isHeld" "[Z") (by decide +kernel)
  refine lv_aload_n hx hb dX4_held_0 rfl (lv_at hl 0 rfl) ?_
  refine lv_iload_n hx hb dX4_held_1 rfl (lv_at hl 1 rfl) ?_
  refine z_cMi (is := [0]) (va_runV (As := [.int (nI ca)]) (rest := []) ⟨hx, hb, hml, hown, hts⟩ (kX4_asks_ok l dC dI cI cZ cH cJ ma now th ca (by first | assumption | omega) s.heap.size) (cwV 1 hts gX4_held_X4_asks rfl rfl rfl (by decide +kernel) ⟨Nat.le_of_ble_eq_true rfl, Nat.le_of_ble_eq_true rfl⟩) (zPreV (is := [0]) hK hP hD (by decide) rfl (va_recv hK hP (ci := 4) (q0 := 0) rfl rfl)) rfl rfl hl.1 rfl (lv_room (Nat.le_of_ble_eq_true rfl)) dX4_held_2 ⟨Nat.le_of_ble_eq_true rfl, Nat.le_of_ble_eq_true rfl⟩) hP hD hS hA rfl (by decide) rfl (fun H locs hP hD hS => ?_)
  have hP : va_P (dC, dI) vwCl ([(ma 0, .inr (4, [.int now, .ref (ma 1), .ref (ma 2), .ref (ma 3), .ref (ma 4), .ref (ma 5), .ref (ma 6), .ref (ma 7), .ref (ma 8), .ref (ma 9), .ref (ma 10), .ref (ma 11), .ref (ma 12), .ref (ma 13), .ref (ma 14), .ref (ma 15), .ref (ma 16), .ref (ma 17), .ref (ma 18), .ref (ma 19), .ref (ma 20), .int 0])), (ma 16, .inl (cZ, 80, .inl uH))]) H := hP
  have hD : va_D A ([(ma 0, .inr (4, [.int now, .ref (ma 1), .ref (ma 2), .ref (ma 3), .ref (ma 4), .ref (ma 5), .ref (ma 6), .ref (ma 7), .ref (ma 8), .ref (ma 9), .ref (ma 10), .ref (ma 11), .ref (ma 12), .ref (ma 13), .ref (ma 14), .ref (ma 15), .ref (ma 16), .ref (ma 17), .ref (ma 18), .ref (ma 19), .ref (ma 20), .int 0])), (ma 16, .inl (cZ, 80, .inl uH))]) := hD
  refine z_tv (v := 1) rfl ?_
  refine lv_if_ne (tgt := 10) hx hb dX4_held_5 (by decide) (fun c_5 => ?_) (fun c_5 => ?_)
  · skip
    refine lv_iconst (v := 0) hx hb dX4_held_10 (by decide) ?_
    refine lv_istore_n (lv' := [(2, .int 0), (0, .ref (ma 0)), (1, .int (nI ca))]) hx hb dX4_held_11 rfl hl (by decide) rfl (fun ls hl => ?_)
    refine lv_bipush (v := 20) hx hb dX4_held_12 (by decide) ?_
    refine lv_iload_n hx hb dX4_held_14 rfl (lv_at hl 2 rfl) ?_
    refine lv_imul hx hb dX4_held_15 ?_
    refine z_tv (v := nI (20 * ca)) (pk_mul 20 ca) ?_
    refine lv_istore_n (lv' := [(3, .int (nI (20 * ca))), (2, .int 0), (0, .ref (ma 0)), (1, .int (nI ca))]) hx hb dX4_held_16 rfl hl (by decide) rfl (fun ls hl => ?_)
    have LOOP1 : ∀ (n i : Nat), i ≤ 20 → 20 < i + n → ∀ (ls : Array Slot), lv_has ls 4 [(0, .ref (ma 0)), (1, .int (nI ca)), (2, .int (yhld uH (20 * ca) i)), (3, .int (nI (20 * ca + i)))] → W p l e (headSpec wsX4_held ({ frames := 3, cells := 0, slots := 0, locals := 63 })).room s m ([.ref (ma 0), .int (nI ca)] : List Value).toArray below meth c H locs 0 0 (MQ below (zQi dC dI (yhld uH (20 * ca) 20) ([(ma 0, .inr (4, [.int now, .ref (ma 1), .ref (ma 2), .ref (ma 3), .ref (ma 4), .ref (ma 5), .ref (ma 6), .ref (ma 7), .ref (ma 8), .ref (ma 9), .ref (ma 10), .ref (ma 11), .ref (ma 12), .ref (ma 13), .ref (ma 14), .ref (ma 15), .ref (ma 16), .ref (ma 17), .ref (ma 18), .ref (ma 19), .ref (ma 20), .int 0])), (ma 16, .inl (cZ, 80, .inl uH))]) A) ([.ref (ma 0), .int (nI ca)] : List Value).toArray s 0 0 A) (F0 m 17 ls []) := by
      intro n
      induction n with
      | zero => intro i h1 h2; exact absurd h2 (by omega)
      | succ n ih =>
        intro i hi hin   ls hl
        refine lv_iload_n hx hb dX4_held_17 rfl (lv_at hl 3 rfl) ?_
        refine lv_bipush (v := 20) hx hb dX4_held_18 (by decide) ?_
        refine lv_iload_n hx hb dX4_held_20 rfl (lv_at hl 1 rfl) ?_
        refine lv_iconst (v := 1) hx hb dX4_held_21 (by decide) ?_
        refine lv_iadd hx hb dX4_held_22 ?_
        refine z_tv (v := nI (ca + 1)) (nI_1 ca) ?_
        refine lv_imul hx hb dX4_held_23 ?_
        refine z_tv (v := nI (20 * (ca + 1))) (pk_mul 20 (ca + 1)) ?_
        refine lv_icmp_ge (tgt := 50) hx hb dX4_held_24 (by decide) (fun c_24 => ?_) (fun c_24 => ?_)
        · skip
          have e20 : i = 20 := z_ge20 hi hca c_24
          subst e20
          refine lv_iload_n hx hb dX4_held_50 rfl (lv_at hl 2 rfl) ?_
          exact W.iret hx hb hr (fun t ht hW => ⟨rfl, ⟨by rw [ht]; exact hP, hD⟩, hS.F ht⟩) hS.2.2 dX4_held_51
        · skip
          have hlt : i < 20 := z_lt20 hi hca c_24
          refine lv_iload_n hx hb dX4_held_27 rfl (lv_at hl 2 rfl) ?_
          have J42_2 : ∀ (ls : Array Slot), lv_has ls 4 [(0, .ref (ma 0)), (1, .int (nI ca)), (2, .int (yhld uH (20 * ca) i)), (3, .int (nI (20 * ca + i)))] → W p l e (headSpec wsX4_held ({ frames := 3, cells := 0, slots := 0, locals := 63 })).room s m ([.ref (ma 0), .int (nI ca)] : List Value).toArray below meth c H locs 0 0 (MQ below (zQi dC dI (yhld uH (20 * ca) 20) ([(ma 0, .inr (4, [.int now, .ref (ma 1), .ref (ma 2), .ref (ma 3), .ref (ma 4), .ref (ma 5), .ref (ma 6), .ref (ma 7), .ref (ma 8), .ref (ma 9), .ref (ma 10), .ref (ma 11), .ref (ma 12), .ref (ma 13), .ref (ma 14), .ref (ma 15), .ref (ma 16), .ref (ma 17), .ref (ma 18), .ref (ma 19), .ref (ma 20), .int 0])), (ma 16, .inl (cZ, 80, .inl uH))]) A) ([.ref (ma 0), .int (nI ca)] : List Value).toArray s 0 0 A) (F0 m 42 ls [.int (if uH (20 * ca + i) = 0 then (0 : Int32) else 1), .int (yhld uH (20 * ca) i)]) := by
            intro ls hl
            refine lv_iadd hx hb dX4_held_42 ?_
            refine lv_istore_n (lv' := [(2, .int ((yhld uH (20 * ca) i) + (if uH (20 * ca + i) = 0 then (0 : Int32) else 1))), (0, .ref (ma 0)), (1, .int (nI ca)), (3, .int (nI (20 * ca + i)))]) hx hb dX4_held_43 rfl hl (by decide) rfl (fun ls hl => ?_)
            refine lv_iinc (v := nI (20 * ca + (i + 1))) (lv' := [(3, .int (nI (20 * ca + (i + 1)))), (2, .int ((yhld uH (20 * ca) i) + (if uH (20 * ca + i) = 0 then (0 : Int32) else 1))), (0, .ref (ma 0)), (1, .int (nI ca))]) hx hb dX4_held_44 hl (k := 3) rfl (z_1) (by decide) rfl (fun ls hl => ?_)
            refine lv_goto (tgt := 17) hx hb dX4_held_47 (by decide) ?_
            exact ih (i + 1) (by omega) (by omega)  _ (lv_cg (lv_sub (l' := [(0, .ref (ma 0)), (1, .int (nI ca)), (2, .int ((yhld uH (20 * ca) i) + (if uH (20 * ca + i) = 0 then (0 : Int32) else 1))), (3, .int (nI (20 * ca + (i + 1))))]) hl [2, 3, 1, 0] rfl) (zl_k (zl_k (zl_c (rfl) (zl_k (rfl))))))
          refine lv_aload_n hx hb dX4_held_28 rfl (lv_at hl 0 rfl) ?_
          refine va_get (D := (dC, dI)) (ci := 4) (v := .ref (ma 16)) (C := RX4) (T := TX4) (N := 22) hx hb hts hiX4 hown hK hP 0 rfl rfl 16 (by decide) l56 (fun _ h9 => h9) rfl dX4_held_29 ?_
          refine lv_iload_n hx hb dX4_held_32 rfl (lv_at hl 3 rfl) ?_
          refine z_zald hx hb hK hP 1 rfl (zix_nI (by first | assumption | omega) (by decide)) dX4_held_33 ?_
          refine z_tv (v := uH (20 * ca + i)) (rfl) ?_
          refine lv_if_eq (tgt := 41) hx hb dX4_held_34 (by decide) (fun c_34 => ?_) (fun c_34 => ?_)
          · skip
            refine lv_iconst (v := 0) hx hb dX4_held_41 (by decide) ?_
            refine z_tv (v := if uH (20 * ca + i) = 0 then (0 : Int32) else 1) (by simp [c_34]) ?_
            exact J42_2 _ (lv_sub hl [0, 1, 2, 3] rfl)
          · skip
            refine lv_iconst (v := 1) hx hb dX4_held_37 (by decide) ?_
            refine lv_goto (tgt := 42) hx hb dX4_held_38 (by decide) ?_
            refine z_tv (v := if uH (20 * ca + i) = 0 then (0 : Int32) else 1) (by simp [c_34]) ?_
            exact J42_2 _ (lv_sub hl [0, 1, 2, 3] rfl)
    exact LOOP1 (20 + 1) 0 (by omega) (by omega)  _ (lv_cg (lv_sub (l' := [(0, .ref (ma 0)), (1, .int (nI ca)), (2, .int 0), (3, .int (nI (20 * ca)))]) hl [2, 3, 1, 0] rfl) (zl_k (zl_k (zl_c (rfl) (zl_c (rfl) (rfl))))))
  · exact absurd c_5 (by decide)
set_option maxHeartbeats 4000000 in
set_option maxRecDepth 100000 in
/-- Model.held_bad -/
theorem kX4_held_bad (l : Launch) (dC : Nat → ClassId) (dI : Nat → Nat → Nat) (cI cZ cH cJ : ClassId) (ma : Nat → Nat) (now : Int32) (th : Int32) (v : Int32) (hv : ¬ zin v 0 3 = 1) (sz : Nat) : Met l yX4_held wsX4_held ({ frames := 3, cells := 0, slots := 0, locals := 63 }) (zPc dC dI (zTy cI cZ cH cJ) [.ref (ma 0), .int v] sz ([(ma 0, .inr (4, [.int now, .ref (ma 1), .ref (ma 2), .ref (ma 3), .ref (ma 4), .ref (ma 5), .ref (ma 6), .ref (ma 7), .ref (ma 8), .ref (ma 9), .ref (ma 10), .ref (ma 11), .ref (ma 12), .ref (ma 13), .ref (ma 14), .ref (ma 15), .ref (ma 16), .ref (ma 17), .ref (ma 18), .ref (ma 19), .ref (ma 20), .int th]))])) (zQi dC dI 0 ([(ma 0, .inr (4, [.int now, .ref (ma 1), .ref (ma 2), .ref (ma 3), .ref (ma 4), .ref (ma 5), .ref (ma 6), .ref (ma 7), .ref (ma 8), .ref (ma 9), .ref (ma 10), .ref (ma 11), .ref (ma 12), .ref (ma 13), .ref (ma 14), .ref (ma 15), .ref (ma 16), .ref (ma 17), .ref (ma 18), .ref (ma 19), .ref (ma 20), .int 1]))]) (va_A ([(ma 0, .inr (4, [.int now, .ref (ma 1), .ref (ma 2), .ref (ma 3), .ref (ma 4), .ref (ma 5), .ref (ma 6), .ref (ma 7), .ref (ma 8), .ref (ma 9), .ref (ma 10), .ref (ma 11), .ref (ma 12), .ref (ma 13), .ref (ma 14), .ref (ma 15), .ref (ma 16), .ref (ma 17), .ref (ma 18), .ref (ma 19), .ref (ma 20), .int th]))]) sz)) 0 0 (va_A ([(ma 0, .inr (4, [.int now, .ref (ma 1), .ref (ma 2), .ref (ma 3), .ref (ma 4), .ref (ma 5), .ref (ma 6), .ref (ma 7), .ref (ma 8), .ref (ma 9), .ref (ma 10), .ref (ma 11), .ref (ma 12), .ref (ma 13), .ref (ma 14), .ref (ma 15), .ref (ma 16), .ref (ma 17), .ref (ma 18), .ref (ma 19), .ref (ma 20), .int th]))]) sz) := by
  refine Met.ofW (cc := cX4_held) (maxL := 4) (ret := (some .int)) (by decide) rfl ?_
  intro p e s m args below meth c s₁ B hml hv0
  obtain ⟨rfl, hsz, hP, hK, hD0⟩ := hv0
  have hx := B.exec
  have hb := B.bytes
  have hr := B.returns
  have hts := atoms_spec (ws := wsX4_held) B.pre
  have hown : s.vm.findClass RX4 = some m.cls := findClass_of_methodNamed B.named
  have hlocks := B.notSynchronized
  subst hsz
  have hD := hD0.self (sz := s.heap.size)
  generalize hAe : va_A ([(ma 0, .inr (4, [.int now, .ref (ma 1), .ref (ma 2), .ref (ma 3), .ref (ma 4), .ref (ma 5), .ref (ma 6), .ref (ma 7), .ref (ma 8), .ref (ma 9), .ref (ma 10), .ref (ma 11), .ref (ma 12), .ref (ma 13), .ref (ma 14), .ref (ma 15), .ref (ma 16), .ref (ma 17), .ref (ma 18), .ref (ma 19), .ref (ma 20), .int th]))]) s.heap.size = A at hD ⊢
  have hA : ∀ q : Nat, s.heap.size ≤ q → A q := fun q h => by rw [← hAe]; exact Or.inr h
  have hS : va_S A s.heap s.heap [] := va_S.rf
  have hl := lv_entry ([.ref (ma 0), .int v]) (n := 4) (Nat.le_of_ble_eq_true rfl)
  rw [lg_entry_eq]
  generalize (lg_sl ([.ref (ma 0), .int v]) ++ List.replicate (4 - (lg_sl ([.ref (ma 0), .int v])).length) Slot.unset).toArray = ls at hl ⊢
  have hl : lv_has ls 4 [(0, .ref (ma 0)), (1, .int v)] := hl
  refine lv_aload_n hx hb dX4_held_0 rfl (lv_at hl 0 rfl) ?_
  refine lv_iload_n hx hb dX4_held_1 rfl (lv_at hl 1 rfl) ?_
  refine z_cMi (is := [0]) (va_runV (As := [.int v]) (rest := []) ⟨hx, hb, hml, hown, hts⟩ (kX4_asks_bad l dC dI cI cZ cH cJ ma now th v (by first | assumption | omega) s.heap.size) (cwV 1 hts gX4_held_X4_asks rfl rfl rfl (by decide +kernel) ⟨Nat.le_of_ble_eq_true rfl, Nat.le_of_ble_eq_true rfl⟩) (zPreV (is := [0]) hK hP hD (by decide) rfl (va_recv hK hP (ci := 4) (q0 := 0) rfl rfl)) rfl rfl hl.1 rfl (lv_room (Nat.le_of_ble_eq_true rfl)) dX4_held_2 ⟨Nat.le_of_ble_eq_true rfl, Nat.le_of_ble_eq_true rfl⟩) hP hD hS hA rfl (by decide) rfl (fun H locs hP hD hS => ?_)
  have hP : va_P (dC, dI) vwCl ([(ma 0, .inr (4, [.int now, .ref (ma 1), .ref (ma 2), .ref (ma 3), .ref (ma 4), .ref (ma 5), .ref (ma 6), .ref (ma 7), .ref (ma 8), .ref (ma 9), .ref (ma 10), .ref (ma 11), .ref (ma 12), .ref (ma 13), .ref (ma 14), .ref (ma 15), .ref (ma 16), .ref (ma 17), .ref (ma 18), .ref (ma 19), .ref (ma 20), .int 1]))]) H := hP
  have hD : va_D A ([(ma 0, .inr (4, [.int now, .ref (ma 1), .ref (ma 2), .ref (ma 3), .ref (ma 4), .ref (ma 5), .ref (ma 6), .ref (ma 7), .ref (ma 8), .ref (ma 9), .ref (ma 10), .ref (ma 11), .ref (ma 12), .ref (ma 13), .ref (ma 14), .ref (ma 15), .ref (ma 16), .ref (ma 17), .ref (ma 18), .ref (ma 19), .ref (ma 20), .int 1]))]) := hD
  refine z_tv (v := 0) rfl ?_
  refine lv_if_ne (tgt := 10) hx hb dX4_held_5 (by decide) (fun c_5 => ?_) (fun c_5 => ?_)
  · exact absurd c_5 (by decide)
  · skip
    refine lv_iconst (v := 0) hx hb dX4_held_8 (by decide) ?_
    exact W.iret hx hb hr (fun t ht hW => ⟨rfl, ⟨by rw [ht]; exact hP, hD⟩, hS.F ht⟩) hS.2.2 dX4_held_9
set_option maxHeartbeats 4000000 in
set_option maxRecDepth 100000 in
/-- Model.wrong_ok -/
theorem kX4_wrong_ok (l : Launch) (dC : Nat → ClassId) (dI : Nat → Nat → Nat) (cI cZ cH cJ : ClassId) (ma : Nat → Nat) (now : Int32) (th : Int32) (uK : zI) (uW : zI) (uV : zI) (uS : zI) (uH : zI) (xW : zI) (xV : zI) (xS : zI) (ca : Nat) (hca : ca < 4) (sz : Nat) : Met l yX4_wrong wsX4_wrong ({ frames := 3, cells := 0, slots := 0, locals := 63 }) (zPc dC dI (zTy cI cZ cH cJ) [.ref (ma 0), .int (nI ca)] sz ([(ma 0, .inr (4, [.int now, .ref (ma 1), .ref (ma 2), .ref (ma 3), .ref (ma 4), .ref (ma 5), .ref (ma 6), .ref (ma 7), .ref (ma 8), .ref (ma 9), .ref (ma 10), .ref (ma 11), .ref (ma 12), .ref (ma 13), .ref (ma 14), .ref (ma 15), .ref (ma 16), .ref (ma 17), .ref (ma 18), .ref (ma 19), .ref (ma 20), .int th])), (ma 3, .inl (cI, 80, .inl uK)), (ma 4, .inl (cI, 80, .inl uW)), (ma 5, .inl (cI, 80, .inl uV)), (ma 6, .inl (cI, 80, .inl uS)), (ma 16, .inl (cZ, 80, .inl uH)), (ma 17, .inl (cI, 80, .inl xW)), (ma 18, .inl (cI, 80, .inl xV)), (ma 19, .inl (cI, 80, .inl xS))])) (zQi dC dI (ywr uK uH xW xV xS uW uV uS (20 * ca) 20) ([(ma 0, .inr (4, [.int now, .ref (ma 1), .ref (ma 2), .ref (ma 3), .ref (ma 4), .ref (ma 5), .ref (ma 6), .ref (ma 7), .ref (ma 8), .ref (ma 9), .ref (ma 10), .ref (ma 11), .ref (ma 12), .ref (ma 13), .ref (ma 14), .ref (ma 15), .ref (ma 16), .ref (ma 17), .ref (ma 18), .ref (ma 19), .ref (ma 20), .int 0])), (ma 3, .inl (cI, 80, .inl uK)), (ma 4, .inl (cI, 80, .inl uW)), (ma 5, .inl (cI, 80, .inl uV)), (ma 6, .inl (cI, 80, .inl uS)), (ma 16, .inl (cZ, 80, .inl uH)), (ma 17, .inl (cI, 80, .inl xW)), (ma 18, .inl (cI, 80, .inl xV)), (ma 19, .inl (cI, 80, .inl xS))]) (va_A ([(ma 0, .inr (4, [.int now, .ref (ma 1), .ref (ma 2), .ref (ma 3), .ref (ma 4), .ref (ma 5), .ref (ma 6), .ref (ma 7), .ref (ma 8), .ref (ma 9), .ref (ma 10), .ref (ma 11), .ref (ma 12), .ref (ma 13), .ref (ma 14), .ref (ma 15), .ref (ma 16), .ref (ma 17), .ref (ma 18), .ref (ma 19), .ref (ma 20), .int th])), (ma 3, .inl (cI, 80, .inl uK)), (ma 4, .inl (cI, 80, .inl uW)), (ma 5, .inl (cI, 80, .inl uV)), (ma 6, .inl (cI, 80, .inl uS)), (ma 16, .inl (cZ, 80, .inl uH)), (ma 17, .inl (cI, 80, .inl xW)), (ma 18, .inl (cI, 80, .inl xV)), (ma 19, .inl (cI, 80, .inl xS))]) sz)) 0 0 (va_A ([(ma 0, .inr (4, [.int now, .ref (ma 1), .ref (ma 2), .ref (ma 3), .ref (ma 4), .ref (ma 5), .ref (ma 6), .ref (ma 7), .ref (ma 8), .ref (ma 9), .ref (ma 10), .ref (ma 11), .ref (ma 12), .ref (ma 13), .ref (ma 14), .ref (ma 15), .ref (ma 16), .ref (ma 17), .ref (ma 18), .ref (ma 19), .ref (ma 20), .int th])), (ma 3, .inl (cI, 80, .inl uK)), (ma 4, .inl (cI, 80, .inl uW)), (ma 5, .inl (cI, 80, .inl uV)), (ma 6, .inl (cI, 80, .inl uS)), (ma 16, .inl (cZ, 80, .inl uH)), (ma 17, .inl (cI, 80, .inl xW)), (ma 18, .inl (cI, 80, .inl xV)), (ma 19, .inl (cI, 80, .inl xS))]) sz) := by
  refine Met.ofW (cc := cX4_wrong) (maxL := 4) (ret := (some .int)) (by decide) rfl ?_
  intro p e s m args below meth c s₁ B hml hv0
  obtain ⟨rfl, hsz, hP, hK, hD0⟩ := hv0
  have hx := B.exec
  have hb := B.bytes
  have hr := B.returns
  have hts := atoms_spec (ws := wsX4_wrong) B.pre
  have hown : s.vm.findClass RX4 = some m.cls := findClass_of_methodNamed B.named
  have hlocks := B.notSynchronized
  subst hsz
  have hD := hD0.self (sz := s.heap.size)
  generalize hAe : va_A ([(ma 0, .inr (4, [.int now, .ref (ma 1), .ref (ma 2), .ref (ma 3), .ref (ma 4), .ref (ma 5), .ref (ma 6), .ref (ma 7), .ref (ma 8), .ref (ma 9), .ref (ma 10), .ref (ma 11), .ref (ma 12), .ref (ma 13), .ref (ma 14), .ref (ma 15), .ref (ma 16), .ref (ma 17), .ref (ma 18), .ref (ma 19), .ref (ma 20), .int th])), (ma 3, .inl (cI, 80, .inl uK)), (ma 4, .inl (cI, 80, .inl uW)), (ma 5, .inl (cI, 80, .inl uV)), (ma 6, .inl (cI, 80, .inl uS)), (ma 16, .inl (cZ, 80, .inl uH)), (ma 17, .inl (cI, 80, .inl xW)), (ma 18, .inl (cI, 80, .inl xV)), (ma 19, .inl (cI, 80, .inl xS))]) s.heap.size = A at hD ⊢
  have hA : ∀ q : Nat, s.heap.size ≤ q → A q := fun q h => by rw [← hAe]; exact Or.inr h
  have hS : va_S A s.heap s.heap [] := va_S.rf
  have hl := lv_entry ([.ref (ma 0), .int (nI ca)]) (n := 4) (Nat.le_of_ble_eq_true rfl)
  rw [lg_entry_eq]
  generalize (lg_sl ([.ref (ma 0), .int (nI ca)]) ++ List.replicate (4 - (lg_sl ([.ref (ma 0), .int (nI ca)])).length) Slot.unset).toArray = ls at hl ⊢
  have hl : lv_has ls 4 [(0, .ref (ma 0)), (1, .int (nI ca))] := hl
  have hiX4 : ∀ w ∈ wsX40, w ∈ wsX4_wrong := by decide +kernel
  have l16 := hts (.fieldLink RX4 16 "CatalogueHarvesterModel" "kinds" "[I") (by decide +kernel)
  have l56 := hts (.fieldLink RX4 56 "CatalogueHarvesterModel" "isHeld" "[Z") (by decide +kernel)
  refine lv_aload_n hx hb dX4_wrong_0 rfl (lv_at hl 0 rfl) ?_
  refine lv_iload_n hx hb dX4_wrong_1 rfl (lv_at hl 1 rfl) ?_
  refine z_cMi (is := [0]) (va_runV (As := [.int (nI ca)]) (rest := []) ⟨hx, hb, hml, hown, hts⟩ (kX4_asks_ok l dC dI cI cZ cH cJ ma now th ca (by first | assumption | omega) s.heap.size) (cwV 1 hts gX4_wrong_X4_asks rfl rfl rfl (by decide +kernel) ⟨Nat.le_of_ble_eq_true rfl, Nat.le_of_ble_eq_true rfl⟩) (zPreV (is := [0]) hK hP hD (by decide) rfl (va_recv hK hP (ci := 4) (q0 := 0) rfl rfl)) rfl rfl hl.1 rfl (lv_room (Nat.le_of_ble_eq_true rfl)) dX4_wrong_2 ⟨Nat.le_of_ble_eq_true rfl, Nat.le_of_ble_eq_true rfl⟩) hP hD hS hA rfl (by decide) rfl (fun H locs hP hD hS => ?_)
  have hP : va_P (dC, dI) vwCl ([(ma 0, .inr (4, [.int now, .ref (ma 1), .ref (ma 2), .ref (ma 3), .ref (ma 4), .ref (ma 5), .ref (ma 6), .ref (ma 7), .ref (ma 8), .ref (ma 9), .ref (ma 10), .ref (ma 11), .ref (ma 12), .ref (ma 13), .ref (ma 14), .ref (ma 15), .ref (ma 16), .ref (ma 17), .ref (ma 18), .ref (ma 19), .ref (ma 20), .int 0])), (ma 3, .inl (cI, 80, .inl uK)), (ma 4, .inl (cI, 80, .inl uW)), (ma 5, .inl (cI, 80, .inl uV)), (ma 6, .inl (cI, 80, .inl uS)), (ma 16, .inl (cZ, 80, .inl uH)), (ma 17, .inl (cI, 80, .inl xW)), (ma 18, .inl (cI, 80, .inl xV)), (ma 19, .inl (cI, 80, .inl xS))]) H := hP
  have hD : va_D A ([(ma 0, .inr (4, [.int now, .ref (ma 1), .ref (ma 2), .ref (ma 3), .ref (ma 4), .ref (ma 5), .ref (ma 6), .ref (ma 7), .ref (ma 8), .ref (ma 9), .ref (ma 10), .ref (ma 11), .ref (ma 12), .ref (ma 13), .ref (ma 14), .ref (ma 15), .ref (ma 16), .ref (ma 17), .ref (ma 18), .ref (ma 19), .ref (ma 20), .int 0])), (ma 3, .inl (cI, 80, .inl uK)), (ma 4, .inl (cI, 80, .inl uW)), (ma 5, .inl (cI, 80, .inl uV)), (ma 6, .inl (cI, 80, .inl uS)), (ma 16, .inl (cZ, 80, .inl uH)), (ma 17, .inl (cI, 80, .inl xW)), (ma 18, .inl (cI, 80, .inl xV)), (ma 19, .inl (cI, 80, .inl xS))]) := hD
  refine z_tv (v := 1) rfl ?_
  refine lv_if_ne (tgt := 10) hx hb dX4_wrong_5 (by decide) (fun c_5 => ?_) (fun c_5 => ?_)
  · skip
    refine lv_iconst (v := 0) hx hb dX4_wrong_10 (by decide) ?_
    refine lv_istore_n (lv' := [(2, .int 0), (0, .ref (ma 0)), (1, .int (nI ca))]) hx hb dX4_wrong_11 rfl hl (by decide) rfl (fun ls hl => ?_)
    refine lv_bipush (v := 20) hx hb dX4_wrong_12 (by decide) ?_
    refine lv_iload_n hx hb dX4_wrong_14 rfl (lv_at hl 2 rfl) ?_
    refine lv_imul hx hb dX4_wrong_15 ?_
    refine z_tv (v := nI (20 * ca)) (pk_mul 20 ca) ?_
    refine lv_istore_n (lv' := [(3, .int (nI (20 * ca))), (2, .int 0), (0, .ref (ma 0)), (1, .int (nI ca))]) hx hb dX4_wrong_16 rfl hl (by decide) rfl (fun ls hl => ?_)
    have LOOP1 : ∀ (n i : Nat), i ≤ 20 → 20 < i + n → ∀ (ls : Array Slot), lv_has ls 4 [(0, .ref (ma 0)), (1, .int (nI ca)), (2, .int (ywr uK uH xW xV xS uW uV uS (20 * ca) i)), (3, .int (nI (20 * ca + i)))] → W p l e (headSpec wsX4_wrong ({ frames := 3, cells := 0, slots := 0, locals := 63 })).room s m ([.ref (ma 0), .int (nI ca)] : List Value).toArray below meth c H locs 0 0 (MQ below (zQi dC dI (ywr uK uH xW xV xS uW uV uS (20 * ca) 20) ([(ma 0, .inr (4, [.int now, .ref (ma 1), .ref (ma 2), .ref (ma 3), .ref (ma 4), .ref (ma 5), .ref (ma 6), .ref (ma 7), .ref (ma 8), .ref (ma 9), .ref (ma 10), .ref (ma 11), .ref (ma 12), .ref (ma 13), .ref (ma 14), .ref (ma 15), .ref (ma 16), .ref (ma 17), .ref (ma 18), .ref (ma 19), .ref (ma 20), .int 0])), (ma 3, .inl (cI, 80, .inl uK)), (ma 4, .inl (cI, 80, .inl uW)), (ma 5, .inl (cI, 80, .inl uV)), (ma 6, .inl (cI, 80, .inl uS)), (ma 16, .inl (cZ, 80, .inl uH)), (ma 17, .inl (cI, 80, .inl xW)), (ma 18, .inl (cI, 80, .inl xV)), (ma 19, .inl (cI, 80, .inl xS))]) A) ([.ref (ma 0), .int (nI ca)] : List Value).toArray s 0 0 A) (F0 m 17 ls []) := by
      intro n
      induction n with
      | zero => intro i h1 h2; exact absurd h2 (by omega)
      | succ n ih =>
        intro i hi hin   ls hl
        refine lv_iload_n hx hb dX4_wrong_17 rfl (lv_at hl 3 rfl) ?_
        refine lv_bipush (v := 20) hx hb dX4_wrong_18 (by decide) ?_
        refine lv_iload_n hx hb dX4_wrong_20 rfl (lv_at hl 1 rfl) ?_
        refine lv_iconst (v := 1) hx hb dX4_wrong_21 (by decide) ?_
        refine lv_iadd hx hb dX4_wrong_22 ?_
        refine z_tv (v := nI (ca + 1)) (nI_1 ca) ?_
        refine lv_imul hx hb dX4_wrong_23 ?_
        refine z_tv (v := nI (20 * (ca + 1))) (pk_mul 20 (ca + 1)) ?_
        refine lv_icmp_ge (tgt := 71) hx hb dX4_wrong_24 (by decide) (fun c_24 => ?_) (fun c_24 => ?_)
        · skip
          have e20 : i = 20 := z_ge20 hi hca c_24
          subst e20
          refine lv_iload_n hx hb dX4_wrong_71 rfl (lv_at hl 2 rfl) ?_
          exact W.iret hx hb hr (fun t ht hW => ⟨rfl, ⟨by rw [ht]; exact hP, hD⟩, hS.F ht⟩) hS.2.2 dX4_wrong_72
        · skip
          have hlt : i < 20 := z_lt20 hi hca c_24
          refine lv_iload_n hx hb dX4_wrong_27 rfl (lv_at hl 2 rfl) ?_
          have J63_2 : ∀ (ls : Array Slot), lv_has ls 4 [(0, .ref (ma 0)), (1, .int (nI ca)), (2, .int (ywr uK uH xW xV xS uW uV uS (20 * ca) i)), (3, .int (nI (20 * ca + i)))] → W p l e (headSpec wsX4_wrong ({ frames := 3, cells := 0, slots := 0, locals := 63 })).room s m ([.ref (ma 0), .int (nI ca)] : List Value).toArray below meth c H locs 0 0 (MQ below (zQi dC dI (ywr uK uH xW xV xS uW uV uS (20 * ca) 20) ([(ma 0, .inr (4, [.int now, .ref (ma 1), .ref (ma 2), .ref (ma 3), .ref (ma 4), .ref (ma 5), .ref (ma 6), .ref (ma 7), .ref (ma 8), .ref (ma 9), .ref (ma 10), .ref (ma 11), .ref (ma 12), .ref (ma 13), .ref (ma 14), .ref (ma 15), .ref (ma 16), .ref (ma 17), .ref (ma 18), .ref (ma 19), .ref (ma 20), .int 0])), (ma 3, .inl (cI, 80, .inl uK)), (ma 4, .inl (cI, 80, .inl uW)), (ma 5, .inl (cI, 80, .inl uV)), (ma 6, .inl (cI, 80, .inl uS)), (ma 16, .inl (cZ, 80, .inl uH)), (ma 17, .inl (cI, 80, .inl xW)), (ma 18, .inl (cI, 80, .inl xV)), (ma 19, .inl (cI, 80, .inl xS))]) A) ([.ref (ma 0), .int (nI ca)] : List Value).toArray s 0 0 A) (F0 m 63 ls [.int (if (uK (20 * ca + i) = 1 ∧ yali uH xW xV xS uW uV uS (20 * ca + i) = 0) ∨ (¬ uK (20 * ca + i) = 1 ∧ ¬ uH (20 * ca + i) = 0) then (1 : Int32) else 0), .int (ywr uK uH xW xV xS uW uV uS (20 * ca) i)]) := by
            intro ls hl
            refine lv_iadd hx hb dX4_wrong_63 ?_
            refine lv_istore_n (lv' := [(2, .int ((ywr uK uH xW xV xS uW uV uS (20 * ca) i) + (if (uK (20 * ca + i) = 1 ∧ yali uH xW xV xS uW uV uS (20 * ca + i) = 0) ∨ (¬ uK (20 * ca + i) = 1 ∧ ¬ uH (20 * ca + i) = 0) then (1 : Int32) else 0))), (0, .ref (ma 0)), (1, .int (nI ca)), (3, .int (nI (20 * ca + i)))]) hx hb dX4_wrong_64 rfl hl (by decide) rfl (fun ls hl => ?_)
            refine lv_iinc (v := nI (20 * ca + (i + 1))) (lv' := [(3, .int (nI (20 * ca + (i + 1)))), (2, .int ((ywr uK uH xW xV xS uW uV uS (20 * ca) i) + (if (uK (20 * ca + i) = 1 ∧ yali uH xW xV xS uW uV uS (20 * ca + i) = 0) ∨ (¬ uK (20 * ca + i) = 1 ∧ ¬ uH (20 * ca + i) = 0) then (1 : Int32) else 0))), (0, .ref (ma 0)), (1, .int (nI ca))]) hx hb dX4_wrong_65 hl (k := 3) rfl (z_1) (by decide) rfl (fun ls hl => ?_)
            refine lv_goto (tgt := 17) hx hb dX4_wrong_68 (by decide) ?_
            exact ih (i + 1) (by omega) (by omega)  _ (lv_cg (lv_sub (l' := [(0, .ref (ma 0)), (1, .int (nI ca)), (2, .int ((ywr uK uH xW xV xS uW uV uS (20 * ca) i) + (if (uK (20 * ca + i) = 1 ∧ yali uH xW xV xS uW uV uS (20 * ca + i) = 0) ∨ (¬ uK (20 * ca + i) = 1 ∧ ¬ uH (20 * ca + i) = 0) then (1 : Int32) else 0))), (3, .int (nI (20 * ca + (i + 1))))]) hl [2, 3, 1, 0] rfl) (zl_k (zl_k (zl_c (rfl) (zl_k (rfl))))))
          refine lv_aload_n hx hb dX4_wrong_28 rfl (lv_at hl 0 rfl) ?_
          refine va_get (D := (dC, dI)) (ci := 4) (v := .ref (ma 3)) (C := RX4) (T := TX4) (N := 22) hx hb hts hiX4 hown hK hP 0 rfl rfl 3 (by decide) l16 (fun _ h9 => h9) rfl dX4_wrong_29 ?_
          refine lv_iload_n hx hb dX4_wrong_32 rfl (lv_at hl 3 rfl) ?_
          refine z_iald hx hb hK hP 1 rfl (zix_nI (by first | assumption | omega) (by decide)) dX4_wrong_33 ?_
          refine z_tv (v := uK (20 * ca + i)) (rfl) ?_
          refine lv_iconst (v := 1) hx hb dX4_wrong_34 (by decide) ?_
          refine lv_icmp_ne (tgt := 49) hx hb dX4_wrong_35 (by decide) (fun c_35 => ?_) (fun c_35 => ?_)
          · skip
            refine lv_aload_n hx hb dX4_wrong_49 rfl (lv_at hl 0 rfl) ?_
            refine va_get (D := (dC, dI)) (ci := 4) (v := .ref (ma 16)) (C := RX4) (T := TX4) (N := 22) hx hb hts hiX4 hown hK hP 0 rfl rfl 16 (by decide) l56 (fun _ h9 => h9) rfl dX4_wrong_50 ?_
            refine lv_iload_n hx hb dX4_wrong_53 rfl (lv_at hl 3 rfl) ?_
            refine z_zald hx hb hK hP 5 rfl (zix_nI (by first | assumption | omega) (by decide)) dX4_wrong_54 ?_
            refine z_tv (v := uH (20 * ca + i)) (rfl) ?_
            refine lv_if_eq (tgt := 62) hx hb dX4_wrong_55 (by decide) (fun c_55 => ?_) (fun c_55 => ?_)
            · skip
              refine lv_iconst (v := 0) hx hb dX4_wrong_62 (by decide) ?_
              refine z_tv (v := if (uK (20 * ca + i) = 1 ∧ yali uH xW xV xS uW uV uS (20 * ca + i) = 0) ∨ (¬ uK (20 * ca + i) = 1 ∧ ¬ uH (20 * ca + i) = 0) then (1 : Int32) else 0) (by grind) ?_
              exact J63_2 _ (lv_sub hl [0, 1, 2, 3] rfl)
            · skip
              refine lv_iconst (v := 1) hx hb dX4_wrong_58 (by decide) ?_
              refine lv_goto (tgt := 63) hx hb dX4_wrong_59 (by decide) ?_
              refine z_tv (v := if (uK (20 * ca + i) = 1 ∧ yali uH xW xV xS uW uV uS (20 * ca + i) = 0) ∨ (¬ uK (20 * ca + i) = 1 ∧ ¬ uH (20 * ca + i) = 0) then (1 : Int32) else 0) (by grind) ?_
              exact J63_2 _ (lv_sub hl [0, 1, 2, 3] rfl)
          · skip
            refine lv_aload_n hx hb dX4_wrong_38 rfl (lv_at hl 0 rfl) ?_
            refine lv_iload_n hx hb dX4_wrong_39 rfl (lv_at hl 3 rfl) ?_
            refine z_cRi (va_runV (As := [.int (nI (20 * ca + i))]) (rest := [.int (ywr uK uH xW xV xS uW uV uS (20 * ca) i)]) ⟨hx, hb, hml, hown, hts⟩ (kX4_isAlike l dC dI cI cZ cH cJ ma now 0 uW uV uS uH xW xV xS (20 * ca + i) (by first | assumption | omega)) (cwV 1 hts gX4_wrong_X4_isAlike rfl rfl rfl (by decide +kernel) ⟨Nat.le_of_ble_eq_true rfl, Nat.le_of_ble_eq_true rfl⟩) (zPreR (is := [0, 2, 3, 4, 5, 6, 7, 8]) hK hP rfl (va_recv hK hP (ci := 4) (q0 := 0) rfl rfl)) rfl rfl hl.1 rfl (lv_room (Nat.le_of_ble_eq_true rfl)) dX4_wrong_40 ⟨Nat.le_of_ble_eq_true rfl, Nat.le_of_ble_eq_true rfl⟩) ?_
            refine z_tv (v := yali uH xW xV xS uW uV uS (20 * ca + i)) rfl ?_
            refine lv_if_ne (tgt := 62) hx hb dX4_wrong_43 (by decide) (fun c_43 => ?_) (fun c_43 => ?_)
            · skip
              refine lv_iconst (v := 0) hx hb dX4_wrong_62 (by decide) ?_
              refine z_tv (v := if (uK (20 * ca + i) = 1 ∧ yali uH xW xV xS uW uV uS (20 * ca + i) = 0) ∨ (¬ uK (20 * ca + i) = 1 ∧ ¬ uH (20 * ca + i) = 0) then (1 : Int32) else 0) (by grind) ?_
              exact J63_2 _ (lv_sub hl [0, 1, 2, 3] rfl)
            · skip
              refine lv_goto (tgt := 58) hx hb dX4_wrong_46 (by decide) ?_
              refine lv_iconst (v := 1) hx hb dX4_wrong_58 (by decide) ?_
              refine lv_goto (tgt := 63) hx hb dX4_wrong_59 (by decide) ?_
              refine z_tv (v := if (uK (20 * ca + i) = 1 ∧ yali uH xW xV xS uW uV uS (20 * ca + i) = 0) ∨ (¬ uK (20 * ca + i) = 1 ∧ ¬ uH (20 * ca + i) = 0) then (1 : Int32) else 0) (by grind) ?_
              exact J63_2 _ (lv_sub hl [0, 1, 2, 3] rfl)
    exact LOOP1 (20 + 1) 0 (by omega) (by omega)  _ (lv_cg (lv_sub (l' := [(0, .ref (ma 0)), (1, .int (nI ca)), (2, .int 0), (3, .int (nI (20 * ca)))]) hl [2, 3, 1, 0] rfl) (zl_k (zl_k (zl_c (rfl) (zl_c (rfl) (rfl))))))
  · exact absurd c_5 (by decide)
set_option maxHeartbeats 4000000 in
set_option maxRecDepth 100000 in
/-- Model.wrong_bad -/
theorem kX4_wrong_bad (l : Launch) (dC : Nat → ClassId) (dI : Nat → Nat → Nat) (cI cZ cH cJ : ClassId) (ma : Nat → Nat) (now : Int32) (th : Int32) (v : Int32) (hv : ¬ zin v 0 3 = 1) (sz : Nat) : Met l yX4_wrong wsX4_wrong ({ frames := 3, cells := 0, slots := 0, locals := 63 }) (zPc dC dI (zTy cI cZ cH cJ) [.ref (ma 0), .int v] sz ([(ma 0, .inr (4, [.int now, .ref (ma 1), .ref (ma 2), .ref (ma 3), .ref (ma 4), .ref (ma 5), .ref (ma 6), .ref (ma 7), .ref (ma 8), .ref (ma 9), .ref (ma 10), .ref (ma 11), .ref (ma 12), .ref (ma 13), .ref (ma 14), .ref (ma 15), .ref (ma 16), .ref (ma 17), .ref (ma 18), .ref (ma 19), .ref (ma 20), .int th]))])) (zQi dC dI 0 ([(ma 0, .inr (4, [.int now, .ref (ma 1), .ref (ma 2), .ref (ma 3), .ref (ma 4), .ref (ma 5), .ref (ma 6), .ref (ma 7), .ref (ma 8), .ref (ma 9), .ref (ma 10), .ref (ma 11), .ref (ma 12), .ref (ma 13), .ref (ma 14), .ref (ma 15), .ref (ma 16), .ref (ma 17), .ref (ma 18), .ref (ma 19), .ref (ma 20), .int 1]))]) (va_A ([(ma 0, .inr (4, [.int now, .ref (ma 1), .ref (ma 2), .ref (ma 3), .ref (ma 4), .ref (ma 5), .ref (ma 6), .ref (ma 7), .ref (ma 8), .ref (ma 9), .ref (ma 10), .ref (ma 11), .ref (ma 12), .ref (ma 13), .ref (ma 14), .ref (ma 15), .ref (ma 16), .ref (ma 17), .ref (ma 18), .ref (ma 19), .ref (ma 20), .int th]))]) sz)) 0 0 (va_A ([(ma 0, .inr (4, [.int now, .ref (ma 1), .ref (ma 2), .ref (ma 3), .ref (ma 4), .ref (ma 5), .ref (ma 6), .ref (ma 7), .ref (ma 8), .ref (ma 9), .ref (ma 10), .ref (ma 11), .ref (ma 12), .ref (ma 13), .ref (ma 14), .ref (ma 15), .ref (ma 16), .ref (ma 17), .ref (ma 18), .ref (ma 19), .ref (ma 20), .int th]))]) sz) := by
  refine Met.ofW (cc := cX4_wrong) (maxL := 4) (ret := (some .int)) (by decide) rfl ?_
  intro p e s m args below meth c s₁ B hml hv0
  obtain ⟨rfl, hsz, hP, hK, hD0⟩ := hv0
  have hx := B.exec
  have hb := B.bytes
  have hr := B.returns
  have hts := atoms_spec (ws := wsX4_wrong) B.pre
  have hown : s.vm.findClass RX4 = some m.cls := findClass_of_methodNamed B.named
  have hlocks := B.notSynchronized
  subst hsz
  have hD := hD0.self (sz := s.heap.size)
  generalize hAe : va_A ([(ma 0, .inr (4, [.int now, .ref (ma 1), .ref (ma 2), .ref (ma 3), .ref (ma 4), .ref (ma 5), .ref (ma 6), .ref (ma 7), .ref (ma 8), .ref (ma 9), .ref (ma 10), .ref (ma 11), .ref (ma 12), .ref (ma 13), .ref (ma 14), .ref (ma 15), .ref (ma 16), .ref (ma 17), .ref (ma 18), .ref (ma 19), .ref (ma 20), .int th]))]) s.heap.size = A at hD ⊢
  have hA : ∀ q : Nat, s.heap.size ≤ q → A q := fun q h => by rw [← hAe]; exact Or.inr h
  have hS : va_S A s.heap s.heap [] := va_S.rf
  have hl := lv_entry ([.ref (ma 0), .int v]) (n := 4) (Nat.le_of_ble_eq_true rfl)
  rw [lg_entry_eq]
  generalize (lg_sl ([.ref (ma 0), .int v]) ++ List.replicate (4 - (lg_sl ([.ref (ma 0), .int v])).length) Slot.unset).toArray = ls at hl ⊢
  have hl : lv_has ls 4 [(0, .ref (ma 0)), (1, .int v)] := hl
  refine lv_aload_n hx hb dX4_wrong_0 rfl (lv_at hl 0 rfl) ?_
  refine lv_iload_n hx hb dX4_wrong_1 rfl (lv_at hl 1 rfl) ?_
  refine z_cMi (is := [0]) (va_runV (As := [.int v]) (rest := []) ⟨hx, hb, hml, hown, hts⟩ (kX4_asks_bad l dC dI cI cZ cH cJ ma now th v (by first | assumption | omega) s.heap.size) (cwV 1 hts gX4_wrong_X4_asks rfl rfl rfl (by decide +kernel) ⟨Nat.le_of_ble_eq_true rfl, Nat.le_of_ble_eq_true rfl⟩) (zPreV (is := [0]) hK hP hD (by decide) rfl (va_recv hK hP (ci := 4) (q0 := 0) rfl rfl)) rfl rfl hl.1 rfl (lv_room (Nat.le_of_ble_eq_true rfl)) dX4_wrong_2 ⟨Nat.le_of_ble_eq_true rfl, Nat.le_of_ble_eq_true rfl⟩) hP hD hS hA rfl (by decide) rfl (fun H locs hP hD hS => ?_)
  have hP : va_P (dC, dI) vwCl ([(ma 0, .inr (4, [.int now, .ref (ma 1), .ref (ma 2), .ref (ma 3), .ref (ma 4), .ref (ma 5), .ref (ma 6), .ref (ma 7), .ref (ma 8), .ref (ma 9), .ref (ma 10), .ref (ma 11), .ref (ma 12), .ref (ma 13), .ref (ma 14), .ref (ma 15), .ref (ma 16), .ref (ma 17), .ref (ma 18), .ref (ma 19), .ref (ma 20), .int 1]))]) H := hP
  have hD : va_D A ([(ma 0, .inr (4, [.int now, .ref (ma 1), .ref (ma 2), .ref (ma 3), .ref (ma 4), .ref (ma 5), .ref (ma 6), .ref (ma 7), .ref (ma 8), .ref (ma 9), .ref (ma 10), .ref (ma 11), .ref (ma 12), .ref (ma 13), .ref (ma 14), .ref (ma 15), .ref (ma 16), .ref (ma 17), .ref (ma 18), .ref (ma 19), .ref (ma 20), .int 1]))]) := hD
  refine z_tv (v := 0) rfl ?_
  refine lv_if_ne (tgt := 10) hx hb dX4_wrong_5 (by decide) (fun c_5 => ?_) (fun c_5 => ?_)
  · exact absurd c_5 (by decide)
  · skip
    refine lv_iconst (v := 0) hx hb dX4_wrong_8 (by decide) ?_
    exact W.iret hx hb hr (fun t ht hW => ⟨rfl, ⟨by rw [ht]; exact hP, hD⟩, hS.F ht⟩) hS.2.2 dX4_wrong_9
set_option maxHeartbeats 4000000 in
set_option maxRecDepth 100000 in
/-- Model.copies_ok -/
theorem kX4_copies_ok (l : Launch) (dC : Nat → ClassId) (dI : Nat → Nat → Nat) (cI cZ cH cJ : ClassId) (ma : Nat → Nat) (now : Int32) (th : Int32) (uH : zI) (xW : zI) (w : Int32) (hw1 : zin w 0 9 = 1) (sz : Nat) : Met l yX4_copies wsX4_copies ({ frames := 2, cells := 0, slots := 0, locals := 42 }) (zPc dC dI (zTy cI cZ cH cJ) [.ref (ma 0), .int w] sz ([(ma 0, .inr (4, [.int now, .ref (ma 1), .ref (ma 2), .ref (ma 3), .ref (ma 4), .ref (ma 5), .ref (ma 6), .ref (ma 7), .ref (ma 8), .ref (ma 9), .ref (ma 10), .ref (ma 11), .ref (ma 12), .ref (ma 13), .ref (ma 14), .ref (ma 15), .ref (ma 16), .ref (ma 17), .ref (ma 18), .ref (ma 19), .ref (ma 20), .int th])), (ma 16, .inl (cZ, 80, .inl uH)), (ma 17, .inl (cI, 80, .inl xW))])) (zQi dC dI (ycop uH xW w 80) ([(ma 0, .inr (4, [.int now, .ref (ma 1), .ref (ma 2), .ref (ma 3), .ref (ma 4), .ref (ma 5), .ref (ma 6), .ref (ma 7), .ref (ma 8), .ref (ma 9), .ref (ma 10), .ref (ma 11), .ref (ma 12), .ref (ma 13), .ref (ma 14), .ref (ma 15), .ref (ma 16), .ref (ma 17), .ref (ma 18), .ref (ma 19), .ref (ma 20), .int 0])), (ma 16, .inl (cZ, 80, .inl uH)), (ma 17, .inl (cI, 80, .inl xW))]) (va_A ([(ma 0, .inr (4, [.int now, .ref (ma 1), .ref (ma 2), .ref (ma 3), .ref (ma 4), .ref (ma 5), .ref (ma 6), .ref (ma 7), .ref (ma 8), .ref (ma 9), .ref (ma 10), .ref (ma 11), .ref (ma 12), .ref (ma 13), .ref (ma 14), .ref (ma 15), .ref (ma 16), .ref (ma 17), .ref (ma 18), .ref (ma 19), .ref (ma 20), .int th])), (ma 16, .inl (cZ, 80, .inl uH)), (ma 17, .inl (cI, 80, .inl xW))]) sz)) 0 0 (va_A ([(ma 0, .inr (4, [.int now, .ref (ma 1), .ref (ma 2), .ref (ma 3), .ref (ma 4), .ref (ma 5), .ref (ma 6), .ref (ma 7), .ref (ma 8), .ref (ma 9), .ref (ma 10), .ref (ma 11), .ref (ma 12), .ref (ma 13), .ref (ma 14), .ref (ma 15), .ref (ma 16), .ref (ma 17), .ref (ma 18), .ref (ma 19), .ref (ma 20), .int th])), (ma 16, .inl (cZ, 80, .inl uH)), (ma 17, .inl (cI, 80, .inl xW))]) sz) := by
  refine Met.ofW (cc := cX4_copies) (maxL := 4) (ret := (some .int)) (by decide) rfl ?_
  intro p e s m args below meth c s₁ B hml hv0
  obtain ⟨rfl, hsz, hP, hK, hD0⟩ := hv0
  have hx := B.exec
  have hb := B.bytes
  have hr := B.returns
  have hts := atoms_spec (ws := wsX4_copies) B.pre
  have hown : s.vm.findClass RX4 = some m.cls := findClass_of_methodNamed B.named
  have hlocks := B.notSynchronized
  subst hsz
  have hD := hD0.self (sz := s.heap.size)
  generalize hAe : va_A ([(ma 0, .inr (4, [.int now, .ref (ma 1), .ref (ma 2), .ref (ma 3), .ref (ma 4), .ref (ma 5), .ref (ma 6), .ref (ma 7), .ref (ma 8), .ref (ma 9), .ref (ma 10), .ref (ma 11), .ref (ma 12), .ref (ma 13), .ref (ma 14), .ref (ma 15), .ref (ma 16), .ref (ma 17), .ref (ma 18), .ref (ma 19), .ref (ma 20), .int th])), (ma 16, .inl (cZ, 80, .inl uH)), (ma 17, .inl (cI, 80, .inl xW))]) s.heap.size = A at hD ⊢
  have hA : ∀ q : Nat, s.heap.size ≤ q → A q := fun q h => by rw [← hAe]; exact Or.inr h
  have hS : va_S A s.heap s.heap [] := va_S.rf
  have hl := lv_entry ([.ref (ma 0), .int w]) (n := 4) (Nat.le_of_ble_eq_true rfl)
  rw [lg_entry_eq]
  generalize (lg_sl ([.ref (ma 0), .int w]) ++ List.replicate (4 - (lg_sl ([.ref (ma 0), .int w])).length) Slot.unset).toArray = ls at hl ⊢
  have hl : lv_has ls 4 [(0, .ref (ma 0)), (1, .int w)] := hl
  have hiX4 : ∀ w ∈ wsX40, w ∈ wsX4_copies := by decide +kernel
  have l56 := hts (.fieldLink RX4 56 "CatalogueHarvesterModel" "isHeld" "[Z") (by decide +kernel)
  have l59 := hts (.fieldLink RX4 59 "CatalogueHarvesterModel" "heldWorks" "[I") (by decide +kernel)
  refine lv_aload_n hx hb dX4_copies_0 rfl (lv_at hl 0 rfl) ?_
  refine lv_iload_n hx hb dX4_copies_1 rfl (lv_at hl 1 rfl) ?_
  refine z_cRi (va_runS (As := [.int w]) (rest := [.ref (ma 0)]) ⟨hx, hb, hml, hown, hts⟩ (kX4_isWork l w) (va_cwS 1 hts gX4_copies_X4_isWork rfl rfl rfl (by decide +kernel) ⟨Nat.le_of_ble_eq_true rfl, Nat.le_of_ble_eq_true rfl⟩) (zPre0) rfl rfl hl.1 rfl (lv_room (Nat.le_of_ble_eq_true rfl)) dX4_copies_2 ⟨Nat.le_of_ble_eq_true rfl, Nat.le_of_ble_eq_true rfl⟩) ?_
  refine z_tv (v := 1) (hw1) ?_
  refine lv_if_eq (tgt := 12) hx hb dX4_copies_5 (by decide) (fun c_5 => ?_) (fun c_5 => ?_)
  · exact absurd c_5 (by decide)
  · skip
    refine lv_iconst (v := 0) hx hb dX4_copies_8 (by decide) ?_
    refine lv_goto (tgt := 13) hx hb dX4_copies_9 (by decide) ?_
    refine z_cMi (is := [0]) (va_runV (As := [.int 0]) (rest := []) ⟨hx, hb, hml, hown, hts⟩ (kX4_goes l dC dI cI cZ cH cJ ma now th 0 s.heap.size) (cwV 1 hts gX4_copies_X4_goes rfl rfl rfl (by decide +kernel) ⟨Nat.le_of_ble_eq_true rfl, Nat.le_of_ble_eq_true rfl⟩) (zPreV (is := [0]) hK hP hD (by decide) rfl (va_recv hK hP (ci := 4) (q0 := 0) rfl rfl)) rfl rfl hl.1 rfl (lv_room (Nat.le_of_ble_eq_true rfl)) dX4_copies_13 ⟨Nat.le_of_ble_eq_true rfl, Nat.le_of_ble_eq_true rfl⟩) hP hD hS hA rfl (by decide) rfl (fun H locs hP hD hS => ?_)
    have hP : va_P (dC, dI) vwCl ([(ma 0, .inr (4, [.int now, .ref (ma 1), .ref (ma 2), .ref (ma 3), .ref (ma 4), .ref (ma 5), .ref (ma 6), .ref (ma 7), .ref (ma 8), .ref (ma 9), .ref (ma 10), .ref (ma 11), .ref (ma 12), .ref (ma 13), .ref (ma 14), .ref (ma 15), .ref (ma 16), .ref (ma 17), .ref (ma 18), .ref (ma 19), .ref (ma 20), .int 0])), (ma 16, .inl (cZ, 80, .inl uH)), (ma 17, .inl (cI, 80, .inl xW))]) H := hP
    have hD : va_D A ([(ma 0, .inr (4, [.int now, .ref (ma 1), .ref (ma 2), .ref (ma 3), .ref (ma 4), .ref (ma 5), .ref (ma 6), .ref (ma 7), .ref (ma 8), .ref (ma 9), .ref (ma 10), .ref (ma 11), .ref (ma 12), .ref (ma 13), .ref (ma 14), .ref (ma 15), .ref (ma 16), .ref (ma 17), .ref (ma 18), .ref (ma 19), .ref (ma 20), .int 0])), (ma 16, .inl (cZ, 80, .inl uH)), (ma 17, .inl (cI, 80, .inl xW))]) := hD
    refine z_tv (v := 1) (by decide) ?_
    refine lv_if_ne (tgt := 21) hx hb dX4_copies_16 (by decide) (fun c_16 => ?_) (fun c_16 => ?_)
    · skip
      refine lv_iconst (v := 0) hx hb dX4_copies_21 (by decide) ?_
      refine lv_istore_n (lv' := [(2, .int 0), (0, .ref (ma 0)), (1, .int w)]) hx hb dX4_copies_22 rfl hl (by decide) rfl (fun ls hl => ?_)
      refine lv_iconst (v := 0) hx hb dX4_copies_23 (by decide) ?_
      refine lv_istore_n (lv' := [(3, .int 0), (2, .int 0), (0, .ref (ma 0)), (1, .int w)]) hx hb dX4_copies_24 rfl hl (by decide) rfl (fun ls hl => ?_)
      have LOOP1 : ∀ (n i : Nat), i ≤ 80 → 80 < i + n → ∀ (ls : Array Slot), lv_has ls 4 [(0, .ref (ma 0)), (1, .int w), (2, .int (ycop uH xW w i)), (3, .int (nI i))] → W p l e (headSpec wsX4_copies ({ frames := 2, cells := 0, slots := 0, locals := 42 })).room s m ([.ref (ma 0), .int w] : List Value).toArray below meth c H locs 0 0 (MQ below (zQi dC dI (ycop uH xW w 80) ([(ma 0, .inr (4, [.int now, .ref (ma 1), .ref (ma 2), .ref (ma 3), .ref (ma 4), .ref (ma 5), .ref (ma 6), .ref (ma 7), .ref (ma 8), .ref (ma 9), .ref (ma 10), .ref (ma 11), .ref (ma 12), .ref (ma 13), .ref (ma 14), .ref (ma 15), .ref (ma 16), .ref (ma 17), .ref (ma 18), .ref (ma 19), .ref (ma 20), .int 0])), (ma 16, .inl (cZ, 80, .inl uH)), (ma 17, .inl (cI, 80, .inl xW))]) A) ([.ref (ma 0), .int w] : List Value).toArray s 0 0 A) (F0 m 25 ls []) := by
        intro n
        induction n with
        | zero => intro i h1 h2; exact absurd h2 (by omega)
        | succ n ih =>
          intro i hi hin   ls hl
          refine lv_iload_n hx hb dX4_copies_25 rfl (lv_at hl 3 rfl) ?_
          refine lv_bipush (v := 80) hx hb dX4_copies_26 (by decide) ?_
          refine lv_icmp_ge (tgt := 64) hx hb dX4_copies_28 (by decide) (fun c_28 => ?_) (fun c_28 => ?_)
          · skip
            have e20 : i = 80 := z_ge (n := 80) hi (by decide) c_28
            subst e20
            refine lv_iload_n hx hb dX4_copies_64 rfl (lv_at hl 2 rfl) ?_
            exact W.iret hx hb hr (fun t ht hW => ⟨rfl, ⟨by rw [ht]; exact hP, hD⟩, hS.F ht⟩) hS.2.2 dX4_copies_65
          · skip
            have hlt : i < 80 := z_lt (n := 80) hi (by decide) c_28
            refine lv_iload_n hx hb dX4_copies_31 rfl (lv_at hl 2 rfl) ?_
            have J56_2 : ∀ (ls : Array Slot), lv_has ls 4 [(0, .ref (ma 0)), (1, .int w), (2, .int (ycop uH xW w i)), (3, .int (nI i))] → W p l e (headSpec wsX4_copies ({ frames := 2, cells := 0, slots := 0, locals := 42 })).room s m ([.ref (ma 0), .int w] : List Value).toArray below meth c H locs 0 0 (MQ below (zQi dC dI (ycop uH xW w 80) ([(ma 0, .inr (4, [.int now, .ref (ma 1), .ref (ma 2), .ref (ma 3), .ref (ma 4), .ref (ma 5), .ref (ma 6), .ref (ma 7), .ref (ma 8), .ref (ma 9), .ref (ma 10), .ref (ma 11), .ref (ma 12), .ref (ma 13), .ref (ma 14), .ref (ma 15), .ref (ma 16), .ref (ma 17), .ref (ma 18), .ref (ma 19), .ref (ma 20), .int 0])), (ma 16, .inl (cZ, 80, .inl uH)), (ma 17, .inl (cI, 80, .inl xW))]) A) ([.ref (ma 0), .int w] : List Value).toArray s 0 0 A) (F0 m 56 ls [.int (if ¬ uH i = 0 ∧ xW i = w then (1 : Int32) else 0), .int (ycop uH xW w i)]) := by
              intro ls hl
              refine lv_iadd hx hb dX4_copies_56 ?_
              refine lv_istore_n (lv' := [(2, .int ((ycop uH xW w i) + (if ¬ uH i = 0 ∧ xW i = w then (1 : Int32) else 0))), (0, .ref (ma 0)), (1, .int w), (3, .int (nI i))]) hx hb dX4_copies_57 rfl hl (by decide) rfl (fun ls hl => ?_)
              refine lv_iinc (v := nI (i + 1)) (lv' := [(3, .int (nI (i + 1))), (2, .int ((ycop uH xW w i) + (if ¬ uH i = 0 ∧ xW i = w then (1 : Int32) else 0))), (0, .ref (ma 0)), (1, .int w)]) hx hb dX4_copies_58 hl (k := 3) rfl (z_1) (by decide) rfl (fun ls hl => ?_)
              refine lv_goto (tgt := 25) hx hb dX4_copies_61 (by decide) ?_
              exact ih (i + 1) (by omega) (by omega)  _ (lv_cg (lv_sub (l' := [(0, .ref (ma 0)), (1, .int w), (2, .int ((ycop uH xW w i) + (if ¬ uH i = 0 ∧ xW i = w then (1 : Int32) else 0))), (3, .int (nI (i + 1)))]) hl [2, 3, 1, 0] rfl) (zl_k (zl_k (zl_c (rfl) (zl_k (rfl))))))
            refine lv_aload_n hx hb dX4_copies_32 rfl (lv_at hl 0 rfl) ?_
            refine va_get (D := (dC, dI)) (ci := 4) (v := .ref (ma 16)) (C := RX4) (T := TX4) (N := 22) hx hb hts hiX4 hown hK hP 0 rfl rfl 16 (by decide) l56 (fun _ h9 => h9) rfl dX4_copies_33 ?_
            refine lv_iload_n hx hb dX4_copies_36 rfl (lv_at hl 3 rfl) ?_
            refine z_zald hx hb hK hP 1 rfl (zix_nI (by first | assumption | omega) (by decide)) dX4_copies_37 ?_
            refine z_tv (v := uH i) (rfl) ?_
            refine lv_if_eq (tgt := 55) hx hb dX4_copies_38 (by decide) (fun c_38 => ?_) (fun c_38 => ?_)
            · skip
              refine lv_iconst (v := 0) hx hb dX4_copies_55 (by decide) ?_
              refine z_tv (v := if ¬ uH i = 0 ∧ xW i = w then (1 : Int32) else 0) (by grind) ?_
              exact J56_2 _ (lv_sub hl [0, 1, 2, 3] rfl)
            · skip
              refine lv_aload_n hx hb dX4_copies_41 rfl (lv_at hl 0 rfl) ?_
              refine va_get (D := (dC, dI)) (ci := 4) (v := .ref (ma 17)) (C := RX4) (T := TX4) (N := 22) hx hb hts hiX4 hown hK hP 0 rfl rfl 17 (by decide) l59 (fun _ h9 => h9) rfl dX4_copies_42 ?_
              refine lv_iload_n hx hb dX4_copies_45 rfl (lv_at hl 3 rfl) ?_
              refine z_iald hx hb hK hP 2 rfl (zix_nI (by first | assumption | omega) (by decide)) dX4_copies_46 ?_
              refine z_tv (v := xW i) (rfl) ?_
              refine lv_iload_n hx hb dX4_copies_47 rfl (lv_at hl 1 rfl) ?_
              refine lv_icmp_ne (tgt := 55) hx hb dX4_copies_48 (by decide) (fun c_48 => ?_) (fun c_48 => ?_)
              · skip
                refine lv_iconst (v := 0) hx hb dX4_copies_55 (by decide) ?_
                refine z_tv (v := if ¬ uH i = 0 ∧ xW i = w then (1 : Int32) else 0) (by grind) ?_
                exact J56_2 _ (lv_sub hl [0, 1, 2, 3] rfl)
              · skip
                refine lv_iconst (v := 1) hx hb dX4_copies_51 (by decide) ?_
                refine lv_goto (tgt := 56) hx hb dX4_copies_52 (by decide) ?_
                refine z_tv (v := if ¬ uH i = 0 ∧ xW i = w then (1 : Int32) else 0) (by grind) ?_
                exact J56_2 _ (lv_sub hl [0, 1, 2, 3] rfl)
      exact LOOP1 (80 + 1) 0 (by omega) (by omega)  _ (lv_cg (lv_sub (l' := [(0, .ref (ma 0)), (1, .int w), (2, .int 0), (3, .int 0)]) hl [2, 3, 1, 0] rfl) (zl_k (zl_k (zl_c (rfl) (zl_c (rfl) (rfl))))))
    · exact absurd c_16 (by decide)
set_option maxHeartbeats 4000000 in
set_option maxRecDepth 100000 in
/-- Model.copies_bad -/
theorem kX4_copies_bad (l : Launch) (dC : Nat → ClassId) (dI : Nat → Nat → Nat) (cI cZ cH cJ : ClassId) (ma : Nat → Nat) (now : Int32) (th : Int32) (w : Int32) (hv : ¬ zin w 0 9 = 1) (sz : Nat) : Met l yX4_copies wsX4_copies ({ frames := 2, cells := 0, slots := 0, locals := 42 }) (zPc dC dI (zTy cI cZ cH cJ) [.ref (ma 0), .int w] sz ([(ma 0, .inr (4, [.int now, .ref (ma 1), .ref (ma 2), .ref (ma 3), .ref (ma 4), .ref (ma 5), .ref (ma 6), .ref (ma 7), .ref (ma 8), .ref (ma 9), .ref (ma 10), .ref (ma 11), .ref (ma 12), .ref (ma 13), .ref (ma 14), .ref (ma 15), .ref (ma 16), .ref (ma 17), .ref (ma 18), .ref (ma 19), .ref (ma 20), .int th]))])) (zQi dC dI 0 ([(ma 0, .inr (4, [.int now, .ref (ma 1), .ref (ma 2), .ref (ma 3), .ref (ma 4), .ref (ma 5), .ref (ma 6), .ref (ma 7), .ref (ma 8), .ref (ma 9), .ref (ma 10), .ref (ma 11), .ref (ma 12), .ref (ma 13), .ref (ma 14), .ref (ma 15), .ref (ma 16), .ref (ma 17), .ref (ma 18), .ref (ma 19), .ref (ma 20), .int 1]))]) (va_A ([(ma 0, .inr (4, [.int now, .ref (ma 1), .ref (ma 2), .ref (ma 3), .ref (ma 4), .ref (ma 5), .ref (ma 6), .ref (ma 7), .ref (ma 8), .ref (ma 9), .ref (ma 10), .ref (ma 11), .ref (ma 12), .ref (ma 13), .ref (ma 14), .ref (ma 15), .ref (ma 16), .ref (ma 17), .ref (ma 18), .ref (ma 19), .ref (ma 20), .int th]))]) sz)) 0 0 (va_A ([(ma 0, .inr (4, [.int now, .ref (ma 1), .ref (ma 2), .ref (ma 3), .ref (ma 4), .ref (ma 5), .ref (ma 6), .ref (ma 7), .ref (ma 8), .ref (ma 9), .ref (ma 10), .ref (ma 11), .ref (ma 12), .ref (ma 13), .ref (ma 14), .ref (ma 15), .ref (ma 16), .ref (ma 17), .ref (ma 18), .ref (ma 19), .ref (ma 20), .int th]))]) sz) := by
  refine Met.ofW (cc := cX4_copies) (maxL := 4) (ret := (some .int)) (by decide) rfl ?_
  intro p e s m args below meth c s₁ B hml hv0
  obtain ⟨rfl, hsz, hP, hK, hD0⟩ := hv0
  have hx := B.exec
  have hb := B.bytes
  have hr := B.returns
  have hts := atoms_spec (ws := wsX4_copies) B.pre
  have hown : s.vm.findClass RX4 = some m.cls := findClass_of_methodNamed B.named
  have hlocks := B.notSynchronized
  subst hsz
  have hD := hD0.self (sz := s.heap.size)
  generalize hAe : va_A ([(ma 0, .inr (4, [.int now, .ref (ma 1), .ref (ma 2), .ref (ma 3), .ref (ma 4), .ref (ma 5), .ref (ma 6), .ref (ma 7), .ref (ma 8), .ref (ma 9), .ref (ma 10), .ref (ma 11), .ref (ma 12), .ref (ma 13), .ref (ma 14), .ref (ma 15), .ref (ma 16), .ref (ma 17), .ref (ma 18), .ref (ma 19), .ref (ma 20), .int th]))]) s.heap.size = A at hD ⊢
  have hA : ∀ q : Nat, s.heap.size ≤ q → A q := fun q h => by rw [← hAe]; exact Or.inr h
  have hS : va_S A s.heap s.heap [] := va_S.rf
  have hl := lv_entry ([.ref (ma 0), .int w]) (n := 4) (Nat.le_of_ble_eq_true rfl)
  rw [lg_entry_eq]
  generalize (lg_sl ([.ref (ma 0), .int w]) ++ List.replicate (4 - (lg_sl ([.ref (ma 0), .int w])).length) Slot.unset).toArray = ls at hl ⊢
  have hl : lv_has ls 4 [(0, .ref (ma 0)), (1, .int w)] := hl
  refine lv_aload_n hx hb dX4_copies_0 rfl (lv_at hl 0 rfl) ?_
  refine lv_iload_n hx hb dX4_copies_1 rfl (lv_at hl 1 rfl) ?_
  refine z_cRi (va_runS (As := [.int w]) (rest := [.ref (ma 0)]) ⟨hx, hb, hml, hown, hts⟩ (kX4_isWork l w) (va_cwS 1 hts gX4_copies_X4_isWork rfl rfl rfl (by decide +kernel) ⟨Nat.le_of_ble_eq_true rfl, Nat.le_of_ble_eq_true rfl⟩) (zPre0) rfl rfl hl.1 rfl (lv_room (Nat.le_of_ble_eq_true rfl)) dX4_copies_2 ⟨Nat.le_of_ble_eq_true rfl, Nat.le_of_ble_eq_true rfl⟩) ?_
  refine z_tv (v := zin w 0 9) rfl ?_
  refine lv_if_eq (tgt := 12) hx hb dX4_copies_5 (by decide) (fun c_5 => ?_) (fun c_5 => ?_)
  · skip
    refine lv_iconst (v := 1) hx hb dX4_copies_12 (by decide) ?_
    refine z_cMi (is := [0]) (va_runV (As := [.int 1]) (rest := []) ⟨hx, hb, hml, hown, hts⟩ (kX4_goes l dC dI cI cZ cH cJ ma now th 1 s.heap.size) (cwV 1 hts gX4_copies_X4_goes rfl rfl rfl (by decide +kernel) ⟨Nat.le_of_ble_eq_true rfl, Nat.le_of_ble_eq_true rfl⟩) (zPreV (is := [0]) hK hP hD (by decide) rfl (va_recv hK hP (ci := 4) (q0 := 0) rfl rfl)) rfl rfl hl.1 rfl (lv_room (Nat.le_of_ble_eq_true rfl)) dX4_copies_13 ⟨Nat.le_of_ble_eq_true rfl, Nat.le_of_ble_eq_true rfl⟩) hP hD hS hA rfl (by decide) rfl (fun H locs hP hD hS => ?_)
    have hP : va_P (dC, dI) vwCl ([(ma 0, .inr (4, [.int now, .ref (ma 1), .ref (ma 2), .ref (ma 3), .ref (ma 4), .ref (ma 5), .ref (ma 6), .ref (ma 7), .ref (ma 8), .ref (ma 9), .ref (ma 10), .ref (ma 11), .ref (ma 12), .ref (ma 13), .ref (ma 14), .ref (ma 15), .ref (ma 16), .ref (ma 17), .ref (ma 18), .ref (ma 19), .ref (ma 20), .int 1]))]) H := hP
    have hD : va_D A ([(ma 0, .inr (4, [.int now, .ref (ma 1), .ref (ma 2), .ref (ma 3), .ref (ma 4), .ref (ma 5), .ref (ma 6), .ref (ma 7), .ref (ma 8), .ref (ma 9), .ref (ma 10), .ref (ma 11), .ref (ma 12), .ref (ma 13), .ref (ma 14), .ref (ma 15), .ref (ma 16), .ref (ma 17), .ref (ma 18), .ref (ma 19), .ref (ma 20), .int 1]))]) := hD
    refine z_tv (v := 0) (by decide) ?_
    refine lv_if_ne (tgt := 21) hx hb dX4_copies_16 (by decide) (fun c_16 => ?_) (fun c_16 => ?_)
    · exact absurd c_16 (by decide)
    · skip
      refine lv_iconst (v := 0) hx hb dX4_copies_19 (by decide) ?_
      exact W.iret hx hb hr (fun t ht hW => ⟨rfl, ⟨by rw [ht]; exact hP, hD⟩, hS.F ht⟩) hS.2.2 dX4_copies_20
  · exact absurd c_5 (fun q => hv (zin_n1 q))
set_option maxHeartbeats 4000000 in
set_option maxRecDepth 100000 in
/-- Model.best_ok -/
theorem kX4_best_ok (l : Launch) (dC : Nat → ClassId) (dI : Nat → Nat → Nat) (cI cZ cH cJ : ClassId) (ma : Nat → Nat) (now : Int32) (th : Int32) (uH : zI) (xW : zI) (xS : zI) (w : Int32) (hw1 : zin w 0 9 = 1) (sz : Nat) : Met l yX4_best wsX4_best ({ frames := 2, cells := 0, slots := 0, locals := 42 }) (zPc dC dI (zTy cI cZ cH cJ) [.ref (ma 0), .int w] sz ([(ma 0, .inr (4, [.int now, .ref (ma 1), .ref (ma 2), .ref (ma 3), .ref (ma 4), .ref (ma 5), .ref (ma 6), .ref (ma 7), .ref (ma 8), .ref (ma 9), .ref (ma 10), .ref (ma 11), .ref (ma 12), .ref (ma 13), .ref (ma 14), .ref (ma 15), .ref (ma 16), .ref (ma 17), .ref (ma 18), .ref (ma 19), .ref (ma 20), .int th])), (ma 16, .inl (cZ, 80, .inl uH)), (ma 17, .inl (cI, 80, .inl xW)), (ma 19, .inl (cI, 80, .inl xS))])) (zQi dC dI (ybres (ybst uH xW xS w 80)) ([(ma 0, .inr (4, [.int now, .ref (ma 1), .ref (ma 2), .ref (ma 3), .ref (ma 4), .ref (ma 5), .ref (ma 6), .ref (ma 7), .ref (ma 8), .ref (ma 9), .ref (ma 10), .ref (ma 11), .ref (ma 12), .ref (ma 13), .ref (ma 14), .ref (ma 15), .ref (ma 16), .ref (ma 17), .ref (ma 18), .ref (ma 19), .ref (ma 20), .int 0])), (ma 16, .inl (cZ, 80, .inl uH)), (ma 17, .inl (cI, 80, .inl xW)), (ma 19, .inl (cI, 80, .inl xS))]) (va_A ([(ma 0, .inr (4, [.int now, .ref (ma 1), .ref (ma 2), .ref (ma 3), .ref (ma 4), .ref (ma 5), .ref (ma 6), .ref (ma 7), .ref (ma 8), .ref (ma 9), .ref (ma 10), .ref (ma 11), .ref (ma 12), .ref (ma 13), .ref (ma 14), .ref (ma 15), .ref (ma 16), .ref (ma 17), .ref (ma 18), .ref (ma 19), .ref (ma 20), .int th])), (ma 16, .inl (cZ, 80, .inl uH)), (ma 17, .inl (cI, 80, .inl xW)), (ma 19, .inl (cI, 80, .inl xS))]) sz)) 0 0 (va_A ([(ma 0, .inr (4, [.int now, .ref (ma 1), .ref (ma 2), .ref (ma 3), .ref (ma 4), .ref (ma 5), .ref (ma 6), .ref (ma 7), .ref (ma 8), .ref (ma 9), .ref (ma 10), .ref (ma 11), .ref (ma 12), .ref (ma 13), .ref (ma 14), .ref (ma 15), .ref (ma 16), .ref (ma 17), .ref (ma 18), .ref (ma 19), .ref (ma 20), .int th])), (ma 16, .inl (cZ, 80, .inl uH)), (ma 17, .inl (cI, 80, .inl xW)), (ma 19, .inl (cI, 80, .inl xS))]) sz) := by
  refine Met.ofW (cc := cX4_best) (maxL := 5) (ret := (some .int)) (by decide) rfl ?_
  intro p e s m args below meth c s₁ B hml hv0
  obtain ⟨rfl, hsz, hP, hK, hD0⟩ := hv0
  have hx := B.exec
  have hb := B.bytes
  have hr := B.returns
  have hts := atoms_spec (ws := wsX4_best) B.pre
  have hown : s.vm.findClass RX4 = some m.cls := findClass_of_methodNamed B.named
  have hlocks := B.notSynchronized
  subst hsz
  have hD := hD0.self (sz := s.heap.size)
  generalize hAe : va_A ([(ma 0, .inr (4, [.int now, .ref (ma 1), .ref (ma 2), .ref (ma 3), .ref (ma 4), .ref (ma 5), .ref (ma 6), .ref (ma 7), .ref (ma 8), .ref (ma 9), .ref (ma 10), .ref (ma 11), .ref (ma 12), .ref (ma 13), .ref (ma 14), .ref (ma 15), .ref (ma 16), .ref (ma 17), .ref (ma 18), .ref (ma 19), .ref (ma 20), .int th])), (ma 16, .inl (cZ, 80, .inl uH)), (ma 17, .inl (cI, 80, .inl xW)), (ma 19, .inl (cI, 80, .inl xS))]) s.heap.size = A at hD ⊢
  have hA : ∀ q : Nat, s.heap.size ≤ q → A q := fun q h => by rw [← hAe]; exact Or.inr h
  have hS : va_S A s.heap s.heap [] := va_S.rf
  have hl := lv_entry ([.ref (ma 0), .int w]) (n := 5) (Nat.le_of_ble_eq_true rfl)
  rw [lg_entry_eq]
  generalize (lg_sl ([.ref (ma 0), .int w]) ++ List.replicate (5 - (lg_sl ([.ref (ma 0), .int w])).length) Slot.unset).toArray = ls at hl ⊢
  have hl : lv_has ls 5 [(0, .ref (ma 0)), (1, .int w)] := hl
  have hiX4 : ∀ w ∈ wsX40, w ∈ wsX4_best := by decide +kernel
  have l56 := hts (.fieldLink RX4 56 "CatalogueHarvesterModel" "isHeld" "[Z") (by decide +kernel)
  have l59 := hts (.fieldLink RX4 59 "CatalogueHarvesterModel" "heldWorks" "[I") (by decide +kernel)
  have l65 := hts (.fieldLink RX4 65 "CatalogueHarvesterModel" "heldStamps" "[I") (by decide +kernel)
  refine lv_aload_n hx hb dX4_best_0 rfl (lv_at hl 0 rfl) ?_
  refine lv_iload_n hx hb dX4_best_1 rfl (lv_at hl 1 rfl) ?_
  refine z_cRi (va_runS (As := [.int w]) (rest := [.ref (ma 0)]) ⟨hx, hb, hml, hown, hts⟩ (kX4_isWork l w) (va_cwS 1 hts gX4_best_X4_isWork rfl rfl rfl (by decide +kernel) ⟨Nat.le_of_ble_eq_true rfl, Nat.le_of_ble_eq_true rfl⟩) (zPre0) rfl rfl hl.1 rfl (lv_room (Nat.le_of_ble_eq_true rfl)) dX4_best_2 ⟨Nat.le_of_ble_eq_true rfl, Nat.le_of_ble_eq_true rfl⟩) ?_
  refine z_tv (v := 1) (hw1) ?_
  refine lv_if_eq (tgt := 12) hx hb dX4_best_5 (by decide) (fun c_5 => ?_) (fun c_5 => ?_)
  · exact absurd c_5 (by decide)
  · skip
    refine lv_iconst (v := 0) hx hb dX4_best_8 (by decide) ?_
    refine lv_goto (tgt := 13) hx hb dX4_best_9 (by decide) ?_
    refine z_cMi (is := [0]) (va_runV (As := [.int 0]) (rest := []) ⟨hx, hb, hml, hown, hts⟩ (kX4_goes l dC dI cI cZ cH cJ ma now th 0 s.heap.size) (cwV 1 hts gX4_best_X4_goes rfl rfl rfl (by decide +kernel) ⟨Nat.le_of_ble_eq_true rfl, Nat.le_of_ble_eq_true rfl⟩) (zPreV (is := [0]) hK hP hD (by decide) rfl (va_recv hK hP (ci := 4) (q0 := 0) rfl rfl)) rfl rfl hl.1 rfl (lv_room (Nat.le_of_ble_eq_true rfl)) dX4_best_13 ⟨Nat.le_of_ble_eq_true rfl, Nat.le_of_ble_eq_true rfl⟩) hP hD hS hA rfl (by decide) rfl (fun H locs hP hD hS => ?_)
    have hP : va_P (dC, dI) vwCl ([(ma 0, .inr (4, [.int now, .ref (ma 1), .ref (ma 2), .ref (ma 3), .ref (ma 4), .ref (ma 5), .ref (ma 6), .ref (ma 7), .ref (ma 8), .ref (ma 9), .ref (ma 10), .ref (ma 11), .ref (ma 12), .ref (ma 13), .ref (ma 14), .ref (ma 15), .ref (ma 16), .ref (ma 17), .ref (ma 18), .ref (ma 19), .ref (ma 20), .int 0])), (ma 16, .inl (cZ, 80, .inl uH)), (ma 17, .inl (cI, 80, .inl xW)), (ma 19, .inl (cI, 80, .inl xS))]) H := hP
    have hD : va_D A ([(ma 0, .inr (4, [.int now, .ref (ma 1), .ref (ma 2), .ref (ma 3), .ref (ma 4), .ref (ma 5), .ref (ma 6), .ref (ma 7), .ref (ma 8), .ref (ma 9), .ref (ma 10), .ref (ma 11), .ref (ma 12), .ref (ma 13), .ref (ma 14), .ref (ma 15), .ref (ma 16), .ref (ma 17), .ref (ma 18), .ref (ma 19), .ref (ma 20), .int 0])), (ma 16, .inl (cZ, 80, .inl uH)), (ma 17, .inl (cI, 80, .inl xW)), (ma 19, .inl (cI, 80, .inl xS))]) := hD
    refine z_tv (v := 1) (by decide) ?_
    refine lv_if_ne (tgt := 21) hx hb dX4_best_16 (by decide) (fun c_16 => ?_) (fun c_16 => ?_)
    · skip
      refine lv_iconst (v := (-1)) hx hb dX4_best_21 (by decide) ?_
      refine lv_istore_n (lv' := [(2, .int (-1)), (0, .ref (ma 0)), (1, .int w)]) hx hb dX4_best_22 rfl hl (by decide) rfl (fun ls hl => ?_)
      refine lv_iconst (v := 0) hx hb dX4_best_23 (by decide) ?_
      refine lv_istore_n (lv' := [(3, .int 0), (2, .int (-1)), (0, .ref (ma 0)), (1, .int w)]) hx hb dX4_best_24 rfl hl (by decide) rfl (fun ls hl => ?_)
      have LOOP1 : ∀ (n i : Nat), i ≤ 80 → 80 < i + n → ∀ (ls : Array Slot), lv_has ls 5 [(0, .ref (ma 0)), (1, .int w), (2, .int (ybst uH xW xS w i)), (3, .int (nI i))] → W p l e (headSpec wsX4_best ({ frames := 2, cells := 0, slots := 0, locals := 42 })).room s m ([.ref (ma 0), .int w] : List Value).toArray below meth c H locs 0 0 (MQ below (zQi dC dI (ybres (ybst uH xW xS w 80)) ([(ma 0, .inr (4, [.int now, .ref (ma 1), .ref (ma 2), .ref (ma 3), .ref (ma 4), .ref (ma 5), .ref (ma 6), .ref (ma 7), .ref (ma 8), .ref (ma 9), .ref (ma 10), .ref (ma 11), .ref (ma 12), .ref (ma 13), .ref (ma 14), .ref (ma 15), .ref (ma 16), .ref (ma 17), .ref (ma 18), .ref (ma 19), .ref (ma 20), .int 0])), (ma 16, .inl (cZ, 80, .inl uH)), (ma 17, .inl (cI, 80, .inl xW)), (ma 19, .inl (cI, 80, .inl xS))]) A) ([.ref (ma 0), .int w] : List Value).toArray s 0 0 A) (F0 m 25 ls []) := by
        intro n
        induction n with
        | zero => intro i h1 h2; exact absurd h2 (by omega)
        | succ n ih =>
          intro i hi hin   ls hl
          refine lv_iload_n hx hb dX4_best_25 rfl (lv_at hl 3 rfl) ?_
          refine lv_bipush (v := 80) hx hb dX4_best_26 (by decide) ?_
          refine lv_icmp_ge (tgt := 94) hx hb dX4_best_28 (by decide) (fun c_28 => ?_) (fun c_28 => ?_)
          · skip
            have e20 : i = 80 := z_ge (n := 80) hi (by decide) c_28
            subst e20
            refine lv_iload_n hx hb dX4_best_94 rfl (lv_at hl 2 rfl) ?_
            refine lv_iconst (v := (-1)) hx hb dX4_best_95 (by decide) ?_
            refine lv_icmp_ne (tgt := 103) hx hb dX4_best_96 (by decide) (fun c_96 => ?_) (fun c_96 => ?_)
            · skip
              refine lv_bipush (v := 100) hx hb dX4_best_103 (by decide) ?_
              refine lv_iload_n hx hb dX4_best_105 rfl (lv_at hl 2 rfl) ?_
              refine lv_bipush (v := 20) hx hb dX4_best_106 (by decide) ?_
              refine lv_idiv hx hb dX4_best_108 (by decide) ?_
              refine lv_imul hx hb dX4_best_109 ?_
              refine lv_iload_n hx hb dX4_best_110 rfl (lv_at hl 2 rfl) ?_
              refine lv_bipush (v := 20) hx hb dX4_best_111 (by decide) ?_
              refine lv_irem hx hb dX4_best_113 (by decide) ?_
              refine lv_iadd hx hb dX4_best_114 ?_
              refine z_tv (v := ybres (ybst uH xW xS w 80)) (by simp [ybres, c_96]) ?_
              exact W.iret hx hb hr (fun t ht hW => ⟨rfl, ⟨by rw [ht]; exact hP, hD⟩, hS.F ht⟩) hS.2.2 dX4_best_115
            · skip
              refine lv_iconst (v := (-1)) hx hb dX4_best_99 (by decide) ?_
              refine lv_goto (tgt := 115) hx hb dX4_best_100 (by decide) ?_
              refine z_tv (v := ybres (ybst uH xW xS w 80)) (by simp [ybres, c_96]) ?_
              exact W.iret hx hb hr (fun t ht hW => ⟨rfl, ⟨by rw [ht]; exact hP, hD⟩, hS.F ht⟩) hS.2.2 dX4_best_115
          · skip
            have hlt : i < 80 := z_lt (n := 80) hi (by decide) c_28
            have J55_2 : ∀ (ls : Array Slot), lv_has ls 5 [(0, .ref (ma 0)), (1, .int w), (2, .int (ybst uH xW xS w i)), (3, .int (nI i))] → W p l e (headSpec wsX4_best ({ frames := 2, cells := 0, slots := 0, locals := 42 })).room s m ([.ref (ma 0), .int w] : List Value).toArray below meth c H locs 0 0 (MQ below (zQi dC dI (ybres (ybst uH xW xS w 80)) ([(ma 0, .inr (4, [.int now, .ref (ma 1), .ref (ma 2), .ref (ma 3), .ref (ma 4), .ref (ma 5), .ref (ma 6), .ref (ma 7), .ref (ma 8), .ref (ma 9), .ref (ma 10), .ref (ma 11), .ref (ma 12), .ref (ma 13), .ref (ma 14), .ref (ma 15), .ref (ma 16), .ref (ma 17), .ref (ma 18), .ref (ma 19), .ref (ma 20), .int 0])), (ma 16, .inl (cZ, 80, .inl uH)), (ma 17, .inl (cI, 80, .inl xW)), (ma 19, .inl (cI, 80, .inl xS))]) A) ([.ref (ma 0), .int w] : List Value).toArray s 0 0 A) (F0 m 55 ls [.int (if ¬ uH i = 0 ∧ xW i = w then (1 : Int32) else 0)]) := by
              intro ls hl
              refine lv_istore (lv' := [(4, .int (if ¬ uH i = 0 ∧ xW i = w then (1 : Int32) else 0)), (0, .ref (ma 0)), (1, .int w), (2, .int (ybst uH xW xS w i)), (3, .int (nI i))]) hx hb dX4_best_55 hl (by decide) rfl (fun ls hl => ?_)
              have J87_3 : ∀ (ls : Array Slot), lv_has ls 5 [(4, .int (if ¬ uH i = 0 ∧ xW i = w then (1 : Int32) else 0)), (0, .ref (ma 0)), (1, .int w), (2, .int (ybst uH xW xS w i)), (3, .int (nI i))] → W p l e (headSpec wsX4_best ({ frames := 2, cells := 0, slots := 0, locals := 42 })).room s m ([.ref (ma 0), .int w] : List Value).toArray below meth c H locs 0 0 (MQ below (zQi dC dI (ybres (ybst uH xW xS w 80)) ([(ma 0, .inr (4, [.int now, .ref (ma 1), .ref (ma 2), .ref (ma 3), .ref (ma 4), .ref (ma 5), .ref (ma 6), .ref (ma 7), .ref (ma 8), .ref (ma 9), .ref (ma 10), .ref (ma 11), .ref (ma 12), .ref (ma 13), .ref (ma 14), .ref (ma 15), .ref (ma 16), .ref (ma 17), .ref (ma 18), .ref (ma 19), .ref (ma 20), .int 0])), (ma 16, .inl (cZ, 80, .inl uH)), (ma 17, .inl (cI, 80, .inl xW)), (ma 19, .inl (cI, 80, .inl xS))]) A) ([.ref (ma 0), .int w] : List Value).toArray s 0 0 A) (F0 m 87 ls [.int (ybst uH xW xS w (i + 1))]) := by
                intro ls hl
                refine lv_istore_n (lv' := [(2, .int (ybst uH xW xS w (i + 1))), (4, .int (if ¬ uH i = 0 ∧ xW i = w then (1 : Int32) else 0)), (0, .ref (ma 0)), (1, .int w), (3, .int (nI i))]) hx hb dX4_best_87 rfl hl (by decide) rfl (fun ls hl => ?_)
                refine lv_iinc (v := nI (i + 1)) (lv' := [(3, .int (nI (i + 1))), (2, .int (ybst uH xW xS w (i + 1))), (4, .int (if ¬ uH i = 0 ∧ xW i = w then (1 : Int32) else 0)), (0, .ref (ma 0)), (1, .int w)]) hx hb dX4_best_88 hl (k := 4) rfl (z_1) (by decide) rfl (fun ls hl => ?_)
                refine lv_goto (tgt := 25) hx hb dX4_best_91 (by decide) ?_
                exact ih (i + 1) (by omega) (by omega)  _ (lv_sub hl [3, 4, 1, 0] rfl)
              refine lv_iload hx hb dX4_best_57 (lv_at hl 0 rfl) ?_
              refine lv_if_eq (tgt := 86) hx hb dX4_best_59 (by decide) (fun c_59 => ?_) (fun c_59 => ?_)
              · skip
                refine lv_iload_n hx hb dX4_best_86 rfl (lv_at hl 3 rfl) ?_
                refine z_tv (v := ybst uH xW xS w (i + 1)) (by rw [ybst]; grind) ?_
                exact J87_3 _ (lv_sub hl [0, 1, 2, 3, 4] rfl)
              · skip
                refine lv_iload_n hx hb dX4_best_62 rfl (lv_at hl 3 rfl) ?_
                refine lv_iconst (v := (-1)) hx hb dX4_best_63 (by decide) ?_
                refine lv_icmp_eq (tgt := 82) hx hb dX4_best_64 (by decide) (fun c_64 => ?_) (fun c_64 => ?_)
                · skip
                  refine lv_iload_n hx hb dX4_best_82 rfl (lv_at hl 4 rfl) ?_
                  refine lv_goto (tgt := 87) hx hb dX4_best_83 (by decide) ?_
                  refine z_tv (v := ybst uH xW xS w (i + 1)) (by rw [ybst]; grind) ?_
                  exact J87_3 _ (lv_sub hl [0, 1, 2, 3, 4] rfl)
                · skip
                  refine lv_aload_n hx hb dX4_best_67 rfl (lv_at hl 1 rfl) ?_
                  refine va_get (D := (dC, dI)) (ci := 4) (v := .ref (ma 19)) (C := RX4) (T := TX4) (N := 22) hx hb hts hiX4 hown hK hP 0 rfl rfl 19 (by decide) l65 (fun _ h9 => h9) rfl dX4_best_68 ?_
                  refine lv_iload_n hx hb dX4_best_71 rfl (lv_at hl 4 rfl) ?_
                  refine z_iald hx hb hK hP 3 rfl (zix_nI (by first | assumption | omega) (by decide)) dX4_best_72 ?_
                  refine z_tv (v := xS i) (rfl) ?_
                  refine lv_aload_n hx hb dX4_best_73 rfl (lv_at hl 1 rfl) ?_
                  refine va_get (D := (dC, dI)) (ci := 4) (v := .ref (ma 19)) (C := RX4) (T := TX4) (N := 22) hx hb hts hiX4 hown hK hP 0 rfl rfl 19 (by decide) l65 (fun _ h9 => h9) rfl dX4_best_74 ?_
                  refine lv_iload_n hx hb dX4_best_77 rfl (lv_at hl 3 rfl) ?_
                  refine z_iald hx hb hK hP 3 rfl (ybst_ix c_64 (by omega)) dX4_best_78 ?_
                  refine z_tv (v := xS ((ybst uH xW xS w i).toNatClampNeg)) (rfl) ?_
                  refine lv_icmp_le (tgt := 86) hx hb dX4_best_79 (by decide) (fun c_79 => ?_) (fun c_79 => ?_)
                  · skip
                    refine lv_iload_n hx hb dX4_best_86 rfl (lv_at hl 3 rfl) ?_
                    refine z_tv (v := ybst uH xW xS w (i + 1)) (by rw [ybst]; grind) ?_
                    exact J87_3 _ (lv_sub hl [0, 1, 2, 3, 4] rfl)
                  · skip
                    refine lv_iload_n hx hb dX4_best_82 rfl (lv_at hl 4 rfl) ?_
                    refine lv_goto (tgt := 87) hx hb dX4_best_83 (by decide) ?_
                    refine z_tv (v := ybst uH xW xS w (i + 1)) (by rw [ybst]; grind) ?_
                    exact J87_3 _ (lv_sub hl [0, 1, 2, 3, 4] rfl)
            refine lv_aload_n hx hb dX4_best_31 rfl (lv_at hl 0 rfl) ?_
            refine va_get (D := (dC, dI)) (ci := 4) (v := .ref (ma 16)) (C := RX4) (T := TX4) (N := 22) hx hb hts hiX4 hown hK hP 0 rfl rfl 16 (by decide) l56 (fun _ h9 => h9) rfl dX4_best_32 ?_
            refine lv_iload_n hx hb dX4_best_35 rfl (lv_at hl 3 rfl) ?_
            refine z_zald hx hb hK hP 1 rfl (zix_nI (by first | assumption | omega) (by decide)) dX4_best_36 ?_
            refine z_tv (v := uH i) (rfl) ?_
            refine lv_if_eq (tgt := 54) hx hb dX4_best_37 (by decide) (fun c_37 => ?_) (fun c_37 => ?_)
            · skip
              refine lv_iconst (v := 0) hx hb dX4_best_54 (by decide) ?_
              refine z_tv (v := if ¬ uH i = 0 ∧ xW i = w then (1 : Int32) else 0) (by grind) ?_
              exact J55_2 _ (lv_sub hl [0, 1, 2, 3] rfl)
            · skip
              refine lv_aload_n hx hb dX4_best_40 rfl (lv_at hl 0 rfl) ?_
              refine va_get (D := (dC, dI)) (ci := 4) (v := .ref (ma 17)) (C := RX4) (T := TX4) (N := 22) hx hb hts hiX4 hown hK hP 0 rfl rfl 17 (by decide) l59 (fun _ h9 => h9) rfl dX4_best_41 ?_
              refine lv_iload_n hx hb dX4_best_44 rfl (lv_at hl 3 rfl) ?_
              refine z_iald hx hb hK hP 2 rfl (zix_nI (by first | assumption | omega) (by decide)) dX4_best_45 ?_
              refine z_tv (v := xW i) (rfl) ?_
              refine lv_iload_n hx hb dX4_best_46 rfl (lv_at hl 1 rfl) ?_
              refine lv_icmp_ne (tgt := 54) hx hb dX4_best_47 (by decide) (fun c_47 => ?_) (fun c_47 => ?_)
              · skip
                refine lv_iconst (v := 0) hx hb dX4_best_54 (by decide) ?_
                refine z_tv (v := if ¬ uH i = 0 ∧ xW i = w then (1 : Int32) else 0) (by grind) ?_
                exact J55_2 _ (lv_sub hl [0, 1, 2, 3] rfl)
              · skip
                refine lv_iconst (v := 1) hx hb dX4_best_50 (by decide) ?_
                refine lv_goto (tgt := 55) hx hb dX4_best_51 (by decide) ?_
                refine z_tv (v := if ¬ uH i = 0 ∧ xW i = w then (1 : Int32) else 0) (by grind) ?_
                exact J55_2 _ (lv_sub hl [0, 1, 2, 3] rfl)
      exact LOOP1 (80 + 1) 0 (by omega) (by omega)  _ (lv_cg (lv_sub (l' := [(0, .ref (ma 0)), (1, .int w), (2, .int (-1)), (3, .int 0)]) hl [2, 3, 1, 0] rfl) (zl_k (zl_k (zl_c (rfl) (zl_c (rfl) (rfl))))))
    · exact absurd c_16 (by decide)
set_option maxHeartbeats 4000000 in
set_option maxRecDepth 100000 in
/-- Model.best_bad -/
theorem kX4_best_bad (l : Launch) (dC : Nat → ClassId) (dI : Nat → Nat → Nat) (cI cZ cH cJ : ClassId) (ma : Nat → Nat) (now : Int32) (th : Int32) (w : Int32) (hv : ¬ zin w 0 9 = 1) (sz : Nat) : Met l yX4_best wsX4_best ({ frames := 2, cells := 0, slots := 0, locals := 42 }) (zPc dC dI (zTy cI cZ cH cJ) [.ref (ma 0), .int w] sz ([(ma 0, .inr (4, [.int now, .ref (ma 1), .ref (ma 2), .ref (ma 3), .ref (ma 4), .ref (ma 5), .ref (ma 6), .ref (ma 7), .ref (ma 8), .ref (ma 9), .ref (ma 10), .ref (ma 11), .ref (ma 12), .ref (ma 13), .ref (ma 14), .ref (ma 15), .ref (ma 16), .ref (ma 17), .ref (ma 18), .ref (ma 19), .ref (ma 20), .int th]))])) (zQi dC dI 0 ([(ma 0, .inr (4, [.int now, .ref (ma 1), .ref (ma 2), .ref (ma 3), .ref (ma 4), .ref (ma 5), .ref (ma 6), .ref (ma 7), .ref (ma 8), .ref (ma 9), .ref (ma 10), .ref (ma 11), .ref (ma 12), .ref (ma 13), .ref (ma 14), .ref (ma 15), .ref (ma 16), .ref (ma 17), .ref (ma 18), .ref (ma 19), .ref (ma 20), .int 1]))]) (va_A ([(ma 0, .inr (4, [.int now, .ref (ma 1), .ref (ma 2), .ref (ma 3), .ref (ma 4), .ref (ma 5), .ref (ma 6), .ref (ma 7), .ref (ma 8), .ref (ma 9), .ref (ma 10), .ref (ma 11), .ref (ma 12), .ref (ma 13), .ref (ma 14), .ref (ma 15), .ref (ma 16), .ref (ma 17), .ref (ma 18), .ref (ma 19), .ref (ma 20), .int th]))]) sz)) 0 0 (va_A ([(ma 0, .inr (4, [.int now, .ref (ma 1), .ref (ma 2), .ref (ma 3), .ref (ma 4), .ref (ma 5), .ref (ma 6), .ref (ma 7), .ref (ma 8), .ref (ma 9), .ref (ma 10), .ref (ma 11), .ref (ma 12), .ref (ma 13), .ref (ma 14), .ref (ma 15), .ref (ma 16), .ref (ma 17), .ref (ma 18), .ref (ma 19), .ref (ma 20), .int th]))]) sz) := by
  refine Met.ofW (cc := cX4_best) (maxL := 5) (ret := (some .int)) (by decide) rfl ?_
  intro p e s m args below meth c s₁ B hml hv0
  obtain ⟨rfl, hsz, hP, hK, hD0⟩ := hv0
  have hx := B.exec
  have hb := B.bytes
  have hr := B.returns
  have hts := atoms_spec (ws := wsX4_best) B.pre
  have hown : s.vm.findClass RX4 = some m.cls := findClass_of_methodNamed B.named
  have hlocks := B.notSynchronized
  subst hsz
  have hD := hD0.self (sz := s.heap.size)
  generalize hAe : va_A ([(ma 0, .inr (4, [.int now, .ref (ma 1), .ref (ma 2), .ref (ma 3), .ref (ma 4), .ref (ma 5), .ref (ma 6), .ref (ma 7), .ref (ma 8), .ref (ma 9), .ref (ma 10), .ref (ma 11), .ref (ma 12), .ref (ma 13), .ref (ma 14), .ref (ma 15), .ref (ma 16), .ref (ma 17), .ref (ma 18), .ref (ma 19), .ref (ma 20), .int th]))]) s.heap.size = A at hD ⊢
  have hA : ∀ q : Nat, s.heap.size ≤ q → A q := fun q h => by rw [← hAe]; exact Or.inr h
  have hS : va_S A s.heap s.heap [] := va_S.rf
  have hl := lv_entry ([.ref (ma 0), .int w]) (n := 5) (Nat.le_of_ble_eq_true rfl)
  rw [lg_entry_eq]
  generalize (lg_sl ([.ref (ma 0), .int w]) ++ List.replicate (5 - (lg_sl ([.ref (ma 0), .int w])).length) Slot.unset).toArray = ls at hl ⊢
  have hl : lv_has ls 5 [(0, .ref (ma 0)), (1, .int w)] := hl
  refine lv_aload_n hx hb dX4_best_0 rfl (lv_at hl 0 rfl) ?_
  refine lv_iload_n hx hb dX4_best_1 rfl (lv_at hl 1 rfl) ?_
  refine z_cRi (va_runS (As := [.int w]) (rest := [.ref (ma 0)]) ⟨hx, hb, hml, hown, hts⟩ (kX4_isWork l w) (va_cwS 1 hts gX4_best_X4_isWork rfl rfl rfl (by decide +kernel) ⟨Nat.le_of_ble_eq_true rfl, Nat.le_of_ble_eq_true rfl⟩) (zPre0) rfl rfl hl.1 rfl (lv_room (Nat.le_of_ble_eq_true rfl)) dX4_best_2 ⟨Nat.le_of_ble_eq_true rfl, Nat.le_of_ble_eq_true rfl⟩) ?_
  refine z_tv (v := zin w 0 9) rfl ?_
  refine lv_if_eq (tgt := 12) hx hb dX4_best_5 (by decide) (fun c_5 => ?_) (fun c_5 => ?_)
  · skip
    refine lv_iconst (v := 1) hx hb dX4_best_12 (by decide) ?_
    refine z_cMi (is := [0]) (va_runV (As := [.int 1]) (rest := []) ⟨hx, hb, hml, hown, hts⟩ (kX4_goes l dC dI cI cZ cH cJ ma now th 1 s.heap.size) (cwV 1 hts gX4_best_X4_goes rfl rfl rfl (by decide +kernel) ⟨Nat.le_of_ble_eq_true rfl, Nat.le_of_ble_eq_true rfl⟩) (zPreV (is := [0]) hK hP hD (by decide) rfl (va_recv hK hP (ci := 4) (q0 := 0) rfl rfl)) rfl rfl hl.1 rfl (lv_room (Nat.le_of_ble_eq_true rfl)) dX4_best_13 ⟨Nat.le_of_ble_eq_true rfl, Nat.le_of_ble_eq_true rfl⟩) hP hD hS hA rfl (by decide) rfl (fun H locs hP hD hS => ?_)
    have hP : va_P (dC, dI) vwCl ([(ma 0, .inr (4, [.int now, .ref (ma 1), .ref (ma 2), .ref (ma 3), .ref (ma 4), .ref (ma 5), .ref (ma 6), .ref (ma 7), .ref (ma 8), .ref (ma 9), .ref (ma 10), .ref (ma 11), .ref (ma 12), .ref (ma 13), .ref (ma 14), .ref (ma 15), .ref (ma 16), .ref (ma 17), .ref (ma 18), .ref (ma 19), .ref (ma 20), .int 1]))]) H := hP
    have hD : va_D A ([(ma 0, .inr (4, [.int now, .ref (ma 1), .ref (ma 2), .ref (ma 3), .ref (ma 4), .ref (ma 5), .ref (ma 6), .ref (ma 7), .ref (ma 8), .ref (ma 9), .ref (ma 10), .ref (ma 11), .ref (ma 12), .ref (ma 13), .ref (ma 14), .ref (ma 15), .ref (ma 16), .ref (ma 17), .ref (ma 18), .ref (ma 19), .ref (ma 20), .int 1]))]) := hD
    refine z_tv (v := 0) (by decide) ?_
    refine lv_if_ne (tgt := 21) hx hb dX4_best_16 (by decide) (fun c_16 => ?_) (fun c_16 => ?_)
    · exact absurd c_16 (by decide)
    · skip
      refine lv_iconst (v := 0) hx hb dX4_best_19 (by decide) ?_
      exact W.iret hx hb hr (fun t ht hW => ⟨rfl, ⟨by rw [ht]; exact hP, hD⟩, hS.F ht⟩) hS.2.2 dX4_best_20
  · exact absurd c_5 (fun q => hv (zin_n1 q))
