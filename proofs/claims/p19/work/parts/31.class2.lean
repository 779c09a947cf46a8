set_option maxHeartbeats 4000000 in
set_option maxRecDepth 100000 in
/-- pass -/
theorem kX3_pass_ok (l : Launch) (dC : Nat → ClassId) (dI : Nat → Nat → Nat) (cI cZ cH cJ : ClassId) (x0 : Nat) (xq : Nat) (now : Int32) (xg : Nat → Option Nat) (had : Nat → Nat → Nat) (hg : ∀ i, i < 4 → xg i = some (had i 0)) (mk0 : Int32) (ho0 : Int32) (fl0 : Int32) (od0 : Int32) (td0 : Int32) (ps0 : Int32) (pr0 : Int32) (un0 : Int32) (de0 : Int32) (iT0 : zI) (rD0 : zI) (mk1 : Int32) (ho1 : Int32) (fl1 : Int32) (od1 : Int32) (td1 : Int32) (ps1 : Int32) (pr1 : Int32) (un1 : Int32) (de1 : Int32) (iT1 : zI) (rD1 : zI) (mk2 : Int32) (ho2 : Int32) (fl2 : Int32) (od2 : Int32) (td2 : Int32) (ps2 : Int32) (pr2 : Int32) (un2 : Int32) (de2 : Int32) (iT2 : zI) (rD2 : zI) (mk3 : Int32) (ho3 : Int32) (fl3 : Int32) (od3 : Int32) (td3 : Int32) (ps3 : Int32) (pr3 : Int32) (un3 : Int32) (de3 : Int32) (iT3 : zI) (rD3 : zI) (d : Int32) (hd1 : zin d 1 100 = 1) (hle : now + d ≤ 5000) (sz : Nat) : Met l yX3_pass wsX3_pass ({ frames := 1, cells := 0, slots := 0, locals := 23 }) (zPc dC dI (zTy cI cZ cH cJ) [.ref x0, .int d] sz ([(x0, .inr (3, [.ref xq, .int now])), (xq, .inl (cH, 4, .inr (.inr (.inr (.inr xg))))), (had 0 0, .inr (1, [.ref (had 0 1), .ref (had 0 2), .int mk0, .int ho0, .int fl0, .int od0, .int td0, .int ps0, .int pr0, .ref (had 0 3)])), (had 0 1, .inr (0, [.ref (had 0 4), .ref (had 0 5), .ref (had 0 6), .ref (had 0 7), .int un0, .int de0])), (had 0 5, .inl (cZ, 20, .inl iT0)), (had 0 7, .inl (cI, 20, .inl rD0)), (had 1 0, .inr (1, [.ref (had 1 1), .ref (had 1 2), .int mk1, .int ho1, .int fl1, .int od1, .int td1, .int ps1, .int pr1, .ref (had 1 3)])), (had 1 1, .inr (0, [.ref (had 1 4), .ref (had 1 5), .ref (had 1 6), .ref (had 1 7), .int un1, .int de1])), (had 1 5, .inl (cZ, 20, .inl iT1)), (had 1 7, .inl (cI, 20, .inl rD1)), (had 2 0, .inr (1, [.ref (had 2 1), .ref (had 2 2), .int mk2, .int ho2, .int fl2, .int od2, .int td2, .int ps2, .int pr2, .ref (had 2 3)])), (had 2 1, .inr (0, [.ref (had 2 4), .ref (had 2 5), .ref (had 2 6), .ref (had 2 7), .int un2, .int de2])), (had 2 5, .inl (cZ, 20, .inl iT2)), (had 2 7, .inl (cI, 20, .inl rD2)), (had 3 0, .inr (1, [.ref (had 3 1), .ref (had 3 2), .int mk3, .int ho3, .int fl3, .int od3, .int td3, .int ps3, .int pr3, .ref (had 3 3)])), (had 3 1, .inr (0, [.ref (had 3 4), .ref (had 3 5), .ref (had 3 6), .ref (had 3 7), .int un3, .int de3])), (had 3 5, .inl (cZ, 20, .inl iT3)), (had 3 7, .inl (cI, 20, .inl rD3))])) (zQi dC dI (now + d) ([(x0, .inr (3, [.ref xq, .int (now + d)])), (xq, .inl (cH, 4, .inr (.inr (.inr (.inr xg))))), (had 0 0, .inr (1, [.ref (had 0 1), .ref (had 0 2), .int mk0, .int ho0, .int fl0, .int od0, .int td0, .int ps0, .int pr0, .ref (had 0 3)])), (had 0 1, .inr (0, [.ref (had 0 4), .ref (had 0 5), .ref (had 0 6), .ref (had 0 7), .int un0, .int de0])), (had 0 5, .inl (cZ, 20, .inl (zfg iT0 rD0 de0 (now + d) 20))), (had 0 7, .inl (cI, 20, .inl rD0)), (had 1 0, .inr (1, [.ref (had 1 1), .ref (had 1 2), .int mk1, .int ho1, .int fl1, .int od1, .int td1, .int ps1, .int pr1, .ref (had 1 3)])), (had 1 1, .inr (0, [.ref (had 1 4), .ref (had 1 5), .ref (had 1 6), .ref (had 1 7), .int un1, .int de1])), (had 1 5, .inl (cZ, 20, .inl (zfg iT1 rD1 de1 (now + d) 20))), (had 1 7, .inl (cI, 20, .inl rD1)), (had 2 0, .inr (1, [.ref (had 2 1), .ref (had 2 2), .int mk2, .int ho2, .int fl2, .int od2, .int td2, .int ps2, .int pr2, .ref (had 2 3)])), (had 2 1, .inr (0, [.ref (had 2 4), .ref (had 2 5), .ref (had 2 6), .ref (had 2 7), .int un2, .int de2])), (had 2 5, .inl (cZ, 20, .inl (zfg iT2 rD2 de2 (now + d) 20))), (had 2 7, .inl (cI, 20, .inl rD2)), (had 3 0, .inr (1, [.ref (had 3 1), .ref (had 3 2), .int mk3, .int ho3, .int fl3, .int od3, .int td3, .int ps3, .int pr3, .ref (had 3 3)])), (had 3 1, .inr (0, [.ref (had 3 4), .ref (had 3 5), .ref (had 3 6), .ref (had 3 7), .int un3, .int de3])), (had 3 5, .inl (cZ, 20, .inl (zfg iT3 rD3 de3 (now + d) 20))), (had 3 7, .inl (cI, 20, .inl rD3))]) (va_A ([(x0, .inr (3, [.ref xq, .int now])), (xq, .inl (cH, 4, .inr (.inr (.inr (.inr xg))))), (had 0 0, .inr (1, [.ref (had 0 1), .ref (had 0 2), .int mk0, .int ho0, .int fl0, .int od0, .int td0, .int ps0, .int pr0, .ref (had 0 3)])), (had 0 1, .inr (0, [.ref (had 0 4), .ref (had 0 5), .ref (had 0 6), .ref (had 0 7), .int un0, .int de0])), (had 0 5, .inl (cZ, 20, .inl iT0)), (had 0 7, .inl (cI, 20, .inl rD0)), (had 1 0, .inr (1, [.ref (had 1 1), .ref (had 1 2), .int mk1, .int ho1, .int fl1, .int od1, .int td1, .int ps1, .int pr1, .ref (had 1 3)])), (had 1 1, .inr (0, [.ref (had 1 4), .ref (had 1 5), .ref (had 1 6), .ref (had 1 7), .int un1, .int de1])), (had 1 5, .inl (cZ, 20, .inl iT1)), (had 1 7, .inl (cI, 20, .inl rD1)), (had 2 0, .inr (1, [.ref (had 2 1), .ref (had 2 2), .int mk2, .int ho2, .int fl2, .int od2, .int td2, .int ps2, .int pr2, .ref (had 2 3)])), (had 2 1, .inr (0, [.ref (had 2 4), .ref (had 2 5), .ref (had 2 6), .ref (had 2 7), .int un2, .int de2])), (had 2 5, .inl (cZ, 20, .inl iT2)), (had 2 7, .inl (cI, 20, .inl rD2)), (had 3 0, .inr (1, [.ref (had 3 1), .ref (had 3 2), .int mk3, .int ho3, .int fl3, .int od3, .int td3, .int ps3, .int pr3, .ref (had 3 3)])), (had 3 1, .inr (0, [.ref (had 3 4), .ref (had 3 5), .ref (had 3 6), .ref (had 3 7), .int un3, .int de3])), (had 3 5, .inl (cZ, 20, .inl iT3)), (had 3 7, .inl (cI, 20, .inl rD3))]) sz)) 0 0 (va_A ([(x0, .inr (3, [.ref xq, .int now])), (xq, .inl (cH, 4, .inr (.inr (.inr (.inr xg))))), (had 0 0, .inr (1, [.ref (had 0 1), .ref (had 0 2), .int mk0, .int ho0, .int fl0, .int od0, .int td0, .int ps0, .int pr0, .ref (had 0 3)])), (had 0 1, .inr (0, [.ref (had 0 4), .ref (had 0 5), .ref (had 0 6), .ref (had 0 7), .int un0, .int de0])), (had 0 5, .inl (cZ, 20, .inl iT0)), (had 0 7, .inl (cI, 20, .inl rD0)), (had 1 0, .inr (1, [.ref (had 1 1), .ref (had 1 2), .int mk1, .int ho1, .int fl1, .int od1, .int td1, .int ps1, .int pr1, .ref (had 1 3)])), (had 1 1, .inr (0, [.ref (had 1 4), .ref (had 1 5), .ref (had 1 6), .ref (had 1 7), .int un1, .int de1])), (had 1 5, .inl (cZ, 20, .inl iT1)), (had 1 7, .inl (cI, 20, .inl rD1)), (had 2 0, .inr (1, [.ref (had 2 1), .ref (had 2 2), .int mk2, .int ho2, .int fl2, .int od2, .int td2, .int ps2, .int pr2, .ref (had 2 3)])), (had 2 1, .inr (0, [.ref (had 2 4), .ref (had 2 5), .ref (had 2 6), .ref (had 2 7), .int un2, .int de2])), (had 2 5, .inl (cZ, 20, .inl iT2)), (had 2 7, .inl (cI, 20, .inl rD2)), (had 3 0, .inr (1, [.ref (had 3 1), .ref (had 3 2), .int mk3, .int ho3, .int fl3, .int od3, .int td3, .int ps3, .int pr3, .ref (had 3 3)])), (had 3 1, .inr (0, [.ref (had 3 4), .ref (had 3 5), .ref (had 3 6), .ref (had 3 7), .int un3, .int de3])), (had 3 5, .inl (cZ, 20, .inl iT3)), (had 3 7, .inl (cI, 20, .inl rD3))]) sz) := by
  refine Met.ofW (cc := cX3_pass) (maxL := 3) (ret := (some .int)) (by decide) rfl ?_
  intro p e s m args below meth c s₁ B hml hv0
  obtain ⟨rfl, hsz, hP, hK, hD0⟩ := hv0
  have hx := B.exec
  have hb := B.bytes
  have hr := B.returns
  have hts := atoms_spec (ws := wsX3_pass) B.pre
  have hown : s.vm.findClass RX3 = some m.cls := findClass_of_methodNamed B.named
  have hlocks := B.notSynchronized
  subst hsz
  have hD := hD0.self (sz := s.heap.size)
  generalize hAe : va_A ([(x0, .inr (3, [.ref xq, .int now])), (xq, .inl (cH, 4, .inr (.inr (.inr (.inr xg))))), (had 0 0, .inr (1, [.ref (had 0 1), .ref (had 0 2), .int mk0, .int ho0, .int fl0, .int od0, .int td0, .int ps0, .int pr0, .ref (had 0 3)])), (had 0 1, .inr (0, [.ref (had 0 4), .ref (had 0 5), .ref (had 0 6), .ref (had 0 7), .int un0, .int de0])), (had 0 5, .inl (cZ, 20, .inl iT0)), (had 0 7, .inl (cI, 20, .inl rD0)), (had 1 0, .inr (1, [.ref (had 1 1), .ref (had 1 2), .int mk1, .int ho1, .int fl1, .int od1, .int td1, .int ps1, .int pr1, .ref (had 1 3)])), (had 1 1, .inr (0, [.ref (had 1 4), .ref (had 1 5), .ref (had 1 6), .ref (had 1 7), .int un1, .int de1])), (had 1 5, .inl (cZ, 20, .inl iT1)), (had 1 7, .inl (cI, 20, .inl rD1)), (had 2 0, .inr (1, [.ref (had 2 1), .ref (had 2 2), .int mk2, .int ho2, .int fl2, .int od2, .int td2, .int ps2, .int pr2, .ref (had 2 3)])), (had 2 1, .inr (0, [.ref (had 2 4), .ref (had 2 5), .ref (had 2 6), .ref (had 2 7), .int un2, .int de2])), (had 2 5, .inl (cZ, 20, .inl iT2)), (had 2 7, .inl (cI, 20, .inl rD2)), (had 3 0, .inr (1, [.ref (had 3 1), .ref (had 3 2), .int mk3, .int ho3, .int fl3, .int od3, .int td3, .int ps3, .int pr3, .ref (had 3 3)])), (had 3 1, .inr (0, [.ref (had 3 4), .ref (had 3 5), .ref (had 3 6), .ref (had 3 7), .int un3, .int de3])), (had 3 5, .inl (cZ, 20, .inl iT3)), (had 3 7, .inl (cI, 20, .inl rD3))]) s.heap.size = A at hD ⊢
  have hA : ∀ q : Nat, s.heap.size ≤ q → A q := fun q h => by rw [← hAe]; exact Or.inr h
  have hS : va_S A s.heap s.heap [] := va_S.rf
  have hl := lv_entry ([.ref x0, .int d]) (n := 3) (Nat.le_of_ble_eq_true rfl)
  rw [lg_entry_eq]
  generalize (lg_sl ([.ref x0, .int d]) ++ List.replicate (3 - (lg_sl ([.ref x0, .int d])).length) Slot.unset).toArray = ls at hl ⊢
  have hl : lv_has ls 3 [(0, .ref x0), (1, .int d)] := hl
  have hiX1 : ∀ w ∈ wsX10, w ∈ wsX3_pass := by decide +kernel
  have hiX3 : ∀ w ∈ wsX30, w ∈ wsX3_pass := by decide +kernel
  have l16 := hts (.fieldLink RX3 16 "CatalogueHarvester" "today" "I") (by decide +kernel)
  have l28 := hts (.fieldLink RX3 28 "CatalogueHarvester$Harvest" "far" "LCatalogueHarvester$FarCatalogue;") (by decide +kernel)
  refine lv_iload_n hx hb dX3_pass_0 rfl (lv_at hl 1 rfl) ?_
  refine lv_iconst (v := 1) hx hb dX3_pass_1 (by decide) ?_
  refine lv_bipush (v := 100) hx hb dX3_pass_2 (by decide) ?_
  refine z_cRv (va_runS (As := [.int d, .int 1, .int 100]) (rest := []) ⟨hx, hb, hml, hown, hts⟩ (kX3_refuseOutside_ok l d 1 100 (hd1)) (va_cwS 3 hts gX3_pass_X3_refuseOutside rfl rfl rfl (by decide +kernel) ⟨Nat.le_of_ble_eq_true rfl, Nat.le_of_ble_eq_true rfl⟩) (zPre0) rfl rfl hl.1 rfl (lv_room (Nat.le_of_ble_eq_true rfl)) dX3_pass_4 ⟨Nat.le_of_ble_eq_true rfl, Nat.le_of_ble_eq_true rfl⟩) ?_
  refine lv_aload_n hx hb dX3_pass_7 rfl (lv_at hl 0 rfl) ?_
  refine va_get (D := (dC, dI)) (ci := 3) (v := .int now) (C := RX3) (T := TX3) (N := 2) hx hb hts hiX3 hown hK hP 0 rfl rfl 1 (by decide) l16 (fun _ h9 => h9) rfl dX3_pass_8 ?_
  refine lv_iload_n hx hb dX3_pass_11 rfl (lv_at hl 1 rfl) ?_
  refine lv_iadd hx hb dX3_pass_12 ?_
  refine lv_sipush (v := 5000) hx hb dX3_pass_13 (by decide) ?_
  refine lv_icmp_le (tgt := 29) hx hb dX3_pass_16 (by decide) (fun c_16 => ?_) (fun c_16 => ?_)
  · skip
    refine lv_aload_n hx hb dX3_pass_29 rfl (lv_at hl 0 rfl) ?_
    refine lv_dup hx hb dX3_pass_30 rfl ?_
    refine va_get (D := (dC, dI)) (ci := 3) (v := .int now) (C := RX3) (T := TX3) (N := 2) hx hb hts hiX3 hown hK hP 0 rfl rfl 1 (by decide) l16 (fun _ h9 => h9) rfl dX3_pass_31 ?_
    refine lv_iload_n hx hb dX3_pass_34 rfl (lv_at hl 1 rfl) ?_
    refine lv_iadd hx hb dX3_pass_35 ?_
    refine va_put (D := (dC, dI)) (ci := 3) (v := .int (now + d)) (ty := .int) (C := RX3) (T := TX3) (N := 2) hx hb hts hiX3 tyX3 tyX3_ok nmX3 hown hK hP hD hS 0 rfl rfl 1 (by decide) l16 (fun _ h9 => h9) rfl (by decide +kernel) (rfl) (rfl) (Nat.le_of_ble_eq_true rfl) dX3_pass_36 (fun H locs hP hD hS => ?_)
    have hP : va_P (dC, dI) vwCl ([(x0, .inr (3, [.ref xq, .int (now + d)])), (xq, .inl (cH, 4, .inr (.inr (.inr (.inr xg))))), (had 0 0, .inr (1, [.ref (had 0 1), .ref (had 0 2), .int mk0, .int ho0, .int fl0, .int od0, .int td0, .int ps0, .int pr0, .ref (had 0 3)])), (had 0 1, .inr (0, [.ref (had 0 4), .ref (had 0 5), .ref (had 0 6), .ref (had 0 7), .int un0, .int de0])), (had 0 5, .inl (cZ, 20, .inl iT0)), (had 0 7, .inl (cI, 20, .inl rD0)), (had 1 0, .inr (1, [.ref (had 1 1), .ref (had 1 2), .int mk1, .int ho1, .int fl1, .int od1, .int td1, .int ps1, .int pr1, .ref (had 1 3)])), (had 1 1, .inr (0, [.ref (had 1 4), .ref (had 1 5), .ref (had 1 6), .ref (had 1 7), .int un1, .int de1])), (had 1 5, .inl (cZ, 20, .inl iT1)), (had 1 7, .inl (cI, 20, .inl rD1)), (had 2 0, .inr (1, [.ref (had 2 1), .ref (had 2 2), .int mk2, .int ho2, .int fl2, .int od2, .int td2, .int ps2, .int pr2, .ref (had 2 3)])), (had 2 1, .inr (0, [.ref (had 2 4), .ref (had 2 5), .ref (had 2 6), .ref (had 2 7), .int un2, .int de2])), (had 2 5, .inl (cZ, 20, .inl iT2)), (had 2 7, .inl (cI, 20, .inl rD2)), (had 3 0, .inr (1, [.ref (had 3 1), .ref (had 3 2), .int mk3, .int ho3, .int fl3, .int od3, .int td3, .int ps3, .int pr3, .ref (had 3 3)])), (had 3 1, .inr (0, [.ref (had 3 4), .ref (had 3 5), .ref (had 3 6), .ref (had 3 7), .int un3, .int de3])), (had 3 5, .inl (cZ, 20, .inl iT3)), (had 3 7, .inl (cI, 20, .inl rD3))]) H := hP
    have hD : va_D A ([(x0, .inr (3, [.ref xq, .int (now + d)])), (xq, .inl (cH, 4, .inr (.inr (.inr (.inr xg))))), (had 0 0, .inr (1, [.ref (had 0 1), .ref (had 0 2), .int mk0, .int ho0, .int fl0, .int od0, .int td0, .int ps0, .int pr0, .ref (had 0 3)])), (had 0 1, .inr (0, [.ref (had 0 4), .ref (had 0 5), .ref (had 0 6), .ref (had 0 7), .int un0, .int de0])), (had 0 5, .inl (cZ, 20, .inl iT0)), (had 0 7, .inl (cI, 20, .inl rD0)), (had 1 0, .inr (1, [.ref (had 1 1), .ref (had 1 2), .int mk1, .int ho1, .int fl1, .int od1, .int td1, .int ps1, .int pr1, .ref (had 1 3)])), (had 1 1, .inr (0, [.ref (had 1 4), .ref (had 1 5), .ref (had 1 6), .ref (had 1 7), .int un1, .int de1])), (had 1 5, .inl (cZ, 20, .inl iT1)), (had 1 7, .inl (cI, 20, .inl rD1)), (had 2 0, .inr (1, [.ref (had 2 1), .ref (had 2 2), .int mk2, .int ho2, .int fl2, .int od2, .int td2, .int ps2, .int pr2, .ref (had 2 3)])), (had 2 1, .inr (0, [.ref (had 2 4), .ref (had 2 5), .ref (had 2 6), .ref (had 2 7), .int un2, .int de2])), (had 2 5, .inl (cZ, 20, .inl iT2)), (had 2 7, .inl (cI, 20, .inl rD2)), (had 3 0, .inr (1, [.ref (had 3 1), .ref (had 3 2), .int mk3, .int ho3, .int fl3, .int od3, .int td3, .int ps3, .int pr3, .ref (had 3 3)])), (had 3 1, .inr (0, [.ref (had 3 4), .ref (had 3 5), .ref (had 3 6), .ref (had 3 7), .int un3, .int de3])), (had 3 5, .inl (cZ, 20, .inl iT3)), (had 3 7, .inl (cI, 20, .inl rD3))]) := hD
    refine lv_iconst (v := 0) hx hb dX3_pass_39 (by decide) ?_
    refine lv_istore_n (lv' := [(2, .int 0), (0, .ref x0), (1, .int d)]) hx hb dX3_pass_40 rfl hl (by decide) rfl (fun ls hl => ?_)
    refine lv_iload_n hx hb dX3_pass_41 rfl (lv_at hl 0 rfl) ?_
    refine lv_iconst (v := 4) hx hb dX3_pass_42 (by decide) ?_
    refine lv_icmp_ge (tgt := 67) hx hb dX3_pass_43 (by decide) (fun c_43 => ?_) (fun c_43 => ?_)
    · exact absurd c_43 (by decide)
    · skip
      refine lv_aload_n hx hb dX3_pass_46 rfl (lv_at hl 1 rfl) ?_
      refine lv_iload_n hx hb dX3_pass_47 rfl (lv_at hl 0 rfl) ?_
      refine z_cRr (va_runV (As := [.int 0]) (rest := []) ⟨hx, hb, hml, hown, hts⟩ (kX3_harvestOf_ok l dC dI cI cZ cH cJ x0 xq (now + d) xg (had 0 0) 0 (by decide) (hg 0 (by decide))) (cwV 1 hts gX3_pass_X3_harvestOf rfl rfl rfl (by decide +kernel) ⟨Nat.le_of_ble_eq_true rfl, Nat.le_of_ble_eq_true rfl⟩) (zPreR (is := [0, 1]) hK hP rfl (va_recv hK hP (ci := 3) (q0 := 0) rfl rfl)) rfl rfl hl.1 rfl (lv_room (Nat.le_of_ble_eq_true rfl)) dX3_pass_48 ⟨Nat.le_of_ble_eq_true rfl, Nat.le_of_ble_eq_true rfl⟩) ?_
      refine va_get (D := (dC, dI)) (ci := 1) (v := .ref (had 0 1)) (C := RX1) (T := TX1) (N := 10) hx hb hts hiX1 hown hK hP 2 rfl rfl 0 (by decide) l28 (fun _ h9 => h9) rfl dX3_pass_51 ?_
      refine lv_aload_n hx hb dX3_pass_54 rfl (lv_at hl 1 rfl) ?_
      refine va_get (D := (dC, dI)) (ci := 3) (v := .int (now + d)) (C := RX3) (T := TX3) (N := 2) hx hb hts hiX3 hown hK hP 0 rfl rfl 1 (by decide) l16 (fun _ h9 => h9) rfl dX3_pass_55 ?_
      refine z_cMv (is := [3, 4, 5]) (va_runV (As := [.int (now + d)]) (rest := []) ⟨hx, hb, hml, hown, hts⟩ (kX0_forgetToldDeletes l dC dI cI cZ cH cJ (had 0 1) (had 0 4) (had 0 5) (had 0 6) (had 0 7) un0 de0 iT0 rD0 (now + d) H.size) (cwV 1 hts gX3_pass_X0_forgetToldDeletes rfl rfl rfl (by decide +kernel) ⟨Nat.le_of_ble_eq_true rfl, Nat.le_of_ble_eq_true rfl⟩) (zPreV (is := [3, 4, 5]) hK hP hD (by decide) rfl (va_recv hK hP (ci := 0) (q0 := 3) rfl rfl)) rfl rfl hl.1 rfl (lv_room (Nat.le_of_ble_eq_true rfl)) dX3_pass_58 ⟨Nat.le_of_ble_eq_true rfl, Nat.le_of_ble_eq_true rfl⟩) hP hD hS hA rfl (by decide) rfl (fun H locs hP hD hS => ?_)
      have hP : va_P (dC, dI) vwCl ([(x0, .inr (3, [.ref xq, .int (now + d)])), (xq, .inl (cH, 4, .inr (.inr (.inr (.inr xg))))), (had 0 0, .inr (1, [.ref (had 0 1), .ref (had 0 2), .int mk0, .int ho0, .int fl0, .int od0, .int td0, .int ps0, .int pr0, .ref (had 0 3)])), (had 0 1, .inr (0, [.ref (had 0 4), .ref (had 0 5), .ref (had 0 6), .ref (had 0 7), .int un0, .int de0])), (had 0 5, .inl (cZ, 20, .inl (zfg iT0 rD0 de0 (now + d) 20))), (had 0 7, .inl (cI, 20, .inl rD0)), (had 1 0, .inr (1, [.ref (had 1 1), .ref (had 1 2), .int mk1, .int ho1, .int fl1, .int od1, .int td1, .int ps1, .int pr1, .ref (had 1 3)])), (had 1 1, .inr (0, [.ref (had 1 4), .ref (had 1 5), .ref (had 1 6), .ref (had 1 7), .int un1, .int de1])), (had 1 5, .inl (cZ, 20, .inl iT1)), (had 1 7, .inl (cI, 20, .inl rD1)), (had 2 0, .inr (1, [.ref (had 2 1), .ref (had 2 2), .int mk2, .int ho2, .int fl2, .int od2, .int td2, .int ps2, .int pr2, .ref (had 2 3)])), (had 2 1, .inr (0, [.ref (had 2 4), .ref (had 2 5), .ref (had 2 6), .ref (had 2 7), .int un2, .int de2])), (had 2 5, .inl (cZ, 20, .inl iT2)), (had 2 7, .inl (cI, 20, .inl rD2)), (had 3 0, .inr (1, [.ref (had 3 1), .ref (had 3 2), .int mk3, .int ho3, .int fl3, .int od3, .int td3, .int ps3, .int pr3, .ref (had 3 3)])), (had 3 1, .inr (0, [.ref (had 3 4), .ref (had 3 5), .ref (had 3 6), .ref (had 3 7), .int un3, .int de3])), (had 3 5, .inl (cZ, 20, .inl iT3)), (had 3 7, .inl (cI, 20, .inl rD3))]) H := hP
      have hD : va_D A ([(x0, .inr (3, [.ref xq, .int (now + d)])), (xq, .inl (cH, 4, .inr (.inr (.inr (.inr xg))))), (had 0 0, .inr (1, [.ref (had 0 1), .ref (had 0 2), .int mk0, .int ho0, .int fl0, .int od0, .int td0, .int ps0, .int pr0, .ref (had 0 3)])), (had 0 1, .inr (0, [.ref (had 0 4), .ref (had 0 5), .ref (had 0 6), .ref (had 0 7), .int un0, .int de0])), (had 0 5, .inl (cZ, 20, .inl (zfg iT0 rD0 de0 (now + d) 20))), (had 0 7, .inl (cI, 20, .inl rD0)), (had 1 0, .inr (1, [.ref (had 1 1), .ref (had 1 2), .int mk1, .int ho1, .int fl1, .int od1, .int td1, .int ps1, .int pr1, .ref (had 1 3)])), (had 1 1, .inr (0, [.ref (had 1 4), .ref (had 1 5), .ref (had 1 6), .ref (had 1 7), .int un1, .int de1])), (had 1 5, .inl (cZ, 20, .inl iT1)), (had 1 7, .inl (cI, 20, .inl rD1)), (had 2 0, .inr (1, [.ref (had 2 1), .ref (had 2 2), .int mk2, .int ho2, .int fl2, .int od2, .int td2, .int ps2, .int pr2, .ref (had 2 3)])), (had 2 1, .inr (0, [.ref (had 2 4), .ref (had 2 5), .ref (had 2 6), .ref (had 2 7), .int un2, .int de2])), (had 2 5, .inl (cZ, 20, .inl iT2)), (had 2 7, .inl (cI, 20, .inl rD2)), (had 3 0, .inr (1, [.ref (had 3 1), .ref (had 3 2), .int mk3, .int ho3, .int fl3, .int od3, .int td3, .int ps3, .int pr3, .ref (had 3 3)])), (had 3 1, .inr (0, [.ref (had 3 4), .ref (had 3 5), .ref (had 3 6), .ref (had 3 7), .int un3, .int de3])), (had 3 5, .inl (cZ, 20, .inl iT3)), (had 3 7, .inl (cI, 20, .inl rD3))]) := hD
      refine lv_iinc (v := 1) (lv' := [(2, .int 1), (0, .ref x0), (1, .int d)]) hx hb dX3_pass_61 hl (k := 0) rfl (by decide) (by decide) rfl (fun ls hl => ?_)
      refine lv_goto (tgt := 41) hx hb dX3_pass_64 (by decide) ?_
      refine lv_iload_n hx hb dX3_pass_41 rfl (lv_at hl 0 rfl) ?_
      refine lv_iconst (v := 4) hx hb dX3_pass_42 (by decide) ?_
      refine lv_icmp_ge (tgt := 67) hx hb dX3_pass_43 (by decide) (fun c_43 => ?_) (fun c_43 => ?_)
      · exact absurd c_43 (by decide)
      · skip
        refine lv_aload_n hx hb dX3_pass_46 rfl (lv_at hl 1 rfl) ?_
        refine lv_iload_n hx hb dX3_pass_47 rfl (lv_at hl 0 rfl) ?_
        refine z_cRr (va_runV (As := [.int 1]) (rest := []) ⟨hx, hb, hml, hown, hts⟩ (kX3_harvestOf_ok l dC dI cI cZ cH cJ x0 xq (now + d) xg (had 1 0) 1 (by decide) (hg 1 (by decide))) (cwV 1 hts gX3_pass_X3_harvestOf rfl rfl rfl (by decide +kernel) ⟨Nat.le_of_ble_eq_true rfl, Nat.le_of_ble_eq_true rfl⟩) (zPreR (is := [0, 1]) hK hP rfl (va_recv hK hP (ci := 3) (q0 := 0) rfl rfl)) rfl rfl hl.1 rfl (lv_room (Nat.le_of_ble_eq_true rfl)) dX3_pass_48 ⟨Nat.le_of_ble_eq_true rfl, Nat.le_of_ble_eq_true rfl⟩) ?_
        refine va_get (D := (dC, dI)) (ci := 1) (v := .ref (had 1 1)) (C := RX1) (T := TX1) (N := 10) hx hb hts hiX1 hown hK hP 6 rfl rfl 0 (by decide) l28 (fun _ h9 => h9) rfl dX3_pass_51 ?_
        refine lv_aload_n hx hb dX3_pass_54 rfl (lv_at hl 1 rfl) ?_
        refine va_get (D := (dC, dI)) (ci := 3) (v := .int (now + d)) (C := RX3) (T := TX3) (N := 2) hx hb hts hiX3 hown hK hP 0 rfl rfl 1 (by decide) l16 (fun _ h9 => h9) rfl dX3_pass_55 ?_
        refine z_cMv (is := [7, 8, 9]) (va_runV (As := [.int (now + d)]) (rest := []) ⟨hx, hb, hml, hown, hts⟩ (kX0_forgetToldDeletes l dC dI cI cZ cH cJ (had 1 1) (had 1 4) (had 1 5) (had 1 6) (had 1 7) un1 de1 iT1 rD1 (now + d) H.size) (cwV 1 hts gX3_pass_X0_forgetToldDeletes rfl rfl rfl (by decide +kernel) ⟨Nat.le_of_ble_eq_true rfl, Nat.le_of_ble_eq_true rfl⟩) (zPreV (is := [7, 8, 9]) hK hP hD (by decide) rfl (va_recv hK hP (ci := 0) (q0 := 7) rfl rfl)) rfl rfl hl.1 rfl (lv_room (Nat.le_of_ble_eq_true rfl)) dX3_pass_58 ⟨Nat.le_of_ble_eq_true rfl, Nat.le_of_ble_eq_true rfl⟩) hP hD hS hA rfl (by decide) rfl (fun H locs hP hD hS => ?_)
        have hP : va_P (dC, dI) vwCl ([(x0, .inr (3, [.ref xq, .int (now + d)])), (xq, .inl (cH, 4, .inr (.inr (.inr (.inr xg))))), (had 0 0, .inr (1, [.ref (had 0 1), .ref (had 0 2), .int mk0, .int ho0, .int fl0, .int od0, .int td0, .int ps0, .int pr0, .ref (had 0 3)])), (had 0 1, .inr (0, [.ref (had 0 4), .ref (had 0 5), .ref (had 0 6), .ref (had 0 7), .int un0, .int de0])), (had 0 5, .inl (cZ, 20, .inl (zfg iT0 rD0 de0 (now + d) 20))), (had 0 7, .inl (cI, 20, .inl rD0)), (had 1 0, .inr (1, [.ref (had 1 1), .ref (had 1 2), .int mk1, .int ho1, .int fl1, .int od1, .int td1, .int ps1, .int pr1, .ref (had 1 3)])), (had 1 1, .inr (0, [.ref (had 1 4), .ref (had 1 5), .ref (had 1 6), .ref (had 1 7), .int un1, .int de1])), (had 1 5, .inl (cZ, 20, .inl (zfg iT1 rD1 de1 (now + d) 20))), (had 1 7, .inl (cI, 20, .inl rD1)), (had 2 0, .inr (1, [.ref (had 2 1), .ref (had 2 2), .int mk2, .int ho2, .int fl2, .int od2, .int td2, .int ps2, .int pr2, .ref (had 2 3)])), (had 2 1, .inr (0, [.ref (had 2 4), .ref (had 2 5), .ref (had 2 6), .ref (had 2 7), .int un2, .int de2])), (had 2 5, .inl (cZ, 20, .inl iT2)), (had 2 7, .inl (cI, 20, .inl rD2)), (had 3 0, .inr (1, [.ref (had 3 1), .ref (had 3 2), .int mk3, .int ho3, .int fl3, .int od3, .int td3, .int ps3, .int pr3, .ref (had 3 3)])), (had 3 1, .inr (0, [.ref (had 3 4), .ref (had 3 5), .ref (had 3 6), .ref (had 3 7), .int un3, .int de3])), (had 3 5, .inl (cZ, 20, .inl iT3)), (had 3 7, .inl (cI, 20, .inl rD3))]) H := hP
        have hD : va_D A ([(x0, .inr (3, [.ref xq, .int (now + d)])), (xq, .inl (cH, 4, .inr (.inr (.inr (.inr xg))))), (had 0 0, .inr (1, [.ref (had 0 1), .ref (had 0 2), .int mk0, .int ho0, .int fl0, .int od0, .int td0, .int ps0, .int pr0, .ref (had 0 3)])), (had 0 1, .inr (0, [.ref (had 0 4), .ref (had 0 5), .ref (had 0 6), .ref (had 0 7), .int un0, .int de0])), (had 0 5, .inl (cZ, 20, .inl (zfg iT0 rD0 de0 (now + d) 20))), (had 0 7, .inl (cI, 20, .inl rD0)), (had 1 0, .inr (1, [.ref (had 1 1), .ref (had 1 2), .int mk1, .int ho1, .int fl1, .int od1, .int td1, .int ps1, .int pr1, .ref (had 1 3)])), (had 1 1, .inr (0, [.ref (had 1 4), .ref (had 1 5), .ref (had 1 6), .ref (had 1 7), .int un1, .int de1])), (had 1 5, .inl (cZ, 20, .inl (zfg iT1 rD1 de1 (now + d) 20))), (had 1 7, .inl (cI, 20, .inl rD1)), (had 2 0, .inr (1, [.ref (had 2 1), .ref (had 2 2), .int mk2, .int ho2, .int fl2, .int od2, .int td2, .int ps2, .int pr2, .ref (had 2 3)])), (had 2 1, .inr (0, [.ref (had 2 4), .ref (had 2 5), .ref (had 2 6), .ref (had 2 7), .int un2, .int de2])), (had 2 5, .inl (cZ, 20, .inl iT2)), (had 2 7, .inl (cI, 20, .inl rD2)), (had 3 0, .inr (1, [.ref (had 3 1), .ref (had 3 2), .int mk3, .int ho3, .int fl3, .int od3, .int td3, .int ps3, .int pr3, .ref (had 3 3)])), (had 3 1, .inr (0, [.ref (had 3 4), .ref (had 3 5), .ref (had 3 6), .ref (had 3 7), .int un3, .int de3])), (had 3 5, .inl (cZ, 20, .inl iT3)), (had 3 7, .inl (cI, 20, .inl rD3))]) := hD
        refine lv_iinc (v := 2) (lv' := [(2, .int 2), (0, .ref x0), (1, .int d)]) hx hb dX3_pass_61 hl (k := 0) rfl (by decide) (by decide) rfl (fun ls hl => ?_)
        refine lv_goto (tgt := 41) hx hb dX3_pass_64 (by decide) ?_
        refine lv_iload_n hx hb dX3_pass_41 rfl (lv_at hl 0 rfl) ?_
        refine lv_iconst (v := 4) hx hb dX3_pass_42 (by decide) ?_
        refine lv_icmp_ge (tgt := 67) hx hb dX3_pass_43 (by decide) (fun c_43 => ?_) (fun c_43 => ?_)
        · exact absurd c_43 (by decide)
        · skip
          refine lv_aload_n hx hb dX3_pass_46 rfl (lv_at hl 1 rfl) ?_
          refine lv_iload_n hx hb dX3_pass_47 rfl (lv_at hl 0 rfl) ?_
          refine z_cRr (va_runV (As := [.int 2]) (rest := []) ⟨hx, hb, hml, hown, hts⟩ (kX3_harvestOf_ok l dC dI cI cZ cH cJ x0 xq (now + d) xg (had 2 0) 2 (by decide) (hg 2 (by decide))) (cwV 1 hts gX3_pass_X3_harvestOf rfl rfl rfl (by decide +kernel) ⟨Nat.le_of_ble_eq_true rfl, Nat.le_of_ble_eq_true rfl⟩) (zPreR (is := [0, 1]) hK hP rfl (va_recv hK hP (ci := 3) (q0 := 0) rfl rfl)) rfl rfl hl.1 rfl (lv_room (Nat.le_of_ble_eq_true rfl)) dX3_pass_48 ⟨Nat.le_of_ble_eq_true rfl, Nat.le_of_ble_eq_true rfl⟩) ?_
          refine va_get (D := (dC, dI)) (ci := 1) (v := .ref (had 2 1)) (C := RX1) (T := TX1) (N := 10) hx hb hts hiX1 hown hK hP 10 rfl rfl 0 (by decide) l28 (fun _ h9 => h9) rfl dX3_pass_51 ?_
          refine lv_aload_n hx hb dX3_pass_54 rfl (lv_at hl 1 rfl) ?_
          refine va_get (D := (dC, dI)) (ci := 3) (v := .int (now + d)) (C := RX3) (T := TX3) (N := 2) hx hb hts hiX3 hown hK hP 0 rfl rfl 1 (by decide) l16 (fun _ h9 => h9) rfl dX3_pass_55 ?_
          refine z_cMv (is := [11, 12, 13]) (va_runV (As := [.int (now + d)]) (rest := []) ⟨hx, hb, hml, hown, hts⟩ (kX0_forgetToldDeletes l dC dI cI cZ cH cJ (had 2 1) (had 2 4) (had 2 5) (had 2 6) (had 2 7) un2 de2 iT2 rD2 (now + d) H.size) (cwV 1 hts gX3_pass_X0_forgetToldDeletes rfl rfl rfl (by decide +kernel) ⟨Nat.le_of_ble_eq_true rfl, Nat.le_of_ble_eq_true rfl⟩) (zPreV (is := [11, 12, 13]) hK hP hD (by decide) rfl (va_recv hK hP (ci := 0) (q0 := 11) rfl rfl)) rfl rfl hl.1 rfl (lv_room (Nat.le_of_ble_eq_true rfl)) dX3_pass_58 ⟨Nat.le_of_ble_eq_true rfl, Nat.le_of_ble_eq_true rfl⟩) hP hD hS hA rfl (by decide) rfl (fun H locs hP hD hS => ?_)
          have hP : va_P (dC, dI) vwCl ([(x0, .inr (3, [.ref xq, .int (now + d)])), (xq, .inl (cH, 4, .inr (.inr (.inr (.inr xg))))), (had 0 0, .inr (1, [.ref (had 0 1), .ref (had 0 2), .int mk0, .int ho0, .int fl0, .int od0, .int td0, .int ps0, .int pr0, .ref (had 0 3)])), (had 0 1, .inr (0, [.ref (had 0 4), .ref (had 0 5), .ref (had 0 6), .ref (had 0 7), .int un0, .int de0])), (had 0 5, .inl (cZ, 20, .inl (zfg iT0 rD0 de0 (now + d) 20))), (had 0 7, .inl (cI, 20, .inl rD0)), (had 1 0, .inr (1, [.ref (had 1 1), .ref (had 1 2), .int mk1, .int ho1, .int fl1, .int od1, .int td1, .int ps1, .int pr1, .ref (had 1 3)])), (had 1 1, .inr (0, [.ref (had 1 4), .ref (had 1 5), .ref (had 1 6), .ref (had 1 7), .int un1, .int de1])), (had 1 5, .inl (cZ, 20, .inl (zfg iT1 rD1 de1 (now + d) 20))), (had 1 7, .inl (cI, 20, .inl rD1)), (had 2 0, .inr (1, [.ref (had 2 1), .ref (had 2 2), .int mk2, .int ho2, .int fl2, .int od2, .int td2, .int ps2, .int pr2, .ref (had 2 3)])), (had 2 1, .inr (0, [.ref (had 2 4), .ref (had 2 5), .ref (had 2 6), .ref (had 2 7), .int un2, .int de2])), (had 2 5, .inl (cZ, 20, .inl (zfg iT2 rD2 de2 (now + d) 20))), (had 2 7, .inl (cI, 20, .inl rD2)), (had 3 0, .inr (1, [.ref (had 3 1), .ref (had 3 2), .int mk3, .int ho3, .int fl3, .int od3, .int td3, .int ps3, .int pr3, .ref (had 3 3)])), (had 3 1, .inr (0, [.ref (had 3 4), .ref (had 3 5), .ref (had 3 6), .ref (had 3 7), .int un3, .int de3])), (had 3 5, .inl (cZ, 20, .inl iT3)), (had 3 7, .inl (cI, 20, .inl rD3))]) H := hP
          have hD : va_D A ([(x0, .inr (3, [.ref xq, .int (now + d)])), (xq, .inl (cH, 4, .inr (.inr (.inr (.inr xg))))), (had 0 0, .inr (1, [.ref (had 0 1), .ref (had 0 2), .int mk0, .int ho0, .int fl0, .int od0, .int td0, .int ps0, .int pr0, .ref (had 0 3)])), (had 0 1, .inr (0, [.ref (had 0 4), .ref (had 0 5), .ref (had 0 6), .ref (had 0 7), .int un0, .int de0])), (had 0 5, .inl (cZ, 20, .inl (zfg iT0 rD0 de0 (now + d) 20))), (had 0 7, .inl (cI, 20, .inl rD0)), (had 1 0, .inr (1, [.ref (had 1 1), .ref (had 1 2), .int mk1, .int ho1, .int fl1, .int od1, .int td1, .int ps1, .int pr1, .ref (had 1 3)])), (had 1 1, .inr (0, [.ref (had 1 4), .ref (had 1 5), .ref (had 1 6), .ref (had 1 7), .int un1, .int de1])), (had 1 5, .inl (cZ, 20, .inl (zfg iT1 rD1 de1 (now + d) 20))), (had 1 7, .inl (cI, 20, .inl rD1)), (had 2 0, .inr (1, [.ref (had 2 1), .ref (had 2 2), .int mk2, .int ho2, .int fl2, .int od2, .int td2, .int ps2, .int pr2, .ref (had 2 3)])), (had 2 1, .inr (0, [.ref (had 2 4), .ref (had 2 5), .ref (had 2 6), .ref (had 2 7), .int un2, .int de2])), (had 2 5, .inl (cZ, 20, .inl (zfg iT2 rD2 de2 (now + d) 20))), (had 2 7, .inl (cI, 20, .inl rD2)), (had 3 0, .inr (1, [.ref (had 3 1), .ref (had 3 2), .int mk3, .int ho3, .int fl3, .int od3, .int td3, .int ps3, .int pr3, .ref (had 3 3)])), (had 3 1, .inr (0, [.ref (had 3 4), .ref (had 3 5), .ref (had 3 6), .ref (had 3 7), .int un3, .int de3])), (had 3 5, .inl (cZ, 20, .inl iT3)), (had 3 7, .inl (cI, 20, .inl rD3))]) := hD
          refine lv_iinc (v := 3) (lv' := [(2, .int 3), (0, .ref x0), (1, .int d)]) hx hb dX3_pass_61 hl (k := 0) rfl (by decide) (by decide) rfl (fun ls hl => ?_)
          refine lv_goto (tgt := 41) hx hb dX3_pass_64 (by decide) ?_
          refine lv_iload_n hx hb dX3_pass_41 rfl (lv_at hl 0 rfl) ?_
          refine lv_iconst (v := 4) hx hb dX3_pass_42 (by decide) ?_
          refine lv_icmp_ge (tgt := 67) hx hb dX3_pass_43 (by decide) (fun c_43 => ?_) (fun c_43 => ?_)
          · exact absurd c_43 (by decide)
          · skip
            refine lv_aload_n hx hb dX3_pass_46 rfl (lv_at hl 1 rfl) ?_
            refine lv_iload_n hx hb dX3_pass_47 rfl (lv_at hl 0 rfl) ?_
            refine z_cRr (va_runV (As := [.int 3]) (rest := []) ⟨hx, hb, hml, hown, hts⟩ (kX3_harvestOf_ok l dC dI cI cZ cH cJ x0 xq (now + d) xg (had 3 0) 3 (by decide) (hg 3 (by decide))) (cwV 1 hts gX3_pass_X3_harvestOf rfl rfl rfl (by decide +kernel) ⟨Nat.le_of_ble_eq_true rfl, Nat.le_of_ble_eq_true rfl⟩) (zPreR (is := [0, 1]) hK hP rfl (va_recv hK hP (ci := 3) (q0 := 0) rfl rfl)) rfl rfl hl.1 rfl (lv_room (Nat.le_of_ble_eq_true rfl)) dX3_pass_48 ⟨Nat.le_of_ble_eq_true rfl, Nat.le_of_ble_eq_true rfl⟩) ?_
            refine va_get (D := (dC, dI)) (ci := 1) (v := .ref (had 3 1)) (C := RX1) (T := TX1) (N := 10) hx hb hts hiX1 hown hK hP 14 rfl rfl 0 (by decide) l28 (fun _ h9 => h9) rfl dX3_pass_51 ?_
            refine lv_aload_n hx hb dX3_pass_54 rfl (lv_at hl 1 rfl) ?_
            refine va_get (D := (dC, dI)) (ci := 3) (v := .int (now + d)) (C := RX3) (T := TX3) (N := 2) hx hb hts hiX3 hown hK hP 0 rfl rfl 1 (by decide) l16 (fun _ h9 => h9) rfl dX3_pass_55 ?_
            refine z_cMv (is := [15, 16, 17]) (va_runV (As := [.int (now + d)]) (rest := []) ⟨hx, hb, hml, hown, hts⟩ (kX0_forgetToldDeletes l dC dI cI cZ cH cJ (had 3 1) (had 3 4) (had 3 5) (had 3 6) (had 3 7) un3 de3 iT3 rD3 (now + d) H.size) (cwV 1 hts gX3_pass_X0_forgetToldDeletes rfl rfl rfl (by decide +kernel) ⟨Nat.le_of_ble_eq_true rfl, Nat.le_of_ble_eq_true rfl⟩) (zPreV (is := [15, 16, 17]) hK hP hD (by decide) rfl (va_recv hK hP (ci := 0) (q0 := 15) rfl rfl)) rfl rfl hl.1 rfl (lv_room (Nat.le_of_ble_eq_true rfl)) dX3_pass_58 ⟨Nat.le_of_ble_eq_true rfl, Nat.le_of_ble_eq_true rfl⟩) hP hD hS hA rfl (by decide) rfl (fun H locs hP hD hS => ?_)
            have hP : va_P (dC, dI) vwCl ([(x0, .inr (3, [.ref xq, .int (now + d)])), (xq, .inl (cH, 4, .inr (.inr (.inr (.inr xg))))), (had 0 0, .inr (1, [.ref (had 0 1), .ref (had 0 2), .int mk0, .int ho0, .int fl0, .int od0, .int td0, .int ps0, .int pr0, .ref (had 0 3)])), (had 0 1, .inr (0, [.ref (had 0 4), .ref (had 0 5), .ref (had 0 6), .ref (had 0 7), .int un0, .int de0])), (had 0 5, .inl (cZ, 20, .inl (zfg iT0 rD0 de0 (now + d) 20))), (had 0 7, .inl (cI, 20, .inl rD0)), (had 1 0, .inr (1, [.ref (had 1 1), .ref (had 1 2), .int mk1, .int ho1, .int fl1, .int od1, .int td1, .int ps1, .int pr1, .ref (had 1 3)])), (had 1 1, .inr (0, [.ref (had 1 4), .ref (had 1 5), .ref (had 1 6), .ref (had 1 7), .int un1, .int de1])), (had 1 5, .inl (cZ, 20, .inl (zfg iT1 rD1 de1 (now + d) 20))), (had 1 7, .inl (cI, 20, .inl rD1)), (had 2 0, .inr (1, [.ref (had 2 1), .ref (had 2 2), .int mk2, .int ho2, .int fl2, .int od2, .int td2, .int ps2, .int pr2, .ref (had 2 3)])), (had 2 1, .inr (0, [.ref (had 2 4), .ref (had 2 5), .ref (had 2 6), .ref (had 2 7), .int un2, .int de2])), (had 2 5, .inl (cZ, 20, .inl (zfg iT2 rD2 de2 (now + d) 20))), (had 2 7, .inl (cI, 20, .inl rD2)), (had 3 0, .inr (1, [.ref (had 3 1), .ref (had 3 2), .int mk3, .int ho3, .int fl3, .int od3, .int td3, .int ps3, .int pr3, .ref (had 3 3)])), (had 3 1, .inr (0, [.ref (had 3 4), .ref (had 3 5), .ref (had 3 6), .ref (had 3 7), .int un3, .int de3])), (had 3 5, .inl (cZ, 20, .inl (zfg iT3 rD3 de3 (now + d) 20))), (had 3 7, .inl (cI, 20, .inl rD3))]) H := hP
            have hD : va_D A ([(x0, .inr (3, [.ref xq, .int (now + d)])), (xq, .inl (cH, 4, .inr (.inr (.inr (.inr xg))))), (had 0 0, .inr (1, [.ref (had 0 1), .ref (had 0 2), .int mk0, .int ho0, .int fl0, .int od0, .int td0, .int ps0, .int pr0, .ref (had 0 3)])), (had 0 1, .inr (0, [.ref (had 0 4), .ref (had 0 5), .ref (had 0 6), .ref (had 0 7), .int un0, .int de0])), (had 0 5, .inl (cZ, 20, .inl (zfg iT0 rD0 de0 (now + d) 20))), (had 0 7, .inl (cI, 20, .inl rD0)), (had 1 0, .inr (1, [.ref (had 1 1), .ref (had 1 2), .int mk1, .int ho1, .int fl1, .int od1, .int td1, .int ps1, .int pr1, .ref (had 1 3)])), (had 1 1, .inr (0, [.ref (had 1 4), .ref (had 1 5), .ref (had 1 6), .ref (had 1 7), .int un1, .int de1])), (had 1 5, .inl (cZ, 20, .inl (zfg iT1 rD1 de1 (now + d) 20))), (had 1 7, .inl (cI, 20, .inl rD1)), (had 2 0, .inr (1, [.ref (had 2 1), .ref (had 2 2), .int mk2, .int ho2, .int fl2, .int od2, .int td2, .int ps2, .int pr2, .ref (had 2 3)])), (had 2 1, .inr (0, [.ref (had 2 4), .ref (had 2 5), .ref (had 2 6), .ref (had 2 7), .int un2, .int de2])), (had 2 5, .inl (cZ, 20, .inl (zfg iT2 rD2 de2 (now + d) 20))), (had 2 7, .inl (cI, 20, .inl rD2)), (had 3 0, .inr (1, [.ref (had 3 1), .ref (had 3 2), .int mk3, .int ho3, .int fl3, .int od3, .int td3, .int ps3, .int pr3, .ref (had 3 3)])), (had 3 1, .inr (0, [.ref (had 3 4), .ref (had 3 5), .ref (had 3 6), .ref (had 3 7), .int un3, .int de3])), (had 3 5, .inl (cZ, 20, .inl (zfg iT3 rD3 de3 (now + d) 20))), (had 3 7, .inl (cI, 20, .inl rD3))]) := hD
            refine lv_iinc (v := 4) (lv' := [(2, .int 4), (0, .ref x0), (1, .int d)]) hx hb dX3_pass_61 hl (k := 0) rfl (by decide) (by decide) rfl (fun ls hl => ?_)
            refine lv_goto (tgt := 41) hx hb dX3_pass_64 (by decide) ?_
            refine lv_iload_n hx hb dX3_pass_41 rfl (lv_at hl 0 rfl) ?_
            refine lv_iconst (v := 4) hx hb dX3_pass_42 (by decide) ?_
            refine lv_icmp_ge (tgt := 67) hx hb dX3_pass_43 (by decide) (fun c_43 => ?_) (fun c_43 => ?_)
            · skip
              refine lv_aload_n hx hb dX3_pass_67 rfl (lv_at hl 1 rfl) ?_
              refine va_get (D := (dC, dI)) (ci := 3) (v := .int (now + d)) (C := RX3) (T := TX3) (N := 2) hx hb hts hiX3 hown hK hP 0 rfl rfl 1 (by decide) l16 (fun _ h9 => h9) rfl dX3_pass_68 ?_
              exact W.iret hx hb hr (fun t ht hW => ⟨rfl, ⟨by rw [ht]; exact hP, hD⟩, hS.F ht⟩) hS.2.2 dX3_pass_71
            · exact absurd c_43 (by decide)
  · exact absurd hle c_16
set_option maxHeartbeats 4000000 in
set_option maxRecDepth 100000 in
/-- pass, too far -/
theorem kX3_pass_no (l : Launch) (dC : Nat → ClassId) (dI : Nat → Nat → Nat) (cI cZ cH cJ : ClassId) (x0 : Nat) (xq : Nat) (now : Int32) (xg : Nat → Option Nat) (d : Int32) (hd1 : zin d 1 100 = 1) (hle : ¬ now + d ≤ 5000) (hst : l.stackTraces = false) : vx_Met l yX3_pass wsX3_pass ({ frames := 7, cells := 1, slots := 6, locals := 112 }) (zXc dC dI (zTy cI cZ cH cJ) [.ref x0, .int d] ([(x0, .inr (3, [.ref xq, .int now])), (xq, .inl (cH, 4, .inr (.inr (.inr (.inr xg)))))])) zXQ (zXC zISE) 1 6 (fun _ => False) := by
  refine vx_ofW (cc := cX3_pass) (maxL := 3) (ret := (some .int)) (by decide) rfl ?_
  intro p e s m args below meth c s₁ B hml ht hv0
  obtain ⟨rfl, hT, hP, hK⟩ := hv0
  have hx := B.exec
  have hb := B.bytes
  have hr := B.returns
  have hts := atoms_spec (ws := wsX3_pass) B.pre
  have hown : s.vm.findClass RX3 = some m.cls := findClass_of_methodNamed B.named
  have hlocks := B.notSynchronized
  have hl := lv_entry ([.ref x0, .int d]) (n := 3) (Nat.le_of_ble_eq_true rfl)
  rw [lg_entry_eq]
  generalize (lg_sl ([.ref x0, .int d]) ++ List.replicate (3 - (lg_sl ([.ref x0, .int d])).length) Slot.unset).toArray = ls at hl ⊢
  have hl : lv_has ls 3 [(0, .ref x0), (1, .int d)] := hl
  have hiX3 : ∀ w ∈ wsX30, w ∈ wsX3_pass := by decide +kernel
  have l16 := hts (.fieldLink RX3 16 "CatalogueHarvester" "today" "I") (by decide +kernel)
  refine lv_iload_n hx hb dX3_pass_0 rfl (lv_at hl 1 rfl) ?_
  refine lv_iconst (v := 1) hx hb dX3_pass_1 (by decide) ?_
  refine lv_bipush (v := 100) hx hb dX3_pass_2 (by decide) ?_
  refine z_cRv (va_runS (As := [.int d, .int 1, .int 100]) (rest := []) ⟨hx, hb, hml, hown, hts⟩ (kX3_refuseOutside_ok l d 1 100 (hd1)) (va_cwS 3 hts gX3_pass_X3_refuseOutside rfl rfl rfl (by decide +kernel) ⟨Nat.le_of_ble_eq_true rfl, Nat.le_of_ble_eq_true rfl⟩) (zPre0) rfl rfl hl.1 rfl (lv_room (Nat.le_of_ble_eq_true rfl)) dX3_pass_4 ⟨Nat.le_of_ble_eq_true rfl, Nat.le_of_ble_eq_true rfl⟩) ?_
  refine lv_aload_n hx hb dX3_pass_7 rfl (lv_at hl 0 rfl) ?_
  refine va_get (D := (dC, dI)) (ci := 3) (v := .int now) (C := RX3) (T := TX3) (N := 2) hx hb hts hiX3 hown hK hP 0 rfl rfl 1 (by decide) l16 (fun _ h9 => h9) rfl dX3_pass_8 ?_
  refine lv_iload_n hx hb dX3_pass_11 rfl (lv_at hl 1 rfl) ?_
  refine lv_iadd hx hb dX3_pass_12 ?_
  refine lv_sipush (v := 5000) hx hb dX3_pass_13 (by decide) ?_
  refine lv_icmp_le (tgt := 29) hx hb dX3_pass_16 (by decide) (fun c_16 => ?_) (fun c_16 => ?_)
  · exact absurd c_16 hle
  · skip
    exact z_throw (ik := 61) (ic := 65) (is := 72) (text := "today would be above 5000") hx hb hst hown zf_ISE (hts (.classLink RX3 61 zISE) (by decide +kernel)) (hts (.initialized zISE) (by decide +kernel)) hT hT.2.2.2.2.2.2.1 (fun w h => hts w (List.mem_cons_of_mem _ (List.mem_append_left _ (List.mem_append_right _ h)))) zb_ISE zg_ISE hml hl.1 dX3_pass_19 dX3_pass_22 dX3_pass_23 dX3_pass_25 dX3_pass_28 ht hlocks (by decide) (by decide) (by decide) (by decide) (by decide) (by decide)
set_option maxHeartbeats 4000000 in
set_option maxRecDepth 100000 in
/-- pass, out of range -/
theorem kX3_pass_bad (l : Launch) (dC : Nat → ClassId) (dI : Nat → Nat → Nat) (cI cZ cH cJ : ClassId) (x0 : Nat) (xq : Nat) (now : Int32) (xg : Nat → Option Nat) (d : Int32) (hv : ¬ zin d 1 100 = 1) (hst : l.stackTraces = false) : vx_Met l yX3_pass wsX3_pass ({ frames := 7, cells := 1, slots := 6, locals := 112 }) (zXc dC dI (zTy cI cZ cH cJ) [.ref x0, .int d] ([(x0, .inr (3, [.ref xq, .int now])), (xq, .inl (cH, 4, .inr (.inr (.inr (.inr xg)))))])) zXQ (zXC zIAE) 1 6 (fun _ => False) := by
  refine vx_ofW (cc := cX3_pass) (maxL := 3) (ret := (some .int)) (by decide) rfl ?_
  intro p e s m args below meth c s₁ B hml ht hv0
  obtain ⟨rfl, hT, hP, hK⟩ := hv0
  have hx := B.exec
  have hb := B.bytes
  have hr := B.returns
  have hts := atoms_spec (ws := wsX3_pass) B.pre
  have hown : s.vm.findClass RX3 = some m.cls := findClass_of_methodNamed B.named
  have hlocks := B.notSynchronized
  have hl := lv_entry ([.ref x0, .int d]) (n := 3) (Nat.le_of_ble_eq_true rfl)
  rw [lg_entry_eq]
  generalize (lg_sl ([.ref x0, .int d]) ++ List.replicate (3 - (lg_sl ([.ref x0, .int d])).length) Slot.unset).toArray = ls at hl ⊢
  have hl : lv_has ls 3 [(0, .ref x0), (1, .int d)] := hl
  refine lv_iload_n hx hb dX3_pass_0 rfl (lv_at hl 1 rfl) ?_
  refine lv_iconst (v := 1) hx hb dX3_pass_1 (by decide) ?_
  refine lv_bipush (v := 100) hx hb dX3_pass_2 (by decide) ?_
  exact z_cX (vx_runS (As := [.int d, .int 1, .int 100]) (rest := []) ⟨hx, hb, hml, hown, hts⟩ (kX3_refuseOutside_bad l dC dI cI cZ cH cJ d 1 100 (hv) hst) (va_cwS 3 hts gX3_pass_X3_refuseOutside rfl rfl rfl (by decide +kernel) ⟨Nat.le_of_ble_eq_true rfl, Nat.le_of_ble_eq_true rfl⟩) (zPreXS (is := []) hT hK hP rfl) rfl rfl hl.1 rfl (lv_room (Nat.le_of_ble_eq_true rfl)) dX3_pass_4 ⟨Nat.le_of_ble_eq_true rfl, Nat.le_of_ble_eq_true rfl⟩) hlocks ht (by decide) (by decide)
set_option maxHeartbeats 4000000 in
set_option maxRecDepth 100000 in
/-- copies -/
theorem kX3_copies_ok (l : Launch) (dC : Nat → ClassId) (dI : Nat → Nat → Nat) (cI cZ cH cJ : ClassId) (x0 : Nat) (xq : Nat) (now : Int32) (xg : Nat → Option Nat) (had : Nat → Nat → Nat) (hg : ∀ i, i < 4 → xg i = some (had i 0)) (mk0 : Int32) (ho0 : Int32) (fl0 : Int32) (od0 : Int32) (td0 : Int32) (ps0 : Int32) (pr0 : Int32) (sT0 : zI) (sW0 : zI) (sV0 : zI) (sS0 : zI) (mk1 : Int32) (ho1 : Int32) (fl1 : Int32) (od1 : Int32) (td1 : Int32) (ps1 : Int32) (pr1 : Int32) (sT1 : zI) (sW1 : zI) (sV1 : zI) (sS1 : zI) (mk2 : Int32) (ho2 : Int32) (fl2 : Int32) (od2 : Int32) (td2 : Int32) (ps2 : Int32) (pr2 : Int32) (sT2 : zI) (sW2 : zI) (sV2 : zI) (sS2 : zI) (mk3 : Int32) (ho3 : Int32) (fl3 : Int32) (od3 : Int32) (td3 : Int32) (ps3 : Int32) (pr3 : Int32) (sT3 : zI) (sW3 : zI) (sV3 : zI) (sS3 : zI) (w : Int32) (hw1 : zin w 0 9 = 1) : Met l yX3_copies wsX3_copies ({ frames := 1, cells := 0, slots := 0, locals := 23 }) (zRc dC dI (zTy cI cZ cH cJ) [.ref x0, .int w] ([(x0, .inr (3, [.ref xq, .int now])), (xq, .inl (cH, 4, .inr (.inr (.inr (.inr xg))))), (had 0 0, .inr (1, [.ref (had 0 1), .ref (had 0 2), .int mk0, .int ho0, .int fl0, .int od0, .int td0, .int ps0, .int pr0, .ref (had 0 3)])), (had 0 2, .inr (2, [.ref (had 0 8), .ref (had 0 9), .ref (had 0 10), .ref (had 0 11)])), (had 0 8, .inl (cZ, 20, .inl sT0)), (had 0 9, .inl (cI, 20, .inl sW0)), (had 0 10, .inl (cI, 20, .inl sV0)), (had 0 11, .inl (cI, 20, .inl sS0)), (had 1 0, .inr (1, [.ref (had 1 1), .ref (had 1 2), .int mk1, .int ho1, .int fl1, .int od1, .int td1, .int ps1, .int pr1, .ref (had 1 3)])), (had 1 2, .inr (2, [.ref (had 1 8), .ref (had 1 9), .ref (had 1 10), .ref (had 1 11)])), (had 1 8, .inl (cZ, 20, .inl sT1)), (had 1 9, .inl (cI, 20, .inl sW1)), (had 1 10, .inl (cI, 20, .inl sV1)), (had 1 11, .inl (cI, 20, .inl sS1)), (had 2 0, .inr (1, [.ref (had 2 1), .ref (had 2 2), .int mk2, .int ho2, .int fl2, .int od2, .int td2, .int ps2, .int pr2, .ref (had 2 3)])), (had 2 2, .inr (2, [.ref (had 2 8), .ref (had 2 9), .ref (had 2 10), .ref (had 2 11)])), (had 2 8, .inl (cZ, 20, .inl sT2)), (had 2 9, .inl (cI, 20, .inl sW2)), (had 2 10, .inl (cI, 20, .inl sV2)), (had 2 11, .inl (cI, 20, .inl sS2)), (had 3 0, .inr (1, [.ref (had 3 1), .ref (had 3 2), .int mk3, .int ho3, .int fl3, .int od3, .int td3, .int ps3, .int pr3, .ref (had 3 3)])), (had 3 2, .inr (2, [.ref (had 3 8), .ref (had 3 9), .ref (had 3 10), .ref (had 3 11)])), (had 3 8, .inl (cZ, 20, .inl sT3)), (had 3 9, .inl (cI, 20, .inl sW3)), (had 3 10, .inl (cI, 20, .inl sV3)), (had 3 11, .inl (cI, 20, .inl sS3))])) (zSi (0 + zcow sT0 sW0 w 20 + zcow sT1 sW1 w 20 + zcow sT2 sW2 w 20 + zcow sT3 sW3 w 20)) 0 0 (fun _ => False) := by
  refine Met.ofW (cc := cX3_copies) (maxL := 4) (ret := (some .int)) (by decide) rfl ?_
  intro p e s m args below meth c s₁ B hml hv0
  obtain ⟨rfl, hP, hK⟩ := hv0
  have hx := B.exec
  have hb := B.bytes
  have hr := B.returns
  have hts := atoms_spec (ws := wsX3_copies) B.pre
  have hown : s.vm.findClass RX3 = some m.cls := findClass_of_methodNamed B.named
  have hlocks := B.notSynchronized
  have hl := lv_entry ([.ref x0, .int w]) (n := 4) (Nat.le_of_ble_eq_true rfl)
  rw [lg_entry_eq]
  generalize (lg_sl ([.ref x0, .int w]) ++ List.replicate (4 - (lg_sl ([.ref x0, .int w])).length) Slot.unset).toArray = ls at hl ⊢
  have hl : lv_has ls 4 [(0, .ref x0), (1, .int w)] := hl
  have hiX1 : ∀ w ∈ wsX10, w ∈ wsX3_copies := by decide +kernel
  have l101 := hts (.fieldLink RX3 101 "CatalogueHarvester$Harvest" "store" "LCatalogueHarvester$Records;") (by decide +kernel)
  refine lv_iload_n hx hb dX3_copies_0 rfl (lv_at hl 1 rfl) ?_
  refine lv_iconst (v := 0) hx hb dX3_copies_1 (by decide) ?_
  refine lv_bipush (v := 9) hx hb dX3_copies_2 (by decide) ?_
  refine z_cRv (va_runS (As := [.int w, .int 0, .int 9]) (rest := []) ⟨hx, hb, hml, hown, hts⟩ (kX3_refuseOutside_ok l w 0 9 (hw1)) (va_cwS 3 hts gX3_copies_X3_refuseOutside rfl rfl rfl (by decide +kernel) ⟨Nat.le_of_ble_eq_true rfl, Nat.le_of_ble_eq_true rfl⟩) (zPre0) rfl rfl hl.1 rfl (lv_room (Nat.le_of_ble_eq_true rfl)) dX3_copies_4 ⟨Nat.le_of_ble_eq_true rfl, Nat.le_of_ble_eq_true rfl⟩) ?_
  refine lv_iconst (v := 0) hx hb dX3_copies_7 (by decide) ?_
  refine lv_istore_n (lv' := [(2, .int 0), (0, .ref x0), (1, .int w)]) hx hb dX3_copies_8 rfl hl (by decide) rfl (fun ls hl => ?_)
  refine lv_iconst (v := 0) hx hb dX3_copies_9 (by decide) ?_
  refine lv_istore_n (lv' := [(3, .int 0), (2, .int 0), (0, .ref x0), (1, .int w)]) hx hb dX3_copies_10 rfl hl (by decide) rfl (fun ls hl => ?_)
  refine lv_iload_n hx hb dX3_copies_11 rfl (lv_at hl 0 rfl) ?_
  refine lv_iconst (v := 4) hx hb dX3_copies_12 (by decide) ?_
  refine lv_icmp_ge (tgt := 37) hx hb dX3_copies_13 (by decide) (fun c_13 => ?_) (fun c_13 => ?_)
  · exact absurd c_13 (by decide)
  · skip
    refine lv_iload_n hx hb dX3_copies_16 rfl (lv_at hl 1 rfl) ?_
    refine lv_aload_n hx hb dX3_copies_17 rfl (lv_at hl 2 rfl) ?_
    refine lv_iload_n hx hb dX3_copies_18 rfl (lv_at hl 0 rfl) ?_
    refine z_cRr (va_runV (As := [.int 0]) (rest := [.int 0]) ⟨hx, hb, hml, hown, hts⟩ (kX3_harvestOf_ok l dC dI cI cZ cH cJ x0 xq now xg (had 0 0) 0 (by decide) (hg 0 (by decide))) (cwV 1 hts gX3_copies_X3_harvestOf rfl rfl rfl (by decide +kernel) ⟨Nat.le_of_ble_eq_true rfl, Nat.le_of_ble_eq_true rfl⟩) (zPreR (is := [0, 1]) hK hP rfl (va_recv hK hP (ci := 3) (q0 := 0) rfl rfl)) rfl rfl hl.1 rfl (lv_room (Nat.le_of_ble_eq_true rfl)) dX3_copies_19 ⟨Nat.le_of_ble_eq_true rfl, Nat.le_of_ble_eq_true rfl⟩) ?_
    refine va_get (D := (dC, dI)) (ci := 1) (v := .ref (had 0 2)) (C := RX1) (T := TX1) (N := 10) hx hb hts hiX1 hown hK hP 2 rfl rfl 1 (by decide) l101 (fun _ h9 => h9) rfl dX3_copies_22 ?_
    refine lv_iload_n hx hb dX3_copies_25 rfl (lv_at hl 3 rfl) ?_
    refine z_cRi (va_runV (As := [.int w]) (rest := [.int 0]) ⟨hx, hb, hml, hown, hts⟩ (kX2_countOfWork l dC dI cI cZ cH cJ (had 0 2) (had 0 8) (had 0 9) (had 0 10) (had 0 11) sT0 sW0 w) (cwV 1 hts gX3_copies_X2_countOfWork rfl rfl rfl (by decide +kernel) ⟨Nat.le_of_ble_eq_true rfl, Nat.le_of_ble_eq_true rfl⟩) (zPreR (is := [3, 4, 5]) hK hP rfl (va_recv hK hP (ci := 2) (q0 := 3) rfl rfl)) rfl rfl hl.1 rfl (lv_room (Nat.le_of_ble_eq_true rfl)) dX3_copies_26 ⟨Nat.le_of_ble_eq_true rfl, Nat.le_of_ble_eq_true rfl⟩) ?_
    refine z_tv (v := zcow sT0 sW0 w 20) rfl ?_
    refine lv_iadd hx hb dX3_copies_29 ?_
    refine lv_istore_n (lv' := [(2, .int (0 + (zcow sT0 sW0 w 20))), (3, .int 0), (0, .ref x0), (1, .int w)]) hx hb dX3_copies_30 rfl hl (by decide) rfl (fun ls hl => ?_)
    refine lv_iinc (v := 1) (lv' := [(3, .int 1), (2, .int (0 + (zcow sT0 sW0 w 20))), (0, .ref x0), (1, .int w)]) hx hb dX3_copies_31 hl (k := 1) rfl (by decide) (by decide) rfl (fun ls hl => ?_)
    refine lv_goto (tgt := 11) hx hb dX3_copies_34 (by decide) ?_
    refine lv_iload_n hx hb dX3_copies_11 rfl (lv_at hl 0 rfl) ?_
    refine lv_iconst (v := 4) hx hb dX3_copies_12 (by decide) ?_
    refine lv_icmp_ge (tgt := 37) hx hb dX3_copies_13 (by decide) (fun c_13 => ?_) (fun c_13 => ?_)
    · exact absurd c_13 (by decide)
    · skip
      refine lv_iload_n hx hb dX3_copies_16 rfl (lv_at hl 1 rfl) ?_
      refine lv_aload_n hx hb dX3_copies_17 rfl (lv_at hl 2 rfl) ?_
      refine lv_iload_n hx hb dX3_copies_18 rfl (lv_at hl 0 rfl) ?_
      refine z_cRr (va_runV (As := [.int 1]) (rest := [.int (0 + (zcow sT0 sW0 w 20))]) ⟨hx, hb, hml, hown, hts⟩ (kX3_harvestOf_ok l dC dI cI cZ cH cJ x0 xq now xg (had 1 0) 1 (by decide) (hg 1 (by decide))) (cwV 1 hts gX3_copies_X3_harvestOf rfl rfl rfl (by decide +kernel) ⟨Nat.le_of_ble_eq_true rfl, Nat.le_of_ble_eq_true rfl⟩) (zPreR (is := [0, 1]) hK hP rfl (va_recv hK hP (ci := 3) (q0 := 0) rfl rfl)) rfl rfl hl.1 rfl (lv_room (Nat.le_of_ble_eq_true rfl)) dX3_copies_19 ⟨Nat.le_of_ble_eq_true rfl, Nat.le_of_ble_eq_true rfl⟩) ?_
      refine va_get (D := (dC, dI)) (ci := 1) (v := .ref (had 1 2)) (C := RX1) (T := TX1) (N := 10) hx hb hts hiX1 hown hK hP 8 rfl rfl 1 (by decide) l101 (fun _ h9 => h9) rfl dX3_copies_22 ?_
      refine lv_iload_n hx hb dX3_copies_25 rfl (lv_at hl 3 rfl) ?_
      refine z_cRi (va_runV (As := [.int w]) (rest := [.int (0 + (zcow sT0 sW0 w 20))]) ⟨hx, hb, hml, hown, hts⟩ (kX2_countOfWork l dC dI cI cZ cH cJ (had 1 2) (had 1 8) (had 1 9) (had 1 10) (had 1 11) sT1 sW1 w) (cwV 1 hts gX3_copies_X2_countOfWork rfl rfl rfl (by decide +kernel) ⟨Nat.le_of_ble_eq_true rfl, Nat.le_of_ble_eq_true rfl⟩) (zPreR (is := [9, 10, 11]) hK hP rfl (va_recv hK hP (ci := 2) (q0 := 9) rfl rfl)) rfl rfl hl.1 rfl (lv_room (Nat.le_of_ble_eq_true rfl)) dX3_copies_26 ⟨Nat.le_of_ble_eq_true rfl, Nat.le_of_ble_eq_true rfl⟩) ?_
      refine z_tv (v := zcow sT1 sW1 w 20) rfl ?_
      refine lv_iadd hx hb dX3_copies_29 ?_
      refine lv_istore_n (lv' := [(2, .int ((0 + (zcow sT0 sW0 w 20)) + (zcow sT1 sW1 w 20))), (3, .int 1), (0, .ref x0), (1, .int w)]) hx hb dX3_copies_30 rfl hl (by decide) rfl (fun ls hl => ?_)
      refine lv_iinc (v := 2) (lv' := [(3, .int 2), (2, .int ((0 + (zcow sT0 sW0 w 20)) + (zcow sT1 sW1 w 20))), (0, .ref x0), (1, .int w)]) hx hb dX3_copies_31 hl (k := 1) rfl (by decide) (by decide) rfl (fun ls hl => ?_)
      refine lv_goto (tgt := 11) hx hb dX3_copies_34 (by decide) ?_
      refine lv_iload_n hx hb dX3_copies_11 rfl (lv_at hl 0 rfl) ?_
      refine lv_iconst (v := 4) hx hb dX3_copies_12 (by decide) ?_
      refine lv_icmp_ge (tgt := 37) hx hb dX3_copies_13 (by decide) (fun c_13 => ?_) (fun c_13 => ?_)
      · exact absurd c_13 (by decide)
      · skip
        refine lv_iload_n hx hb dX3_copies_16 rfl (lv_at hl 1 rfl) ?_
        refine lv_aload_n hx hb dX3_copies_17 rfl (lv_at hl 2 rfl) ?_
        refine lv_iload_n hx hb dX3_copies_18 rfl (lv_at hl 0 rfl) ?_
        refine z_cRr (va_runV (As := [.int 2]) (rest := [.int ((0 + (zcow sT0 sW0 w 20)) + (zcow sT1 sW1 w 20))]) ⟨hx, hb, hml, hown, hts⟩ (kX3_harvestOf_ok l dC dI cI cZ cH cJ x0 xq now xg (had 2 0) 2 (by decide) (hg 2 (by decide))) (cwV 1 hts gX3_copies_X3_harvestOf rfl rfl rfl (by decide +kernel) ⟨Nat.le_of_ble_eq_true rfl, Nat.le_of_ble_eq_true rfl⟩) (zPreR (is := [0, 1]) hK hP rfl (va_recv hK hP (ci := 3) (q0 := 0) rfl rfl)) rfl rfl hl.1 rfl (lv_room (Nat.le_of_ble_eq_true rfl)) dX3_copies_19 ⟨Nat.le_of_ble_eq_true rfl, Nat.le_of_ble_eq_true rfl⟩) ?_
        refine va_get (D := (dC, dI)) (ci := 1) (v := .ref (had 2 2)) (C := RX1) (T := TX1) (N := 10) hx hb hts hiX1 hown hK hP 14 rfl rfl 1 (by decide) l101 (fun _ h9 => h9) rfl dX3_copies_22 ?_
        refine lv_iload_n hx hb dX3_copies_25 rfl (lv_at hl 3 rfl) ?_
        refine z_cRi (va_runV (As := [.int w]) (rest := [.int ((0 + (zcow sT0 sW0 w 20)) + (zcow sT1 sW1 w 20))]) ⟨hx, hb, hml, hown, hts⟩ (kX2_countOfWork l dC dI cI cZ cH cJ (had 2 2) (had 2 8) (had 2 9) (had 2 10) (had 2 11) sT2 sW2 w) (cwV 1 hts gX3_copies_X2_countOfWork rfl rfl rfl (by decide +kernel) ⟨Nat.le_of_ble_eq_true rfl, Nat.le_of_ble_eq_true rfl⟩) (zPreR (is := [15, 16, 17]) hK hP rfl (va_recv hK hP (ci := 2) (q0 := 15) rfl rfl)) rfl rfl hl.1 rfl (lv_room (Nat.le_of_ble_eq_true rfl)) dX3_copies_26 ⟨Nat.le_of_ble_eq_true rfl, Nat.le_of_ble_eq_true rfl⟩) ?_
        refine z_tv (v := zcow sT2 sW2 w 20) rfl ?_
        refine lv_iadd hx hb dX3_copies_29 ?_
        refine lv_istore_n (lv' := [(2, .int (((0 + (zcow sT0 sW0 w 20)) + (zcow sT1 sW1 w 20)) + (zcow sT2 sW2 w 20))), (3, .int 2), (0, .ref x0), (1, .int w)]) hx hb dX3_copies_30 rfl hl (by decide) rfl (fun ls hl => ?_)
        refine lv_iinc (v := 3) (lv' := [(3, .int 3), (2, .int (((0 + (zcow sT0 sW0 w 20)) + (zcow sT1 sW1 w 20)) + (zcow sT2 sW2 w 20))), (0, .ref x0), (1, .int w)]) hx hb dX3_copies_31 hl (k := 1) rfl (by decide) (by decide) rfl (fun ls hl => ?_)
        refine lv_goto (tgt := 11) hx hb dX3_copies_34 (by decide) ?_
        refine lv_iload_n hx hb dX3_copies_11 rfl (lv_at hl 0 rfl) ?_
        refine lv_iconst (v := 4) hx hb dX3_copies_12 (by decide) ?_
        refine lv_icmp_ge (tgt := 37) hx hb dX3_copies_13 (by decide) (fun c_13 => ?_) (fun c_13 => ?_)
        · exact absurd c_13 (by decide)
        · skip
          refine lv_iload_n hx hb dX3_copies_16 rfl (lv_at hl 1 rfl) ?_
          refine lv_aload_n hx hb dX3_copies_17 rfl (lv_at hl 2 rfl) ?_
          refine lv_iload_n hx hb dX3_copies_18 rfl (lv_at hl 0 rfl) ?_
          refine z_cRr (va_runV (As := [.int 3]) (rest := [.int (((0 + (zcow sT0 sW0 w 20)) + (zcow sT1 sW1 w 20)) + (zcow sT2 sW2 w 20))]) ⟨hx, hb, hml, hown, hts⟩ (kX3_harvestOf_ok l dC dI cI cZ cH cJ x0 xq now xg (had 3 0) 3 (by decide) (hg 3 (by decide))) (cwV 1 hts gX3_copies_X3_harvestOf rfl rfl rfl (by decide +kernel) ⟨Nat.le_of_ble_eq_true rfl, Nat.le_of_ble_eq_true rfl⟩) (zPreR (is := [0, 1]) hK hP rfl (va_recv hK hP (ci := 3) (q0 := 0) rfl rfl)) rfl rfl hl.1 rfl (lv_room (Nat.le_of_ble_eq_true rfl)) dX3_copies_19 ⟨Nat.le_of_ble_eq_true rfl, Nat.le_of_ble_eq_true rfl⟩) ?_
          refine va_get (D := (dC, dI)) (ci := 1) (v := .ref (had 3 2)) (C := RX1) (T := TX1) (N := 10) hx hb hts hiX1 hown hK hP 20 rfl rfl 1 (by decide) l101 (fun _ h9 => h9) rfl dX3_copies_22 ?_
          refine lv_iload_n hx hb dX3_copies_25 rfl (lv_at hl 3 rfl) ?_
          refine z_cRi (va_runV (As := [.int w]) (rest := [.int (((0 + (zcow sT0 sW0 w 20)) + (zcow sT1 sW1 w 20)) + (zcow sT2 sW2 w 20))]) ⟨hx, hb, hml, hown, hts⟩ (kX2_countOfWork l dC dI cI cZ cH cJ (had 3 2) (had 3 8) (had 3 9) (had 3 10) (had 3 11) sT3 sW3 w) (cwV 1 hts gX3_copies_X2_countOfWork rfl rfl rfl (by decide +kernel) ⟨Nat.le_of_ble_eq_true rfl, Nat.le_of_ble_eq_true rfl⟩) (zPreR (is := [21, 22, 23]) hK hP rfl (va_recv hK hP (ci := 2) (q0 := 21) rfl rfl)) rfl rfl hl.1 rfl (lv_room (Nat.le_of_ble_eq_true rfl)) dX3_copies_26 ⟨Nat.le_of_ble_eq_true rfl, Nat.le_of_ble_eq_true rfl⟩) ?_
          refine z_tv (v := zcow sT3 sW3 w 20) rfl ?_
          refine lv_iadd hx hb dX3_copies_29 ?_
          refine lv_istore_n (lv' := [(2, .int ((((0 + (zcow sT0 sW0 w 20)) + (zcow sT1 sW1 w 20)) + (zcow sT2 sW2 w 20)) + (zcow sT3 sW3 w 20))), (3, .int 3), (0, .ref x0), (1, .int w)]) hx hb dX3_copies_30 rfl hl (by decide) rfl (fun ls hl => ?_)
          refine lv_iinc (v := 4) (lv' := [(3, .int 4), (2, .int ((((0 + (zcow sT0 sW0 w 20)) + (zcow sT1 sW1 w 20)) + (zcow sT2 sW2 w 20)) + (zcow sT3 sW3 w 20))), (0, .ref x0), (1, .int w)]) hx hb dX3_copies_31 hl (k := 1) rfl (by decide) (by decide) rfl (fun ls hl => ?_)
          refine lv_goto (tgt := 11) hx hb dX3_copies_34 (by decide) ?_
          refine lv_iload_n hx hb dX3_copies_11 rfl (lv_at hl 0 rfl) ?_
          refine lv_iconst (v := 4) hx hb dX3_copies_12 (by decide) ?_
          refine lv_icmp_ge (tgt := 37) hx hb dX3_copies_13 (by decide) (fun c_13 => ?_) (fun c_13 => ?_)
          · skip
            refine lv_iload_n hx hb dX3_copies_37 rfl (lv_at hl 1 rfl) ?_
            refine z_tv (v := 0 + zcow sT0 sW0 w 20 + zcow sT1 sW1 w 20 + zcow sT2 sW2 w 20 + zcow sT3 sW3 w 20) (by simp [*]) ?_
            exact W.iret hx hb hr (fun t ht hW => ⟨rfl, ht⟩) (fun _ h => nomatch h) dX3_copies_38
          · exact absurd c_13 (by decide)
set_option maxHeartbeats 4000000 in
set_option maxRecDepth 100000 in
/-- copies, out of range -/
theorem kX3_copies_bad (l : Launch) (dC : Nat → ClassId) (dI : Nat → Nat → Nat) (cI cZ cH cJ : ClassId) (x0 : Nat) (xq : Nat) (now : Int32) (xg : Nat → Option Nat) (w : Int32) (hv : ¬ zin w 0 9 = 1) (hst : l.stackTraces = false) : vx_Met l yX3_copies wsX3_copies ({ frames := 7, cells := 1, slots := 6, locals := 112 }) (zXc dC dI (zTy cI cZ cH cJ) [.ref x0, .int w] ([(x0, .inr (3, [.ref xq, .int now])), (xq, .inl (cH, 4, .inr (.inr (.inr (.inr xg)))))])) zXQ (zXC zIAE) 1 6 (fun _ => False) := by
  refine vx_ofW (cc := cX3_copies) (maxL := 4) (ret := (some .int)) (by decide) rfl ?_
  intro p e s m args below meth c s₁ B hml ht hv0
  obtain ⟨rfl, hT, hP, hK⟩ := hv0
  have hx := B.exec
  have hb := B.bytes
  have hr := B.returns
  have hts := atoms_spec (ws := wsX3_copies) B.pre
  have hown : s.vm.findClass RX3 = some m.cls := findClass_of_methodNamed B.named
  have hlocks := B.notSynchronized
  have hl := lv_entry ([.ref x0, .int w]) (n := 4) (Nat.le_of_ble_eq_true rfl)
  rw [lg_entry_eq]
  generalize (lg_sl ([.ref x0, .int w]) ++ List.replicate (4 - (lg_sl ([.ref x0, .int w])).length) Slot.unset).toArray = ls at hl ⊢
  have hl : lv_has ls 4 [(0, .ref x0), (1, .int w)] := hl
  refine lv_iload_n hx hb dX3_copies_0 rfl (lv_at hl 1 rfl) ?_
  refine lv_iconst (v := 0) hx hb dX3_copies_1 (by decide) ?_
  refine lv_bipush (v := 9) hx hb dX3_copies_2 (by decide) ?_
  exact z_cX (vx_runS (As := [.int w, .int 0, .int 9]) (rest := []) ⟨hx, hb, hml, hown, hts⟩ (kX3_refuseOutside_bad l dC dI cI cZ cH cJ w 0 9 (hv) hst) (va_cwS 3 hts gX3_copies_X3_refuseOutside rfl rfl rfl (by decide +kernel) ⟨Nat.le_of_ble_eq_true rfl, Nat.le_of_ble_eq_true rfl⟩) (zPreXS (is := []) hT hK hP rfl) rfl rfl hl.1 rfl (lv_room (Nat.le_of_ble_eq_true rfl)) dX3_copies_4 ⟨Nat.le_of_ble_eq_true rfl, Nat.le_of_ble_eq_true rfl⟩) hlocks ht (by decide) (by decide)
set_option maxHeartbeats 4000000 in
set_option maxRecDepth 100000 in
/-- best, out of range -/
theorem kX3_best_bad (l : Launch) (dC : Nat → ClassId) (dI : Nat → Nat → Nat) (cI cZ cH cJ : ClassId) (x0 : Nat) (xq : Nat) (now : Int32) (xg : Nat → Option Nat) (w : Int32) (hv : ¬ zin w 0 9 = 1) (hst : l.stackTraces = false) : vx_Met l yX3_best wsX3_best ({ frames := 7, cells := 1, slots := 6, locals := 112 }) (zXc dC dI (zTy cI cZ cH cJ) [.ref x0, .int w] ([(x0, .inr (3, [.ref xq, .int now])), (xq, .inl (cH, 4, .inr (.inr (.inr (.inr xg)))))])) zXQ (zXC zIAE) 1 6 (fun _ => False) := by
  refine vx_ofW (cc := cX3_best) (maxL := 7) (ret := (some .int)) (by decide) rfl ?_
  intro p e s m args below meth c s₁ B hml ht hv0
  obtain ⟨rfl, hT, hP, hK⟩ := hv0
  have hx := B.exec
  have hb := B.bytes
  have hr := B.returns
  have hts := atoms_spec (ws := wsX3_best) B.pre
  have hown : s.vm.findClass RX3 = some m.cls := findClass_of_methodNamed B.named
  have hlocks := B.notSynchronized
  have hl := lv_entry ([.ref x0, .int w]) (n := 7) (Nat.le_of_ble_eq_true rfl)
  rw [lg_entry_eq]
  generalize (lg_sl ([.ref x0, .int w]) ++ List.replicate (7 - (lg_sl ([.ref x0, .int w])).length) Slot.unset).toArray = ls at hl ⊢
  have hl : lv_has ls 7 [(0, .ref x0), (1, .int w)] := hl
  refine lv_iload_n hx hb dX3_best_0 rfl (lv_at hl 1 rfl) ?_
  refine lv_iconst (v := 0) hx hb dX3_best_1 (by decide) ?_
  refine lv_bipush (v := 9) hx hb dX3_best_2 (by decide) ?_
  exact z_cX (vx_runS (As := [.int w, .int 0, .int 9]) (rest := []) ⟨hx, hb, hml, hown, hts⟩ (kX3_refuseOutside_bad l dC dI cI cZ cH cJ w 0 9 (hv) hst) (va_cwS 3 hts gX3_best_X3_refuseOutside rfl rfl rfl (by decide +kernel) ⟨Nat.le_of_ble_eq_true rfl, Nat.le_of_ble_eq_true rfl⟩) (zPreXS (is := []) hT hK hP rfl) rfl rfl hl.1 rfl (lv_room (Nat.le_of_ble_eq_true rfl)) dX3_best_4 ⟨Nat.le_of_ble_eq_true rfl, Nat.le_of_ble_eq_true rfl⟩) hlocks ht (by decide) (by decide)
