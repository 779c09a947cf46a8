theorem z_n01 (c : Prop) [Decidable c] : narrow .boolean (.int (if c then (0 : Int32) else 1)) = .int (if c then (0 : Int32) else 1) := by split <;> rfl
set_option maxHeartbeats 4000000 in
set_option maxRecDepth 100000 in
/-- Model.setCatalogue_ok -/
theorem kX4_setCatalogue_ok (l : Launch) (dC : Nat → ClassId) (dI : Nat → Nat → Nat) (cI cZ cH cJ : ClassId) (ma : Nat → Nat) (now : Int32) (th : Int32) (uU : zI) (uY : zI) (uK : zI) (uR : zI) (ca : Nat) (hca : ca < 4) (b : Int32) (w : Int32) (hb1 : zin b 1 30 = 1) (hw1 : zin w 0 2 = 1) (sz : Nat) : Met l yX4_setCatalogue wsX4_setCatalogue ({ frames := 2, cells := 0, slots := 0, locals := 42 }) (zPc dC dI (zTy cI cZ cH cJ) [.ref (ma 0), .int (nI ca), .int b, .int w] sz ([(ma 0, .inr (4, [.int now, .ref (ma 1), .ref (ma 2), .ref (ma 3), .ref (ma 4), .ref (ma 5), .ref (ma 6), .ref (ma 7), .ref (ma 8), .ref (ma 9), .ref (ma 10), .ref (ma 11), .ref (ma 12), .ref (ma 13), .ref (ma 14), .ref (ma 15), .ref (ma 16), .ref (ma 17), .ref (ma 18), .ref (ma 19), .ref (ma 20), .int th])), (ma 1, .inl (cI, 4, .inl uU)), (ma 2, .inl (cI, 4, .inl uY)), (ma 3, .inl (cI, 80, .inl uK)), (ma 7, .inl (cI, 80, .inl uR))])) (zQi dC dI (uU ca) ([(ma 0, .inr (4, [.int now, .ref (ma 1), .ref (ma 2), .ref (ma 3), .ref (ma 4), .ref (ma 5), .ref (ma 6), .ref (ma 7), .ref (ma 8), .ref (ma 9), .ref (ma 10), .ref (ma 11), .ref (ma 12), .ref (ma 13), .ref (ma 14), .ref (ma 15), .ref (ma 16), .ref (ma 17), .ref (ma 18), .ref (ma 19), .ref (ma 20), .int 0])), (ma 1, .inl (cI, 4, .inl (upd uU ca b))), (ma 2, .inl (cI, 4, .inl (upd uY ca w))), (ma 3, .inl (cI, 80, .inl (yclr uK uR w now (20 * ca) 20))), (ma 7, .inl (cI, 80, .inl uR))]) (va_A ([(ma 0, .inr (4, [.int now, .ref (ma 1), .ref (ma 2), .ref (ma 3), .ref (ma 4), .ref (ma 5), .ref (ma 6), .ref (ma 7), .ref (ma 8), .ref (ma 9), .ref (ma 10), .ref (ma 11), .ref (ma 12), .ref (ma 13), .ref (ma 14), .ref (ma 15), .ref (ma 16), .ref (ma 17), .ref (ma 18), .ref (ma 19), .ref (ma 20), .int th])), (ma 1, .inl (cI, 4, .inl uU)), (ma 2, .inl (cI, 4, .inl uY)), (ma 3, .inl (cI, 80, .inl uK)), (ma 7, .inl (cI, 80, .inl uR))]) sz)) 0 0 (va_A ([(ma 0, .inr (4, [.int now, .ref (ma 1), .ref (ma 2), .ref (ma 3), .ref (ma 4), .ref (ma 5), .ref (ma 6), .ref (ma 7), .ref (ma 8), .ref (ma 9), .ref (ma 10), .ref (ma 11), .ref (ma 12), .ref (ma 13), .ref (ma 14), .ref (ma 15), .ref (ma 16), .ref (ma 17), .ref (ma 18), .ref (ma 19), .ref (ma 20), .int th])), (ma 1, .inl (cI, 4, .inl uU)), (ma 2, .inl (cI, 4, .inl uY)), (ma 3, .inl (cI, 80, .inl uK)), (ma 7, .inl (cI, 80, .inl uR))]) sz) := by
  refine Met.ofW (cc := cX4_setCatalogue) (maxL := 6) (ret := (some .int)) (by decide) rfl ?_
  intro p e s m args below meth c s₁ B hml hv0
  obtain ⟨rfl, hsz, hP, hK, hD0⟩ := hv0
  have hx := B.exec
  have hb := B.bytes
  have hr := B.returns
  have hts := atoms_spec (ws := wsX4_setCatalogue) B.pre
  have hown : s.vm.findClass RX4 = some m.cls := findClass_of_methodNamed B.named
  have hlocks := B.notSynchronized
  subst hsz
  have hD := hD0.self (sz := s.heap.size)
  generalize hAe : va_A ([(ma 0, .inr (4, [.int now, .ref (ma 1), .ref (ma 2), .ref (ma 3), .ref (ma 4), .ref (ma 5), .ref (ma 6), .ref (ma 7), .ref (ma 8), .ref (ma 9), .ref (ma 10), .ref (ma 11), .ref (ma 12), .ref (ma 13), .ref (ma 14), .ref (ma 15), .ref (ma 16), .ref (ma 17), .ref (ma 18), .ref (ma 19), .ref (ma 20), .int th])), (ma 1, .inl (cI, 4, .inl uU)), (ma 2, .inl (cI, 4, .inl uY)), (ma 3, .inl (cI, 80, .inl uK)), (ma 7, .inl (cI, 80, .inl uR))]) s.heap.size = A at hD ⊢
  have hA : ∀ q : Nat, s.heap.size ≤ q → A q := fun q h => by rw [← hAe]; exact Or.inr h
  have hS : va_S A s.heap s.heap [] := va_S.rf
  have hl := lv_entry ([.ref (ma 0), .int (nI ca), .int b, .int w]) (n := 6) (Nat.le_of_ble_eq_true rfl)
  rw [lg_entry_eq]
  generalize (lg_sl ([.ref (ma 0), .int (nI ca), .int b, .int w]) ++ List.replicate (6 - (lg_sl ([.ref (ma 0), .int (nI ca), .int b, .int w])).length) Slot.unset).toArray = ls at hl ⊢
  have hl : lv_has ls 6 [(0, .ref (ma 0)), (1, .int (nI ca)), (2, .int b), (3, .int w)] := hl
  have hiX4 : ∀ w ∈ wsX40, w ∈ wsX4_setCatalogue := by decide +kernel
  have l7 := hts (.fieldLink RX4 7 "CatalogueHarvesterModel" "units" "[I") (by decide +kernel)
  have l13 := hts (.fieldLink RX4 13 "CatalogueHarvesterModel" "ways" "[I") (by decide +kernel)
  refine lv_iload_n hx hb dX4_setCatalogue_0 rfl (lv_at hl 1 rfl) ?_
  refine z_cRi (va_runS (As := [.int (nI ca)]) (rest := []) ⟨hx, hb, hml, hown, hts⟩ (kX4_isCatalogue l (nI ca)) (va_cwS 1 hts gX4_setCatalogue_X4_isCatalogue rfl rfl rfl (by decide +kernel) ⟨Nat.le_of_ble_eq_true rfl, Nat.le_of_ble_eq_true rfl⟩) (zPre0) rfl rfl hl.1 rfl (lv_room (Nat.le_of_ble_eq_true rfl)) dX4_setCatalogue_1 ⟨Nat.le_of_ble_eq_true rfl, Nat.le_of_ble_eq_true rfl⟩) ?_
  refine z_tv (v := 1) (zin_c _ hca) ?_
  refine lv_if_eq (tgt := 30) hx hb dX4_setCatalogue_4 (by decide) (fun c_4 => ?_) (fun c_4 => ?_)
  · exact absurd c_4 (by decide)
  · skip
    refine lv_iload_n hx hb dX4_setCatalogue_7 rfl (lv_at hl 2 rfl) ?_
    refine lv_iconst (v := 1) hx hb dX4_setCatalogue_8 (by decide) ?_
    refine lv_bipush (v := 30) hx hb dX4_setCatalogue_9 (by decide) ?_
    refine z_cRi (va_runS (As := [.int b, .int 1, .int 30]) (rest := []) ⟨hx, hb, hml, hown, hts⟩ (kX4_isIn l b 1 30) (va_cwS 3 hts gX4_setCatalogue_X4_isIn rfl rfl rfl (by decide +kernel) ⟨Nat.le_of_ble_eq_true rfl, Nat.le_of_ble_eq_true rfl⟩) (zPre0) rfl rfl hl.1 rfl (lv_room (Nat.le_of_ble_eq_true rfl)) dX4_setCatalogue_11 ⟨Nat.le_of_ble_eq_true rfl, Nat.le_of_ble_eq_true rfl⟩) ?_
    refine z_tv (v := 1) (hb1) ?_
    refine lv_if_eq (tgt := 30) hx hb dX4_setCatalogue_14 (by decide) (fun c_14 => ?_) (fun c_14 => ?_)
    · exact absurd c_14 (by decide)
    · skip
      refine lv_iload_n hx hb dX4_setCatalogue_17 rfl (lv_at hl 3 rfl) ?_
      refine lv_iconst (v := 0) hx hb dX4_setCatalogue_18 (by decide) ?_
      refine lv_iconst (v := 2) hx hb dX4_setCatalogue_19 (by decide) ?_
      refine z_cRi (va_runS (As := [.int w, .int 0, .int 2]) (rest := []) ⟨hx, hb, hml, hown, hts⟩ (kX4_isIn l w 0 2) (va_cwS 3 hts gX4_setCatalogue_X4_isIn rfl rfl rfl (by decide +kernel) ⟨Nat.le_of_ble_eq_true rfl, Nat.le_of_ble_eq_true rfl⟩) (zPre0) rfl rfl hl.1 rfl (lv_room (Nat.le_of_ble_eq_true rfl)) dX4_setCatalogue_20 ⟨Nat.le_of_ble_eq_true rfl, Nat.le_of_ble_eq_true rfl⟩) ?_
      refine z_tv (v := 1) (hw1) ?_
      refine lv_if_eq (tgt := 30) hx hb dX4_setCatalogue_23 (by decide) (fun c_23 => ?_) (fun c_23 => ?_)
      · exact absurd c_23 (by decide)
      · skip
        refine lv_iconst (v := 1) hx hb dX4_setCatalogue_26 (by decide) ?_
        refine lv_goto (tgt := 31) hx hb dX4_setCatalogue_27 (by decide) ?_
        refine lv_istore (lv' := [(4, .int 1), (0, .ref (ma 0)), (1, .int (nI ca)), (2, .int b), (3, .int w)]) hx hb dX4_setCatalogue_31 hl (by decide) rfl (fun ls hl => ?_)
        refine lv_aload_n hx hb dX4_setCatalogue_33 rfl (lv_at hl 1 rfl) ?_
        refine lv_iload hx hb dX4_setCatalogue_34 (lv_at hl 0 rfl) ?_
        refine lv_if_eq (tgt := 43) hx hb dX4_setCatalogue_36 (by decide) (fun c_36 => ?_) (fun c_36 => ?_)
        · exact absurd c_36 (by decide)
        · skip
          refine lv_iconst (v := 0) hx hb dX4_setCatalogue_39 (by decide) ?_
          refine lv_goto (tgt := 44) hx hb dX4_setCatalogue_40 (by decide) ?_
          refine z_cMi (is := [0]) (va_runV (As := [.int 0]) (rest := []) ⟨hx, hb, hml, hown, hts⟩ (kX4_goes l dC dI cI cZ cH cJ ma now th 0 s.heap.size) (cwV 1 hts gX4_setCatalogue_X4_goes rfl rfl rfl (by decide +kernel) ⟨Nat.le_of_ble_eq_true rfl, Nat.le_of_ble_eq_true rfl⟩) (zPreV (is := [0]) hK hP hD (by decide) rfl (va_recv hK hP (ci := 4) (q0 := 0) rfl rfl)) rfl rfl hl.1 rfl (lv_room (Nat.le_of_ble_eq_true rfl)) dX4_setCatalogue_44 ⟨Nat.le_of_ble_eq_true rfl, Nat.le_of_ble_eq_true rfl⟩) hP hD hS hA rfl (by decide) rfl (fun H locs hP hD hS => ?_)
          have hP : va_P (dC, dI) vwCl ([(ma 0, .inr (4, [.int now, .ref (ma 1), .ref (ma 2), .ref (ma 3), .ref (ma 4), .ref (ma 5), .ref (ma 6), .ref (ma 7), .ref (ma 8), .ref (ma 9), .ref (ma 10), .ref (ma 11), .ref (ma 12), .ref (ma 13), .ref (ma 14), .ref (ma 15), .ref (ma 16), .ref (ma 17), .ref (ma 18), .ref (ma 19), .ref (ma 20), .int 0])), (ma 1, .inl (cI, 4, .inl uU)), (ma 2, .inl (cI, 4, .inl uY)), (ma 3, .inl (cI, 80, .inl uK)), (ma 7, .inl (cI, 80, .inl uR))]) H := hP
          have hD : va_D A ([(ma 0, .inr (4, [.int now, .ref (ma 1), .ref (ma 2), .ref (ma 3), .ref (ma 4), .ref (ma 5), .ref (ma 6), .ref (ma 7), .ref (ma 8), .ref (ma 9), .ref (ma 10), .ref (ma 11), .ref (ma 12), .ref (ma 13), .ref (ma 14), .ref (ma 15), .ref (ma 16), .ref (ma 17), .ref (ma 18), .ref (ma 19), .ref (ma 20), .int 0])), (ma 1, .inl (cI, 4, .inl uU)), (ma 2, .inl (cI, 4, .inl uY)), (ma 3, .inl (cI, 80, .inl uK)), (ma 7, .inl (cI, 80, .inl uR))]) := hD
          refine z_tv (v := 1) (by decide) ?_
          refine lv_if_ne (tgt := 52) hx hb dX4_setCatalogue_47 (by decide) (fun c_47 => ?_) (fun c_47 => ?_)
          · skip
            refine lv_aload_n hx hb dX4_setCatalogue_52 rfl (lv_at hl 1 rfl) ?_
            refine va_get (D := (dC, dI)) (ci := 4) (v := .ref (ma 1)) (C := RX4) (T := TX4) (N := 22) hx hb hts hiX4 hown hK hP 0 rfl rfl 1 (by decide) l7 (fun _ h9 => h9) rfl dX4_setCatalogue_53 ?_
            refine lv_iload_n hx hb dX4_setCatalogue_56 rfl (lv_at hl 2 rfl) ?_
            refine z_iald hx hb hK hP 1 rfl (zix_nI (by first | assumption | omega) (by decide)) dX4_setCatalogue_57 ?_
            refine z_tv (v := uU ca) (rfl) ?_
            refine lv_istore (lv' := [(5, .int (uU ca)), (4, .int 1), (0, .ref (ma 0)), (1, .int (nI ca)), (2, .int b), (3, .int w)]) hx hb dX4_setCatalogue_58 hl (by decide) rfl (fun ls hl => ?_)
            refine lv_aload_n hx hb dX4_setCatalogue_60 rfl (lv_at hl 2 rfl) ?_
            refine va_get (D := (dC, dI)) (ci := 4) (v := .ref (ma 1)) (C := RX4) (T := TX4) (N := 22) hx hb hts hiX4 hown hK hP 0 rfl rfl 1 (by decide) l7 (fun _ h9 => h9) rfl dX4_setCatalogue_61 ?_
            refine lv_iload_n hx hb dX4_setCatalogue_64 rfl (lv_at hl 3 rfl) ?_
            refine lv_iload_n hx hb dX4_setCatalogue_65 rfl (lv_at hl 4 rfl) ?_
            refine z_iast hx hb hK hP hD hS 1 rfl (zix_nI (by first | assumption | omega) (by decide)) dX4_setCatalogue_66 (fun H locs hP hD hS => ?_)
            have hP : va_P (dC, dI) vwCl ([(ma 0, .inr (4, [.int now, .ref (ma 1), .ref (ma 2), .ref (ma 3), .ref (ma 4), .ref (ma 5), .ref (ma 6), .ref (ma 7), .ref (ma 8), .ref (ma 9), .ref (ma 10), .ref (ma 11), .ref (ma 12), .ref (ma 13), .ref (ma 14), .ref (ma 15), .ref (ma 16), .ref (ma 17), .ref (ma 18), .ref (ma 19), .ref (ma 20), .int 0])), (ma 1, .inl (cI, 4, .inl (upd uU ca b))), (ma 2, .inl (cI, 4, .inl uY)), (ma 3, .inl (cI, 80, .inl uK)), (ma 7, .inl (cI, 80, .inl uR))]) H := hP
            have hD : va_D A ([(ma 0, .inr (4, [.int now, .ref (ma 1), .ref (ma 2), .ref (ma 3), .ref (ma 4), .ref (ma 5), .ref (ma 6), .ref (ma 7), .ref (ma 8), .ref (ma 9), .ref (ma 10), .ref (ma 11), .ref (ma 12), .ref (ma 13), .ref (ma 14), .ref (ma 15), .ref (ma 16), .ref (ma 17), .ref (ma 18), .ref (ma 19), .ref (ma 20), .int 0])), (ma 1, .inl (cI, 4, .inl (upd uU ca b))), (ma 2, .inl (cI, 4, .inl uY)), (ma 3, .inl (cI, 80, .inl uK)), (ma 7, .inl (cI, 80, .inl uR))]) := hD
            refine lv_aload_n hx hb dX4_setCatalogue_67 rfl (lv_at hl 2 rfl) ?_
            refine va_get (D := (dC, dI)) (ci := 4) (v := .ref (ma 2)) (C := RX4) (T := TX4) (N := 22) hx hb hts hiX4 hown hK hP 0 rfl rfl 2 (by decide) l13 (fun _ h9 => h9) rfl dX4_setCatalogue_68 ?_
            refine lv_iload_n hx hb dX4_setCatalogue_71 rfl (lv_at hl 3 rfl) ?_
            refine lv_iload_n hx hb dX4_setCatalogue_72 rfl (lv_at hl 5 rfl) ?_
            refine z_iast hx hb hK hP hD hS 2 rfl (zix_nI (by first | assumption | omega) (by decide)) dX4_setCatalogue_73 (fun H locs hP hD hS => ?_)
            have hP : va_P (dC, dI) vwCl ([(ma 0, .inr (4, [.int now, .ref (ma 1), .ref (ma 2), .ref (ma 3), .ref (ma 4), .ref (ma 5), .ref (ma 6), .ref (ma 7), .ref (ma 8), .ref (ma 9), .ref (ma 10), .ref (ma 11), .ref (ma 12), .ref (ma 13), .ref (ma 14), .ref (ma 15), .ref (ma 16), .ref (ma 17), .ref (ma 18), .ref (ma 19), .ref (ma 20), .int 0])), (ma 1, .inl (cI, 4, .inl (upd uU ca b))), (ma 2, .inl (cI, 4, .inl (upd uY ca w))), (ma 3, .inl (cI, 80, .inl uK)), (ma 7, .inl (cI, 80, .inl uR))]) H := hP
            have hD : va_D A ([(ma 0, .inr (4, [.int now, .ref (ma 1), .ref (ma 2), .ref (ma 3), .ref (ma 4), .ref (ma 5), .ref (ma 6), .ref (ma 7), .ref (ma 8), .ref (ma 9), .ref (ma 10), .ref (ma 11), .ref (ma 12), .ref (ma 13), .ref (ma 14), .ref (ma 15), .ref (ma 16), .ref (ma 17), .ref (ma 18), .ref (ma 19), .ref (ma 20), .int 0])), (ma 1, .inl (cI, 4, .inl (upd uU ca b))), (ma 2, .inl (cI, 4, .inl (upd uY ca w))), (ma 3, .inl (cI, 80, .inl uK)), (ma 7, .inl (cI, 80, .inl uR))]) := hD
            refine lv_aload_n hx hb dX4_setCatalogue_74 rfl (lv_at hl 2 rfl) ?_
            refine lv_iload_n hx hb dX4_setCatalogue_75 rfl (lv_at hl 3 rfl) ?_
            refine z_cMv (is := [0, 2, 3, 4]) (va_runV (As := [.int (nI ca)]) (rest := []) ⟨hx, hb, hml, hown, hts⟩ (kX4_clears l dC dI cI cZ cH cJ ma now 0 (upd uY ca w) uK uR ca (by first | assumption | omega) H.size) (cwV 1 hts gX4_setCatalogue_X4_clears rfl rfl rfl (by decide +kernel) ⟨Nat.le_of_ble_eq_true rfl, Nat.le_of_ble_eq_true rfl⟩) (zPreV (is := [0, 2, 3, 4]) hK hP hD (by decide) rfl (va_recv hK hP (ci := 4) (q0 := 0) rfl rfl)) rfl rfl hl.1 rfl (lv_room (Nat.le_of_ble_eq_true rfl)) dX4_setCatalogue_76 ⟨Nat.le_of_ble_eq_true rfl, Nat.le_of_ble_eq_true rfl⟩) hP hD hS hA rfl (by decide) rfl (fun H locs hP hD hS => ?_)
            have hP : va_P (dC, dI) vwCl ([(ma 0, .inr (4, [.int now, .ref (ma 1), .ref (ma 2), .ref (ma 3), .ref (ma 4), .ref (ma 5), .ref (ma 6), .ref (ma 7), .ref (ma 8), .ref (ma 9), .ref (ma 10), .ref (ma 11), .ref (ma 12), .ref (ma 13), .ref (ma 14), .ref (ma 15), .ref (ma 16), .ref (ma 17), .ref (ma 18), .ref (ma 19), .ref (ma 20), .int 0])), (ma 1, .inl (cI, 4, .inl (upd uU ca b))), (ma 2, .inl (cI, 4, .inl (upd uY ca w))), (ma 3, .inl (cI, 80, .inl (yclr uK uR ((upd uY ca w) ca) now (20 * ca) 20))), (ma 7, .inl (cI, 80, .inl uR))]) H := hP
            have hD : va_D A ([(ma 0, .inr (4, [.int now, .ref (ma 1), .ref (ma 2), .ref (ma 3), .ref (ma 4), .ref (ma 5), .ref (ma 6), .ref (ma 7), .ref (ma 8), .ref (ma 9), .ref (ma 10), .ref (ma 11), .ref (ma 12), .ref (ma 13), .ref (ma 14), .ref (ma 15), .ref (ma 16), .ref (ma 17), .ref (ma 18), .ref (ma 19), .ref (ma 20), .int 0])), (ma 1, .inl (cI, 4, .inl (upd uU ca b))), (ma 2, .inl (cI, 4, .inl (upd uY ca w))), (ma 3, .inl (cI, 80, .inl (yclr uK uR ((upd uY ca w) ca) now (20 * ca) 20))), (ma 7, .inl (cI, 80, .inl uR))]) := hD
            refine lv_iload hx hb dX4_setCatalogue_79 (lv_at hl 0 rfl) ?_
            have hP := zP_eq (ws' := [(ma 0, .inr (4, [.int now, .ref (ma 1), .ref (ma 2), .ref (ma 3), .ref (ma 4), .ref (ma 5), .ref (ma 6), .ref (ma 7), .ref (ma 8), .ref (ma 9), .ref (ma 10), .ref (ma 11), .ref (ma 12), .ref (ma 13), .ref (ma 14), .ref (ma 15), .ref (ma 16), .ref (ma 17), .ref (ma 18), .ref (ma 19), .ref (ma 20), .int 0])), (ma 1, .inl (cI, 4, .inl (upd uU ca b))), (ma 2, .inl (cI, 4, .inl (upd uY ca w))), (ma 3, .inl (cI, 80, .inl (yclr uK uR w now (20 * ca) 20))), (ma 7, .inl (cI, 80, .inl uR))]) hP (zw_k (zw_k (zw_k (zw_a (by rw [pk_us]) (zw_k (rfl))))))
            have hD := zD_eq (ws' := [(ma 0, .inr (4, [.int now, .ref (ma 1), .ref (ma 2), .ref (ma 3), .ref (ma 4), .ref (ma 5), .ref (ma 6), .ref (ma 7), .ref (ma 8), .ref (ma 9), .ref (ma 10), .ref (ma 11), .ref (ma 12), .ref (ma 13), .ref (ma 14), .ref (ma 15), .ref (ma 16), .ref (ma 17), .ref (ma 18), .ref (ma 19), .ref (ma 20), .int 0])), (ma 1, .inl (cI, 4, .inl (upd uU ca b))), (ma 2, .inl (cI, 4, .inl (upd uY ca w))), (ma 3, .inl (cI, 80, .inl (yclr uK uR w now (20 * ca) 20))), (ma 7, .inl (cI, 80, .inl uR))]) hD (zw_k (zw_k (zw_k (zw_a (by rw [pk_us]) (zw_k (rfl))))))
            exact W.iret hx hb hr (fun t ht hW => ⟨rfl, ⟨by rw [ht]; exact hP, hD⟩, hS.F ht⟩) hS.2.2 dX4_setCatalogue_81
          · exact absurd c_47 (by decide)
set_option maxHeartbeats 4000000 in
set_option maxRecDepth 100000 in
/-- Model.setCatalogue_bad -/
theorem kX4_setCatalogue_bad (l : Launch) (dC : Nat → ClassId) (dI : Nat → Nat → Nat) (cI cZ cH cJ : ClassId) (ma : Nat → Nat) (now : Int32) (th : Int32) (a : Int32) (b : Int32) (w : Int32) (hv : ¬ (zin a 0 3 = 1 ∧ zin b 1 30 = 1 ∧ zin w 0 2 = 1)) (sz : Nat) : Met l yX4_setCatalogue wsX4_setCatalogue ({ frames := 2, cells := 0, slots := 0, locals := 42 }) (zPc dC dI (zTy cI cZ cH cJ) [.ref (ma 0), .int a, .int b, .int w] sz ([(ma 0, .inr (4, [.int now, .ref (ma 1), .ref (ma 2), .ref (ma 3), .ref (ma 4), .ref (ma 5), .ref (ma 6), .ref (ma 7), .ref (ma 8), .ref (ma 9), .ref (ma 10), .ref (ma 11), .ref (ma 12), .ref (ma 13), .ref (ma 14), .ref (ma 15), .ref (ma 16), .ref (ma 17), .ref (ma 18), .ref (ma 19), .ref (ma 20), .int th]))])) (zQi dC dI 0 ([(ma 0, .inr (4, [.int now, .ref (ma 1), .ref (ma 2), .ref (ma 3), .ref (ma 4), .ref (ma 5), .ref (ma 6), .ref (ma 7), .ref (ma 8), .ref (ma 9), .ref (ma 10), .ref (ma 11), .ref (ma 12), .ref (ma 13), .ref (ma 14), .ref (ma 15), .ref (ma 16), .ref (ma 17), .ref (ma 18), .ref (ma 19), .ref (ma 20), .int 1]))]) (va_A ([(ma 0, .inr (4, [.int now, .ref (ma 1), .ref (ma 2), .ref (ma 3), .ref (ma 4), .ref (ma 5), .ref (ma 6), .ref (ma 7), .ref (ma 8), .ref (ma 9), .ref (ma 10), .ref (ma 11), .ref (ma 12), .ref (ma 13), .ref (ma 14), .ref (ma 15), .ref (ma 16), .ref (ma 17), .ref (ma 18), .ref (ma 19), .ref (ma 20), .int th]))]) sz)) 0 0 (va_A ([(ma 0, .inr (4, [.int now, .ref (ma 1), .ref (ma 2), .ref (ma 3), .ref (ma 4), .ref (ma 5), .ref (ma 6), .ref (ma 7), .ref (ma 8), .ref (ma 9), .ref (ma 10), .ref (ma 11), .ref (ma 12), .ref (ma 13), .ref (ma 14), .ref (ma 15), .ref (ma 16), .ref (ma 17), .ref (ma 18), .ref (ma 19), .ref (ma 20), .int th]))]) sz) := by
  refine Met.ofW (cc := cX4_setCatalogue) (maxL := 6) (ret := (some .int)) (by decide) rfl ?_
  intro p e s m args below meth c s₁ B hml hv0
  obtain ⟨rfl, hsz, hP, hK, hD0⟩ := hv0
  have hx := B.exec
  have hb := B.bytes
  have hr := B.returns
  have hts := atoms_spec (ws := wsX4_setCatalogue) B.pre
  have hown : s.vm.findClass RX4 = some m.cls := findClass_of_methodNamed B.named
  have hlocks := B.notSynchronized
  subst hsz
  have hD := hD0.self (sz := s.heap.size)
  generalize hAe : va_A ([(ma 0, .inr (4, [.int now, .ref (ma 1), .ref (ma 2), .ref (ma 3), .ref (ma 4), .ref (ma 5), .ref (ma 6), .ref (ma 7), .ref (ma 8), .ref (ma 9), .ref (ma 10), .ref (ma 11), .ref (ma 12), .ref (ma 13), .ref (ma 14), .ref (ma 15), .ref (ma 16), .ref (ma 17), .ref (ma 18), .ref (ma 19), .ref (ma 20), .int th]))]) s.heap.size = A at hD ⊢
  have hA : ∀ q : Nat, s.heap.size ≤ q → A q := fun q h => by rw [← hAe]; exact Or.inr h
  have hS : va_S A s.heap s.heap [] := va_S.rf
  have hl := lv_entry ([.ref (ma 0), .int a, .int b, .int w]) (n := 6) (Nat.le_of_ble_eq_true rfl)
  rw [lg_entry_eq]
  generalize (lg_sl ([.ref (ma 0), .int a, .int b, .int w]) ++ List.replicate (6 - (lg_sl ([.ref (ma 0), .int a, .int b, .int w])).length) Slot.unset).toArray = ls at hl ⊢
  have hl : lv_has ls 6 [(0, .ref (ma 0)), (1, .int a), (2, .int b), (3, .int w)] := hl
  refine lv_iload_n hx hb dX4_setCatalogue_0 rfl (lv_at hl 1 rfl) ?_
  refine z_cRi (va_runS (As := [.int a]) (rest := []) ⟨hx, hb, hml, hown, hts⟩ (kX4_isCatalogue l a) (va_cwS 1 hts gX4_setCatalogue_X4_isCatalogue rfl rfl rfl (by decide +kernel) ⟨Nat.le_of_ble_eq_true rfl, Nat.le_of_ble_eq_true rfl⟩) (zPre0) rfl rfl hl.1 rfl (lv_room (Nat.le_of_ble_eq_true rfl)) dX4_setCatalogue_1 ⟨Nat.le_of_ble_eq_true rfl, Nat.le_of_ble_eq_true rfl⟩) ?_
  refine z_tv (v := zin a 0 3) rfl ?_
  refine lv_if_eq (tgt := 30) hx hb dX4_setCatalogue_4 (by decide) (fun c_4 => ?_) (fun c_4 => ?_)
  · skip
    refine lv_iconst (v := 0) hx hb dX4_setCatalogue_30 (by decide) ?_
    refine lv_istore (lv' := [(4, .int 0), (0, .ref (ma 0)), (1, .int a), (2, .int b), (3, .int w)]) hx hb dX4_setCatalogue_31 hl (by decide) rfl (fun ls hl => ?_)
    refine lv_aload_n hx hb dX4_setCatalogue_33 rfl (lv_at hl 1 rfl) ?_
    refine lv_iload hx hb dX4_setCatalogue_34 (lv_at hl 0 rfl) ?_
    refine lv_if_eq (tgt := 43) hx hb dX4_setCatalogue_36 (by decide) (fun c_36 => ?_) (fun c_36 => ?_)
    · skip
      refine lv_iconst (v := 1) hx hb dX4_setCatalogue_43 (by decide) ?_
      refine z_cMi (is := [0]) (va_runV (As := [.int 1]) (rest := []) ⟨hx, hb, hml, hown, hts⟩ (kX4_goes l dC dI cI cZ cH cJ ma now th 1 s.heap.size) (cwV 1 hts gX4_setCatalogue_X4_goes rfl rfl rfl (by decide +kernel) ⟨Nat.le_of_ble_eq_true rfl, Nat.le_of_ble_eq_true rfl⟩) (zPreV (is := [0]) hK hP hD (by decide) rfl (va_recv hK hP (ci := 4) (q0 := 0) rfl rfl)) rfl rfl hl.1 rfl (lv_room (Nat.le_of_ble_eq_true rfl)) dX4_setCatalogue_44 ⟨Nat.le_of_ble_eq_true rfl, Nat.le_of_ble_eq_true rfl⟩) hP hD hS hA rfl (by decide) rfl (fun H locs hP hD hS => ?_)
      have hP : va_P (dC, dI) vwCl ([(ma 0, .inr (4, [.int now, .ref (ma 1), .ref (ma 2), .ref (ma 3), .ref (ma 4), .ref (ma 5), .ref (ma 6), .ref (ma 7), .ref (ma 8), .ref (ma 9), .ref (ma 10), .ref (ma 11), .ref (ma 12), .ref (ma 13), .ref (ma 14), .ref (ma 15), .ref (ma 16), .ref (ma 17), .ref (ma 18), .ref (ma 19), .ref (ma 20), .int 1]))]) H := hP
      have hD : va_D A ([(ma 0, .inr (4, [.int now, .ref (ma 1), .ref (ma 2), .ref (ma 3), .ref (ma 4), .ref (ma 5), .ref (ma 6), .ref (ma 7), .ref (ma 8), .ref (ma 9), .ref (ma 10), .ref (ma 11), .ref (ma 12), .ref (ma 13), .ref (ma 14), .ref (ma 15), .ref (ma 16), .ref (ma 17), .ref (ma 18), .ref (ma 19), .ref (ma 20), .int 1]))]) := hD
      refine z_tv (v := 0) (by decide) ?_
      refine lv_if_ne (tgt := 52) hx hb dX4_setCatalogue_47 (by decide) (fun c_47 => ?_) (fun c_47 => ?_)
      · exact absurd c_47 (by decide)
      · skip
        refine lv_iconst (v := 0) hx hb dX4_setCatalogue_50 (by decide) ?_
        exact W.iret hx hb hr (fun t ht hW => ⟨rfl, ⟨by rw [ht]; exact hP, hD⟩, hS.F ht⟩) hS.2.2 dX4_setCatalogue_51
    · exact absurd c_36 (by decide)
  · skip
    refine lv_iload_n hx hb dX4_setCatalogue_7 rfl (lv_at hl 2 rfl) ?_
    refine lv_iconst (v := 1) hx hb dX4_setCatalogue_8 (by decide) ?_
    refine lv_bipush (v := 30) hx hb dX4_setCatalogue_9 (by decide) ?_
    refine z_cRi (va_runS (As := [.int b, .int 1, .int 30]) (rest := []) ⟨hx, hb, hml, hown, hts⟩ (kX4_isIn l b 1 30) (va_cwS 3 hts gX4_setCatalogue_X4_isIn rfl rfl rfl (by decide +kernel) ⟨Nat.le_of_ble_eq_true rfl, Nat.le_of_ble_eq_true rfl⟩) (zPre0) rfl rfl hl.1 rfl (lv_room (Nat.le_of_ble_eq_true rfl)) dX4_setCatalogue_11 ⟨Nat.le_of_ble_eq_true rfl, Nat.le_of_ble_eq_true rfl⟩) ?_
    refine z_tv (v := zin b 1 30) rfl ?_
    refine lv_if_eq (tgt := 30) hx hb dX4_setCatalogue_14 (by decide) (fun c_14 => ?_) (fun c_14 => ?_)
    · skip
      refine lv_iconst (v := 0) hx hb dX4_setCatalogue_30 (by decide) ?_
      refine lv_istore (lv' := [(4, .int 0), (0, .ref (ma 0)), (1, .int a), (2, .int b), (3, .int w)]) hx hb dX4_setCatalogue_31 hl (by decide) rfl (fun ls hl => ?_)
      refine lv_aload_n hx hb dX4_setCatalogue_33 rfl (lv_at hl 1 rfl) ?_
      refine lv_iload hx hb dX4_setCatalogue_34 (lv_at hl 0 rfl) ?_
      refine lv_if_eq (tgt := 43) hx hb dX4_setCatalogue_36 (by decide) (fun c_36 => ?_) (fun c_36 => ?_)
      · skip
        refine lv_iconst (v := 1) hx hb dX4_setCatalogue_43 (by decide) ?_
        refine z_cMi (is := [0]) (va_runV (As := [.int 1]) (rest := []) ⟨hx, hb, hml, hown, hts⟩ (kX4_goes l dC dI cI cZ cH cJ ma now th 1 s.heap.size) (cwV 1 hts gX4_setCatalogue_X4_goes rfl rfl rfl (by decide +kernel) ⟨Nat.le_of_ble_eq_true rfl, Nat.le_of_ble_eq_true rfl⟩) (zPreV (is := [0]) hK hP hD (by decide) rfl (va_recv hK hP (ci := 4) (q0 := 0) rfl rfl)) rfl rfl hl.1 rfl (lv_room (Nat.le_of_ble_eq_true rfl)) dX4_setCatalogue_44 ⟨Nat.le_of_ble_eq_true rfl, Nat.le_of_ble_eq_true rfl⟩) hP hD hS hA rfl (by decide) rfl (fun H locs hP hD hS => ?_)
        have hP : va_P (dC, dI) vwCl ([(ma 0, .inr (4, [.int now, .ref (ma 1), .ref (ma 2), .ref (ma 3), .ref (ma 4), .ref (ma 5), .ref (ma 6), .ref (ma 7), .ref (ma 8), .ref (ma 9), .ref (ma 10), .ref (ma 11), .ref (ma 12), .ref (ma 13), .ref (ma 14), .ref (ma 15), .ref (ma 16), .ref (ma 17), .ref (ma 18), .ref (ma 19), .ref (ma 20), .int 1]))]) H := hP
        have hD : va_D A ([(ma 0, .inr (4, [.int now, .ref (ma 1), .ref (ma 2), .ref (ma 3), .ref (ma 4), .ref (ma 5), .ref (ma 6), .ref (ma 7), .ref (ma 8), .ref (ma 9), .ref (ma 10), .ref (ma 11), .ref (ma 12), .ref (ma 13), .ref (ma 14), .ref (ma 15), .ref (ma 16), .ref (ma 17), .ref (ma 18), .ref (ma 19), .ref (ma 20), .int 1]))]) := hD
        refine z_tv (v := 0) (by decide) ?_
        refine lv_if_ne (tgt := 52) hx hb dX4_setCatalogue_47 (by decide) (fun c_47 => ?_) (fun c_47 => ?_)
        · exact absurd c_47 (by decide)
        · skip
          refine lv_iconst (v := 0) hx hb dX4_setCatalogue_50 (by decide) ?_
          exact W.iret hx hb hr (fun t ht hW => ⟨rfl, ⟨by rw [ht]; exact hP, hD⟩, hS.F ht⟩) hS.2.2 dX4_setCatalogue_51
      · exact absurd c_36 (by decide)
    · skip
      refine lv_iload_n hx hb dX4_setCatalogue_17 rfl (lv_at hl 3 rfl) ?_
      refine lv_iconst (v := 0) hx hb dX4_setCatalogue_18 (by decide) ?_
      refine lv_iconst (v := 2) hx hb dX4_setCatalogue_19 (by decide) ?_
      refine z_cRi (va_runS (As := [.int w, .int 0, .int 2]) (rest := []) ⟨hx, hb, hml, hown, hts⟩ (kX4_isIn l w 0 2) (va_cwS 3 hts gX4_setCatalogue_X4_isIn rfl rfl rfl (by decide +kernel) ⟨Nat.le_of_ble_eq_true rfl, Nat.le_of_ble_eq_true rfl⟩) (zPre0) rfl rfl hl.1 rfl (lv_room (Nat.le_of_ble_eq_true rfl)) dX4_setCatalogue_20 ⟨Nat.le_of_ble_eq_true rfl, Nat.le_of_ble_eq_true rfl⟩) ?_
      refine z_tv (v := zin w 0 2) rfl ?_
      refine lv_if_eq (tgt := 30) hx hb dX4_setCatalogue_23 (by decide) (fun c_23 => ?_) (fun c_23 => ?_)
      · skip
        refine lv_iconst (v := 0) hx hb dX4_setCatalogue_30 (by decide) ?_
        refine lv_istore (lv' := [(4, .int 0), (0, .ref (ma 0)), (1, .int a), (2, .int b), (3, .int w)]) hx hb dX4_setCatalogue_31 hl (by decide) rfl (fun ls hl => ?_)
        refine lv_aload_n hx hb dX4_setCatalogue_33 rfl (lv_at hl 1 rfl) ?_
        refine lv_iload hx hb dX4_setCatalogue_34 (lv_at hl 0 rfl) ?_
        refine lv_if_eq (tgt := 43) hx hb dX4_setCatalogue_36 (by decide) (fun c_36 => ?_) (fun c_36 => ?_)
        · skip
          refine lv_iconst (v := 1) hx hb dX4_setCatalogue_43 (by decide) ?_
          refine z_cMi (is := [0]) (va_runV (As := [.int 1]) (rest := []) ⟨hx, hb, hml, hown, hts⟩ (kX4_goes l dC dI cI cZ cH cJ ma now th 1 s.heap.size) (cwV 1 hts gX4_setCatalogue_X4_goes rfl rfl rfl (by decide +kernel) ⟨Nat.le_of_ble_eq_true rfl, Nat.le_of_ble_eq_true rfl⟩) (zPreV (is := [0]) hK hP hD (by decide) rfl (va_recv hK hP (ci := 4) (q0 := 0) rfl rfl)) rfl rfl hl.1 rfl (lv_room (Nat.le_of_ble_eq_true rfl)) dX4_setCatalogue_44 ⟨Nat.le_of_ble_eq_true rfl, Nat.le_of_ble_eq_true rfl⟩) hP hD hS hA rfl (by decide) rfl (fun H locs hP hD hS => ?_)
          have hP : va_P (dC, dI) vwCl ([(ma 0, .inr (4, [.int now, .ref (ma 1), .ref (ma 2), .ref (ma 3), .ref (ma 4), .ref (ma 5), .ref (ma 6), .ref (ma 7), .ref (ma 8), .ref (ma 9), .ref (ma 10), .ref (ma 11), .ref (ma 12), .ref (ma 13), .ref (ma 14), .ref (ma 15), .ref (ma 16), .ref (ma 17), .ref (ma 18), .ref (ma 19), .ref (ma 20), .int 1]))]) H := hP
          have hD : va_D A ([(ma 0, .inr (4, [.int now, .ref (ma 1), .ref (ma 2), .ref (ma 3), .ref (ma 4), .ref (ma 5), .ref (ma 6), .ref (ma 7), .ref (ma 8), .ref (ma 9), .ref (ma 10), .ref (ma 11), .ref (ma 12), .ref (ma 13), .ref (ma 14), .ref (ma 15), .ref (ma 16), .ref (ma 17), .ref (ma 18), .ref (ma 19), .ref (ma 20), .int 1]))]) := hD
          refine z_tv (v := 0) (by decide) ?_
          refine lv_if_ne (tgt := 52) hx hb dX4_setCatalogue_47 (by decide) (fun c_47 => ?_) (fun c_47 => ?_)
          · exact absurd c_47 (by decide)
          · skip
            refine lv_iconst (v := 0) hx hb dX4_setCatalogue_50 (by decide) ?_
            exact W.iret hx hb hr (fun t ht hW => ⟨rfl, ⟨by rw [ht]; exact hP, hD⟩, hS.F ht⟩) hS.2.2 dX4_setCatalogue_51
        · exact absurd c_36 (by decide)
      · exact absurd c_23 (fun q => hv ⟨zin_n1 c_4, zin_n1 c_14, zin_n1 q⟩)
set_option maxHeartbeats 4000000 in
set_option maxRecDepth 100000 in
/-- Model.put_ok -/
theorem kX4_put_ok (l : Launch) (dC : Nat → ClassId) (dI : Nat → Nat → Nat) (cI cZ cH cJ : ClassId) (ma : Nat → Nat) (now : Int32) (th : Int32) (uU : zI) (uK : zI) (uW : zI) (uV : zI) (uS : zI) (ca : Nat) (hca : ca < 4) (r : Nat) (hrr : r < 20) (w : Int32) (v : Int32) (hw1 : zin w 0 9 = 1) (hv1 : zin v 0 1000 = 1) (hun : ¬ uU ca = 0) (sz : Nat) : Met l yX4_put wsX4_put ({ frames := 2, cells := 0, slots := 0, locals := 42 }) (zPc dC dI (zTy cI cZ cH cJ) [.ref (ma 0), .int (nI ca), .int (nI r), .int w, .int v] sz ([(ma 0, .inr (4, [.int now, .ref (ma 1), .ref (ma 2), .ref (ma 3), .ref (ma 4), .ref (ma 5), .ref (ma 6), .ref (ma 7), .ref (ma 8), .ref (ma 9), .ref (ma 10), .ref (ma 11), .ref (ma 12), .ref (ma 13), .ref (ma 14), .ref (ma 15), .ref (ma 16), .ref (ma 17), .ref (ma 18), .ref (ma 19), .ref (ma 20), .int th])), (ma 1, .inl (cI, 4, .inl uU)), (ma 3, .inl (cI, 80, .inl uK)), (ma 4, .inl (cI, 80, .inl uW)), (ma 5, .inl (cI, 80, .inl uV)), (ma 6, .inl (cI, 80, .inl uS))])) (zQi dC dI (yst (uU ca) now) ([(ma 0, .inr (4, [.int now, .ref (ma 1), .ref (ma 2), .ref (ma 3), .ref (ma 4), .ref (ma 5), .ref (ma 6), .ref (ma 7), .ref (ma 8), .ref (ma 9), .ref (ma 10), .ref (ma 11), .ref (ma 12), .ref (ma 13), .ref (ma 14), .ref (ma 15), .ref (ma 16), .ref (ma 17), .ref (ma 18), .ref (ma 19), .ref (ma 20), .int 0])), (ma 1, .inl (cI, 4, .inl uU)), (ma 3, .inl (cI, 80, .inl (upd uK (20 * ca + r) 1))), (ma 4, .inl (cI, 80, .inl (upd uW (20 * ca + r) w))), (ma 5, .inl (cI, 80, .inl (upd uV (20 * ca + r) v))), (ma 6, .inl (cI, 80, .inl (upd uS (20 * ca + r) (yst (uU ca) now))))]) (va_A ([(ma 0, .inr (4, [.int now, .ref (ma 1), .ref (ma 2), .ref (ma 3), .ref (ma 4), .ref (ma 5), .ref (ma 6), .ref (ma 7), .ref (ma 8), .ref (ma 9), .ref (ma 10), .ref (ma 11), .ref (ma 12), .ref (ma 13), .ref (ma 14), .ref (ma 15), .ref (ma 16), .ref (ma 17), .ref (ma 18), .ref (ma 19), .ref (ma 20), .int th])), (ma 1, .inl (cI, 4, .inl uU)), (ma 3, .inl (cI, 80, .inl uK)), (ma 4, .inl (cI, 80, .inl uW)), (ma 5, .inl (cI, 80, .inl uV)), (ma 6, .inl (cI, 80, .inl uS))]) sz)) 0 0 (va_A ([(ma 0, .inr (4, [.int now, .ref (ma 1), .ref (ma 2), .ref (ma 3), .ref (ma 4), .ref (ma 5), .ref (ma 6), .ref (ma 7), .ref (ma 8), .ref (ma 9), .ref (ma 10), .ref (ma 11), .ref (ma 12), .ref (ma 13), .ref (ma 14), .ref (ma 15), .ref (ma 16), .ref (ma 17), .ref (ma 18), .ref (ma 19), .ref (ma 20), .int th])), (ma 1, .inl (cI, 4, .inl uU)), (ma 3, .inl (cI, 80, .inl uK)), (ma 4, .inl (cI, 80, .inl uW)), (ma 5, .inl (cI, 80, .inl uV)), (ma 6, .inl (cI, 80, .inl uS))]) sz) := by
  refine Met.ofW (cc := cX4_put) (maxL := 7) (ret := (some .int)) (by decide) rfl ?_
  intro p e s m args below meth c s₁ B hml hv0
  obtain ⟨rfl, hsz, hP, hK, hD0⟩ := hv0
  have hx := B.exec
  have hb := B.bytes
  have hr := B.returns
  have hts := atoms_spec (ws := wsX4_put) B.pre
  have hown : s.vm.findClass RX4 = some m.cls := findClass_of_methodNamed B.named
  have hlocks := B.notSynchronized
  subst hsz
  have hD := hD0.self (sz := s.heap.size)
  generalize hAe : va_A ([(ma 0, .inr (4, [.int now, .ref (ma 1), .ref (ma 2), .ref (ma 3), .ref (ma 4), .ref (ma 5), .ref (ma 6), .ref (ma 7), .ref (ma 8), .ref (ma 9), .ref (ma 10), .ref (ma 11), .ref (ma 12), .ref (ma 13), .ref (ma 14), .ref (ma 15), .ref (ma 16), .ref (ma 17), .ref (ma 18), .ref (ma 19), .ref (ma 20), .int th])), (ma 1, .inl (cI, 4, .inl uU)), (ma 3, .inl (cI, 80, .inl uK)), (ma 4, .inl (cI, 80, .inl uW)), (ma 5, .inl (cI, 80, .inl uV)), (ma 6, .inl (cI, 80, .inl uS))]) s.heap.size = A at hD ⊢
  have hA : ∀ q : Nat, s.heap.size ≤ q → A q := fun q h => by rw [← hAe]; exact Or.inr h
  have hS : va_S A s.heap s.heap [] := va_S.rf
  have hl := lv_entry ([.ref (ma 0), .int (nI ca), .int (nI r), .int w, .int v]) (n := 7) (Nat.le_of_ble_eq_true rfl)
  rw [lg_entry_eq]
  generalize (lg_sl ([.ref (ma 0), .int (nI ca), .int (nI r), .int w, .int v]) ++ List.replicate (7 - (lg_sl ([.ref (ma 0), .int (nI ca), .int (nI r), .int w, .int v])).length) Slot.unset).toArray = ls at hl ⊢
  have hl : lv_has ls 7 [(0, .ref (ma 0)), (1, .int (nI ca)), (2, .int (nI r)), (3, .int w), (4, .int v)] := hl
  have hiX4 : ∀ w ∈ wsX40, w ∈ wsX4_put := by decide +kernel
  have l16 := hts (.fieldLink RX4 16 "CatalogueHarvesterModel" "kinds" "[I") (by decide +kernel)
  have l19 := hts (.fieldLink RX4 19 "CatalogueHarvesterModel" "works" "[I") (by decide +kernel)
  have l22 := hts (.fieldLink RX4 22 "CatalogueHarvesterModel" "values" "[I") (by decide +kernel)
  have l25 := hts (.fieldLink RX4 25 "CatalogueHarvesterModel" "stamps" "[I") (by decide +kernel)
  have l79 := hts (.fieldLink RX4 79 "CatalogueHarvesterModel" "today" "I") (by decide +kernel)
  refine lv_iload_n hx hb dX4_put_0 rfl (lv_at hl 1 rfl) ?_
  refine z_cRi (va_runS (As := [.int (nI ca)]) (rest := []) ⟨hx, hb, hml, hown, hts⟩ (kX4_isCatalogue l (nI ca)) (va_cwS 1 hts gX4_put_X4_isCatalogue rfl rfl rfl (by decide +kernel) ⟨Nat.le_of_ble_eq_true rfl, Nat.le_of_ble_eq_true rfl⟩) (zPre0) rfl rfl hl.1 rfl (lv_room (Nat.le_of_ble_eq_true rfl)) dX4_put_1 ⟨Nat.le_of_ble_eq_true rfl, Nat.le_of_ble_eq_true rfl⟩) ?_
  refine z_tv (v := 1) (zin_c _ hca) ?_
  refine lv_if_eq (tgt := 40) hx hb dX4_put_4 (by decide) (fun c_4 => ?_) (fun c_4 => ?_)
  · exact absurd c_4 (by decide)
  · skip
    refine lv_iload_n hx hb dX4_put_7 rfl (lv_at hl 2 rfl) ?_
    refine z_cRi (va_runS (As := [.int (nI r)]) (rest := []) ⟨hx, hb, hml, hown, hts⟩ (kX4_isRecord l (nI r)) (va_cwS 1 hts gX4_put_X4_isRecord rfl rfl rfl (by decide +kernel) ⟨Nat.le_of_ble_eq_true rfl, Nat.le_of_ble_eq_true rfl⟩) (zPre0) rfl rfl hl.1 rfl (lv_room (Nat.le_of_ble_eq_true rfl)) dX4_put_8 ⟨Nat.le_of_ble_eq_true rfl, Nat.le_of_ble_eq_true rfl⟩) ?_
    refine z_tv (v := 1) (zin_r _ hrr) ?_
    refine lv_if_eq (tgt := 40) hx hb dX4_put_11 (by decide) (fun c_11 => ?_) (fun c_11 => ?_)
    · exact absurd c_11 (by decide)
    · skip
      refine lv_iload_n hx hb dX4_put_14 rfl (lv_at hl 3 rfl) ?_
      refine lv_iconst (v := 0) hx hb dX4_put_15 (by decide) ?_
      refine lv_bipush (v := 9) hx hb dX4_put_16 (by decide) ?_
      refine z_cRi (va_runS (As := [.int w, .int 0, .int 9]) (rest := []) ⟨hx, hb, hml, hown, hts⟩ (kX4_isIn l w 0 9) (va_cwS 3 hts gX4_put_X4_isIn rfl rfl rfl (by decide +kernel) ⟨Nat.le_of_ble_eq_true rfl, Nat.le_of_ble_eq_true rfl⟩) (zPre0) rfl rfl hl.1 rfl (lv_room (Nat.le_of_ble_eq_true rfl)) dX4_put_18 ⟨Nat.le_of_ble_eq_true rfl, Nat.le_of_ble_eq_true rfl⟩) ?_
      refine z_tv (v := 1) (hw1) ?_
      refine lv_if_eq (tgt := 40) hx hb dX4_put_21 (by decide) (fun c_21 => ?_) (fun c_21 => ?_)
      · exact absurd c_21 (by decide)
      · skip
        refine lv_iload hx hb dX4_put_24 (lv_at hl 4 rfl) ?_
        refine lv_iconst (v := 0) hx hb dX4_put_26 (by decide) ?_
        refine lv_sipush (v := 1000) hx hb dX4_put_27 (by decide) ?_
        refine z_cRi (va_runS (As := [.int v, .int 0, .int 1000]) (rest := []) ⟨hx, hb, hml, hown, hts⟩ (kX4_isIn l v 0 1000) (va_cwS 3 hts gX4_put_X4_isIn rfl rfl rfl (by decide +kernel) ⟨Nat.le_of_ble_eq_true rfl, Nat.le_of_ble_eq_true rfl⟩) (zPre0) rfl rfl hl.1 rfl (lv_room (Nat.le_of_ble_eq_true rfl)) dX4_put_30 ⟨Nat.le_of_ble_eq_true rfl, Nat.le_of_ble_eq_true rfl⟩) ?_
        refine z_tv (v := 1) (hv1) ?_
        refine lv_if_eq (tgt := 40) hx hb dX4_put_33 (by decide) (fun c_33 => ?_) (fun c_33 => ?_)
        · exact absurd c_33 (by decide)
        · skip
          refine lv_iconst (v := 1) hx hb dX4_put_36 (by decide) ?_
          refine lv_goto (tgt := 41) hx hb dX4_put_37 (by decide) ?_
          refine lv_istore (lv' := [(5, .int 1), (0, .ref (ma 0)), (1, .int (nI ca)), (2, .int (nI r)), (3, .int w), (4, .int v)]) hx hb dX4_put_41 hl (by decide) rfl (fun ls hl => ?_)
          refine lv_aload_n hx hb dX4_put_43 rfl (lv_at hl 1 rfl) ?_
          refine lv_iload hx hb dX4_put_44 (lv_at hl 0 rfl) ?_
          refine lv_if_eq (tgt := 53) hx hb dX4_put_46 (by decide) (fun c_46 => ?_) (fun c_46 => ?_)
          · exact absurd c_46 (by decide)
          · skip
            refine lv_iconst (v := 0) hx hb dX4_put_49 (by decide) ?_
            refine lv_goto (tgt := 54) hx hb dX4_put_50 (by decide) ?_
            refine z_cMi (is := [0]) (va_runV (As := [.int 0]) (rest := []) ⟨hx, hb, hml, hown, hts⟩ (kX4_goes l dC dI cI cZ cH cJ ma now th 0 s.heap.size) (cwV 1 hts gX4_put_X4_goes rfl rfl rfl (by decide +kernel) ⟨Nat.le_of_ble_eq_true rfl, Nat.le_of_ble_eq_true rfl⟩) (zPreV (is := [0]) hK hP hD (by decide) rfl (va_recv hK hP (ci := 4) (q0 := 0) rfl rfl)) rfl rfl hl.1 rfl (lv_room (Nat.le_of_ble_eq_true rfl)) dX4_put_54 ⟨Nat.le_of_ble_eq_true rfl, Nat.le_of_ble_eq_true rfl⟩) hP hD hS hA rfl (by decide) rfl (fun H locs hP hD hS => ?_)
            have hP : va_P (dC, dI) vwCl ([(ma 0, .inr (4, [.int now, .ref (ma 1), .ref (ma 2), .ref (ma 3), .ref (ma 4), .ref (ma 5), .ref (ma 6), .ref (ma 7), .ref (ma 8), .ref (ma 9), .ref (ma 10), .ref (ma 11), .ref (ma 12), .ref (ma 13), .ref (ma 14), .ref (ma 15), .ref (ma 16), .ref (ma 17), .ref (ma 18), .ref (ma 19), .ref (ma 20), .int 0])), (ma 1, .inl (cI, 4, .inl uU)), (ma 3, .inl (cI, 80, .inl uK)), (ma 4, .inl (cI, 80, .inl uW)), (ma 5, .inl (cI, 80, .inl uV)), (ma 6, .inl (cI, 80, .inl uS))]) H := hP
            have hD : va_D A ([(ma 0, .inr (4, [.int now, .ref (ma 1), .ref (ma 2), .ref (ma 3), .ref (ma 4), .ref (ma 5), .ref (ma 6), .ref (ma 7), .ref (ma 8), .ref (ma 9), .ref (ma 10), .ref (ma 11), .ref (ma 12), .ref (ma 13), .ref (ma 14), .ref (ma 15), .ref (ma 16), .ref (ma 17), .ref (ma 18), .ref (ma 19), .ref (ma 20), .int 0])), (ma 1, .inl (cI, 4, .inl uU)), (ma 3, .inl (cI, 80, .inl uK)), (ma 4, .inl (cI, 80, .inl uW)), (ma 5, .inl (cI, 80, .inl uV)), (ma 6, .inl (cI, 80, .inl uS))]) := hD
            refine z_tv (v := 1) (by decide) ?_
            refine lv_if_ne (tgt := 62) hx hb dX4_put_57 (by decide) (fun c_57 => ?_) (fun c_57 => ?_)
            · skip
              refine lv_bipush (v := 20) hx hb dX4_put_62 (by decide) ?_
              refine lv_iload_n hx hb dX4_put_64 rfl (lv_at hl 2 rfl) ?_
              refine lv_imul hx hb dX4_put_65 ?_
              refine z_tv (v := nI (20 * ca)) (pk_mul 20 ca) ?_
              refine lv_iload_n hx hb dX4_put_66 rfl (lv_at hl 3 rfl) ?_
              refine lv_iadd hx hb dX4_put_67 ?_
              refine z_tv (v := nI (20 * ca + r)) (nI_add (20 * ca) r) ?_
              refine lv_istore (lv' := [(6, .int (nI (20 * ca + r))), (5, .int 1), (0, .ref (ma 0)), (1, .int (nI ca)), (2, .int (nI r)), (3, .int w), (4, .int v)]) hx hb dX4_put_68 hl (by decide) rfl (fun ls hl => ?_)
              refine lv_aload_n hx hb dX4_put_70 rfl (lv_at hl 2 rfl) ?_
              refine va_get (D := (dC, dI)) (ci := 4) (v := .ref (ma 3)) (C := RX4) (T := TX4) (N := 22) hx hb hts hiX4 hown hK hP 0 rfl rfl 3 (by decide) l16 (fun _ h9 => h9) rfl dX4_put_71 ?_
              refine lv_iload hx hb dX4_put_74 (lv_at hl 0 rfl) ?_
              refine lv_iconst (v := 1) hx hb dX4_put_76 (by decide) ?_
              refine z_iast hx hb hK hP hD hS 2 rfl (zix_nI (by first | assumption | omega) (by decide)) dX4_put_77 (fun H locs hP hD hS => ?_)
              have hP : va_P (dC, dI) vwCl ([(ma 0, .inr (4, [.int now, .ref (ma 1), .ref (ma 2), .ref (ma 3), .ref (ma 4), .ref (ma 5), .ref (ma 6), .ref (ma 7), .ref (ma 8), .ref (ma 9), .ref (ma 10), .ref (ma 11), .ref (ma 12), .ref (ma 13), .ref (ma 14), .ref (ma 15), .ref (ma 16), .ref (ma 17), .ref (ma 18), .ref (ma 19), .ref (ma 20), .int 0])), (ma 1, .inl (cI, 4, .inl uU)), (ma 3, .inl (cI, 80, .inl (upd uK (20 * ca + r) 1))), (ma 4, .inl (cI, 80, .inl uW)), (ma 5, .inl (cI, 80, .inl uV)), (ma 6, .inl (cI, 80, .inl uS))]) H := hP
              have hD : va_D A ([(ma 0, .inr (4, [.int now, .ref (ma 1), .ref (ma 2), .ref (ma 3), .ref (ma 4), .ref (ma 5), .ref (ma 6), .ref (ma 7), .ref (ma 8), .ref (ma 9), .ref (ma 10), .ref (ma 11), .ref (ma 12), .ref (ma 13), .ref (ma 14), .ref (ma 15), .ref (ma 16), .ref (ma 17), .ref (ma 18), .ref (ma 19), .ref (ma 20), .int 0])), (ma 1, .inl (cI, 4, .inl uU)), (ma 3, .inl (cI, 80, .inl (upd uK (20 * ca + r) 1))), (ma 4, .inl (cI, 80, .inl uW)), (ma 5, .inl (cI, 80, .inl uV)), (ma 6, .inl (cI, 80, .inl uS))]) := hD
              refine lv_aload_n hx hb dX4_put_78 rfl (lv_at hl 2 rfl) ?_
              refine va_get (D := (dC, dI)) (ci := 4) (v := .ref (ma 4)) (C := RX4) (T := TX4) (N := 22) hx hb hts hiX4 hown hK hP 0 rfl rfl 4 (by decide) l19 (fun _ h9 => h9) rfl dX4_put_79 ?_
              refine lv_iload hx hb dX4_put_82 (lv_at hl 0 rfl) ?_
              refine lv_iload_n hx hb dX4_put_84 rfl (lv_at hl 5 rfl) ?_
              refine z_iast hx hb hK hP hD hS 3 rfl (zix_nI (by first | assumption | omega) (by decide)) dX4_put_85 (fun H locs hP hD hS => ?_)
              have hP : va_P (dC, dI) vwCl ([(ma 0, .inr (4, [.int now, .ref (ma 1), .ref (ma 2), .ref (ma 3), .ref (ma 4), .ref (ma 5), .ref (ma 6), .ref (ma 7), .ref (ma 8), .ref (ma 9), .ref (ma 10), .ref (ma 11), .ref (ma 12), .ref (ma 13), .ref (ma 14), .ref (ma 15), .ref (ma 16), .ref (ma 17), .ref (ma 18), .ref (ma 19), .ref (ma 20), .int 0])), (ma 1, .inl (cI, 4, .inl uU)), (ma 3, .inl (cI, 80, .inl (upd uK (20 * ca + r) 1))), (ma 4, .inl (cI, 80, .inl (upd uW (20 * ca + r) w))), (ma 5, .inl (cI, 80, .inl uV)), (ma 6, .inl (cI, 80, .inl uS))]) H := hP
              have hD : va_D A ([(ma 0, .inr (4, [.int now, .ref (ma 1), .ref (ma 2), .ref (ma 3), .ref (ma 4), .ref (ma 5), .ref (ma 6), .ref (ma 7), .ref (ma 8), .ref (ma 9), .ref (ma 10), .ref (ma 11), .ref (ma 12), .ref (ma 13), .ref (ma 14), .ref (ma 15), .ref (ma 16), .ref (ma 17), .ref (ma 18), .ref (ma 19), .ref (ma 20), .int 0])), (ma 1, .inl (cI, 4, .inl uU)), (ma 3, .inl (cI, 80, .inl (upd uK (20 * ca + r) 1))), (ma 4, .inl (cI, 80, .inl (upd uW (20 * ca + r) w))), (ma 5, .inl (cI, 80, .inl uV)), (ma 6, .inl (cI, 80, .inl uS))]) := hD
              refine lv_aload_n hx hb dX4_put_86 rfl (lv_at hl 2 rfl) ?_
              refine va_get (D := (dC, dI)) (ci := 4) (v := .ref (ma 5)) (C := RX4) (T := TX4) (N := 22) hx hb hts hiX4 hown hK hP 0 rfl rfl 5 (by decide) l22 (fun _ h9 => h9) rfl dX4_put_87 ?_
              refine lv_iload hx hb dX4_put_90 (lv_at hl 0 rfl) ?_
              refine lv_iload hx hb dX4_put_92 (lv_at hl 6 rfl) ?_
              refine z_iast hx hb hK hP hD hS 4 rfl (zix_nI (by first | assumption | omega) (by decide)) dX4_put_94 (fun H locs hP hD hS => ?_)
              have hP : va_P (dC, dI) vwCl ([(ma 0, .inr (4, [.int now, .ref (ma 1), .ref (ma 2), .ref (ma 3), .ref (ma 4), .ref (ma 5), .ref (ma 6), .ref (ma 7), .ref (ma 8), .ref (ma 9), .ref (ma 10), .ref (ma 11), .ref (ma 12), .ref (ma 13), .ref (ma 14), .ref (ma 15), .ref (ma 16), .ref (ma 17), .ref (ma 18), .ref (ma 19), .ref (ma 20), .int 0])), (ma 1, .inl (cI, 4, .inl uU)), (ma 3, .inl (cI, 80, .inl (upd uK (20 * ca + r) 1))), (ma 4, .inl (cI, 80, .inl (upd uW (20 * ca + r) w))), (ma 5, .inl (cI, 80, .inl (upd uV (20 * ca + r) v))), (ma 6, .inl (cI, 80, .inl uS))]) H := hP
              have hD : va_D A ([(ma 0, .inr (4, [.int now, .ref (ma 1), .ref (ma 2), .ref (ma 3), .ref (ma 4), .ref (ma 5), .ref (ma 6), .ref (ma 7), .ref (ma 8), .ref (ma 9), .ref (ma 10), .ref (ma 11), .ref (ma 12), .ref (ma 13), .ref (ma 14), .ref (ma 15), .ref (ma 16), .ref (ma 17), .ref (ma 18), .ref (ma 19), .ref (ma 20), .int 0])), (ma 1, .inl (cI, 4, .inl uU)), (ma 3, .inl (cI, 80, .inl (upd uK (20 * ca + r) 1))), (ma 4, .inl (cI, 80, .inl (upd uW (20 * ca + r) w))), (ma 5, .inl (cI, 80, .inl (upd uV (20 * ca + r) v))), (ma 6, .inl (cI, 80, .inl uS))]) := hD
              refine lv_aload_n hx hb dX4_put_95 rfl (lv_at hl 2 rfl) ?_
              refine va_get (D := (dC, dI)) (ci := 4) (v := .ref (ma 6)) (C := RX4) (T := TX4) (N := 22) hx hb hts hiX4 hown hK hP 0 rfl rfl 6 (by decide) l25 (fun _ h9 => h9) rfl dX4_put_96 ?_
              refine lv_iload hx hb dX4_put_99 (lv_at hl 0 rfl) ?_
              refine lv_aload_n hx hb dX4_put_101 rfl (lv_at hl 2 rfl) ?_
              refine lv_iload_n hx hb dX4_put_102 rfl (lv_at hl 3 rfl) ?_
              refine lv_aload_n hx hb dX4_put_103 rfl (lv_at hl 2 rfl) ?_
              refine va_get (D := (dC, dI)) (ci := 4) (v := .int now) (C := RX4) (T := TX4) (N := 22) hx hb hts hiX4 hown hK hP 0 rfl rfl 0 (by decide) l79 (fun _ h9 => h9) rfl dX4_put_104 ?_
              refine z_cRi (va_runV (As := [.int (nI ca), .int now]) (rest := [.int (nI (20 * ca + r)), .ref (ma 6)]) ⟨hx, hb, hml, hown, hts⟩ (kX4_stamp l dC dI cI cZ cH cJ ma now 0 uU ca (by first | assumption | omega) now (by first | assumption | omega)) (cwV 2 hts gX4_put_X4_stamp rfl rfl rfl (by decide +kernel) ⟨Nat.le_of_ble_eq_true rfl, Nat.le_of_ble_eq_true rfl⟩) (zPreR (is := [0, 1]) hK hP rfl (va_recv hK hP (ci := 4) (q0 := 0) rfl rfl)) rfl rfl hl.1 rfl (lv_room (Nat.le_of_ble_eq_true rfl)) dX4_put_107 ⟨Nat.le_of_ble_eq_true rfl, Nat.le_of_ble_eq_true rfl⟩) ?_
              refine z_tv (v := yst (uU ca) now) rfl ?_
              refine z_iast hx hb hK hP hD hS 5 rfl (zix_nI (by first | assumption | omega) (by decide)) dX4_put_110 (fun H locs hP hD hS => ?_)
              have hP : va_P (dC, dI) vwCl ([(ma 0, .inr (4, [.int now, .ref (ma 1), .ref (ma 2), .ref (ma 3), .ref (ma 4), .ref (ma 5), .ref (ma 6), .ref (ma 7), .ref (ma 8), .ref (ma 9), .ref (ma 10), .ref (ma 11), .ref (ma 12), .ref (ma 13), .ref (ma 14), .ref (ma 15), .ref (ma 16), .ref (ma 17), .ref (ma 18), .ref (ma 19), .ref (ma 20), .int 0])), (ma 1, .inl (cI, 4, .inl uU)), (ma 3, .inl (cI, 80, .inl (upd uK (20 * ca + r) 1))), (ma 4, .inl (cI, 80, .inl (upd uW (20 * ca + r) w))), (ma 5, .inl (cI, 80, .inl (upd uV (20 * ca + r) v))), (ma 6, .inl (cI, 80, .inl (upd uS (20 * ca + r) (yst (uU ca) now))))]) H := hP
              have hD : va_D A ([(ma 0, .inr (4, [.int now, .ref (ma 1), .ref (ma 2), .ref (ma 3), .ref (ma 4), .ref (ma 5), .ref (ma 6), .ref (ma 7), .ref (ma 8), .ref (ma 9), .ref (ma 10), .ref (ma 11), .ref (ma 12), .ref (ma 13), .ref (ma 14), .ref (ma 15), .ref (ma 16), .ref (ma 17), .ref (ma 18), .ref (ma 19), .ref (ma 20), .int 0])), (ma 1, .inl (cI, 4, .inl uU)), (ma 3, .inl (cI, 80, .inl (upd uK (20 * ca + r) 1))), (ma 4, .inl (cI, 80, .inl (upd uW (20 * ca + r) w))), (ma 5, .inl (cI, 80, .inl (upd uV (20 * ca + r) v))), (ma 6, .inl (cI, 80, .inl (upd uS (20 * ca + r) (yst (uU ca) now))))]) := hD
              refine lv_aload_n hx hb dX4_put_111 rfl (lv_at hl 2 rfl) ?_
              refine va_get (D := (dC, dI)) (ci := 4) (v := .ref (ma 6)) (C := RX4) (T := TX4) (N := 22) hx hb hts hiX4 hown hK hP 0 rfl rfl 6 (by decide) l25 (fun _ h9 => h9) rfl dX4_put_112 ?_
              refine lv_iload hx hb dX4_put_115 (lv_at hl 0 rfl) ?_
              refine z_iald hx hb hK hP 5 rfl (zix_nI (by first | assumption | omega) (by decide)) dX4_put_117 ?_
              refine z_tv (v := (upd uS (20 * ca + r) (yst (uU ca) now)) (20 * ca + r)) (rfl) ?_
              refine z_tv (v := yst (uU ca) now) (pk_us) ?_
              exact W.iret hx hb hr (fun t ht hW => ⟨rfl, ⟨by rw [ht]; exact hP, hD⟩, hS.F ht⟩) hS.2.2 dX4_put_118
            · exact absurd c_57 (by decide)
set_option maxHeartbeats 4000000 in
set_option maxRecDepth 100000 in
/-- Model.put_bad -/
theorem kX4_put_bad (l : Launch) (dC : Nat → ClassId) (dI : Nat → Nat → Nat) (cI cZ cH cJ : ClassId) (ma : Nat → Nat) (now : Int32) (th : Int32) (a : Int32) (b : Int32) (w : Int32) (v : Int32) (hv : ¬ (zin a 0 3 = 1 ∧ zin b 0 19 = 1 ∧ zin w 0 9 = 1 ∧ zin v 0 1000 = 1)) (sz : Nat) : Met l yX4_put wsX4_put ({ frames := 2, cells := 0, slots := 0, locals := 42 }) (zPc dC dI (zTy cI cZ cH cJ) [.ref (ma 0), .int a, .int b, .int w, .int v] sz ([(ma 0, .inr (4, [.int now, .ref (ma 1), .ref (ma 2), .ref (ma 3), .ref (ma 4), .ref (ma 5), .ref (ma 6), .ref (ma 7), .ref (ma 8), .ref (ma 9), .ref (ma 10), .ref (ma 11), .ref (ma 12), .ref (ma 13), .ref (ma 14), .ref (ma 15), .ref (ma 16), .ref (ma 17), .ref (ma 18), .ref (ma 19), .ref (ma 20), .int th]))])) (zQi dC dI 0 ([(ma 0, .inr (4, [.int now, .ref (ma 1), .ref (ma 2), .ref (ma 3), .ref (ma 4), .ref (ma 5), .ref (ma 6), .ref (ma 7), .ref (ma 8), .ref (ma 9), .ref (ma 10), .ref (ma 11), .ref (ma 12), .ref (ma 13), .ref (ma 14), .ref (ma 15), .ref (ma 16), .ref (ma 17), .ref (ma 18), .ref (ma 19), .ref (ma 20), .int 1]))]) (va_A ([(ma 0, .inr (4, [.int now, .ref (ma 1), .ref (ma 2), .ref (ma 3), .ref (ma 4), .ref (ma 5), .ref (ma 6), .ref (ma 7), .ref (ma 8), .ref (ma 9), .ref (ma 10), .ref (ma 11), .ref (ma 12), .ref (ma 13), .ref (ma 14), .ref (ma 15), .ref (ma 16), .ref (ma 17), .ref (ma 18), .ref (ma 19), .ref (ma 20), .int th]))]) sz)) 0 0 (va_A ([(ma 0, .inr (4, [.int now, .ref (ma 1), .ref (ma 2), .ref (ma 3), .ref (ma 4), .ref (ma 5), .ref (ma 6), .ref (ma 7), .ref (ma 8), .ref (ma 9), .ref (ma 10), .ref (ma 11), .ref (ma 12), .ref (ma 13), .ref (ma 14), .ref (ma 15), .ref (ma 16), .ref (ma 17), .ref (ma 18), .ref (ma 19), .ref (ma 20), .int th]))]) sz) := by
  refine Met.ofW (cc := cX4_put) (maxL := 7) (ret := (some .int)) (by decide) rfl ?_
  intro p e s m args below meth c s₁ B hml hv0
  obtain ⟨rfl, hsz, hP, hK, hD0⟩ := hv0
  have hx := B.exec
  have hb := B.bytes
  have hr := B.returns
  have hts := atoms_spec (ws := wsX4_put) B.pre
  have hown : s.vm.findClass RX4 = some m.cls := findClass_of_methodNamed B.named
  have hlocks := B.notSynchronized
  subst hsz
  have hD := hD0.self (sz := s.heap.size)
  generalize hAe : va_A ([(ma 0, .inr (4, [.int now, .ref (ma 1), .ref (ma 2), .ref (ma 3), .ref (ma 4), .ref (ma 5), .ref (ma 6), .ref (ma 7), .ref (ma 8), .ref (ma 9), .ref (ma 10), .ref (ma 11), .ref (ma 12), .ref (ma 13), .ref (ma 14), .ref (ma 15), .ref (ma 16), .ref (ma 17), .ref (ma 18), .ref (ma 19), .ref (ma 20), .int th]))]) s.heap.size = A at hD ⊢
  have hA : ∀ q : Nat, s.heap.size ≤ q → A q := fun q h => by rw [← hAe]; exact Or.inr h
  have hS : va_S A s.heap s.heap [] := va_S.rf
  have hl := lv_entry ([.ref (ma 0), .int a, .int b, .int w, .int v]) (n := 7) (Nat.le_of_ble_eq_true rfl)
  rw [lg_entry_eq]
  generalize (lg_sl ([.ref (ma 0), .int a, .int b, .int w, .int v]) ++ List.replicate (7 - (lg_sl ([.ref (ma 0), .int a, .int b, .int w, .int v])).length) Slot.unset).toArray = ls at hl ⊢
  have hl : lv_has ls 7 [(0, .ref (ma 0)), (1, .int a), (2, .int b), (3, .int w), (4, .int v)] := hl
  refine lv_iload_n hx hb dX4_put_0 rfl (lv_at hl 1 rfl) ?_
  refine z_cRi (va_runS (As := [.int a]) (rest := []) ⟨hx, hb, hml, hown, hts⟩ (kX4_isCatalogue l a) (va_cwS 1 hts gX4_put_X4_isCatalogue rfl rfl rfl (by decide +kernel) ⟨Nat.le_of_ble_eq_true rfl, Nat.le_of_ble_eq_true rfl⟩) (zPre0) rfl rfl hl.1 rfl (lv_room (Nat.le_of_ble_eq_true rfl)) dX4_put_1 ⟨Nat.le_of_ble_eq_true rfl, Nat.le_of_ble_eq_true rfl⟩) ?_
  refine z_tv (v := zin a 0 3) rfl ?_
  refine lv_if_eq (tgt := 40) hx hb dX4_put_4 (by decide) (fun c_4 => ?_) (fun c_4 => ?_)
  · skip
    refine lv_iconst (v := 0) hx hb dX4_put_40 (by decide) ?_
    refine lv_istore (lv' := [(5, .int 0), (0, .ref (ma 0)), (1, .int a), (2, .int b), (3, .int w), (4, .int v)]) hx hb dX4_put_41 hl (by decide) rfl (fun ls hl => ?_)
    refine lv_aload_n hx hb dX4_put_43 rfl (lv_at hl 1 rfl) ?_
    refine lv_iload hx hb dX4_put_44 (lv_at hl 0 rfl) ?_
    refine lv_if_eq (tgt := 53) hx hb dX4_put_46 (by decide) (fun c_46 => ?_) (fun c_46 => ?_)
    · skip
      refine lv_iconst (v := 1) hx hb dX4_put_53 (by decide) ?_
      refine z_cMi (is := [0]) (va_runV (As := [.int 1]) (rest := []) ⟨hx, hb, hml, hown, hts⟩ (kX4_goes l dC dI cI cZ cH cJ ma now th 1 s.heap.size) (cwV 1 hts gX4_put_X4_goes rfl rfl rfl (by decide +kernel) ⟨Nat.le_of_ble_eq_true rfl, Nat.le_of_ble_eq_true rfl⟩) (zPreV (is := [0]) hK hP hD (by decide) rfl (va_recv hK hP (ci := 4) (q0 := 0) rfl rfl)) rfl rfl hl.1 rfl (lv_room (Nat.le_of_ble_eq_true rfl)) dX4_put_54 ⟨Nat.le_of_ble_eq_true rfl, Nat.le_of_ble_eq_true rfl⟩) hP hD hS hA rfl (by decide) rfl (fun H locs hP hD hS => ?_)
      have hP : va_P (dC, dI) vwCl ([(ma 0, .inr (4, [.int now, .ref (ma 1), .ref (ma 2), .ref (ma 3), .ref (ma 4), .ref (ma 5), .ref (ma 6), .ref (ma 7), .ref (ma 8), .ref (ma 9), .ref (ma 10), .ref (ma 11), .ref (ma 12), .ref (ma 13), .ref (ma 14), .ref (ma 15), .ref (ma 16), .ref (ma 17), .ref (ma 18), .ref (ma 19), .ref (ma 20), .int 1]))]) H := hP
      have hD : va_D A ([(ma 0, .inr (4, [.int now, .ref (ma 1), .ref (ma 2), .ref (ma 3), .ref (ma 4), .ref (ma 5), .ref (ma 6), .ref (ma 7), .ref (ma 8), .ref (ma 9), .ref (ma 10), .ref (ma 11), .ref (ma 12), .ref (ma 13), .ref (ma 14), .ref (ma 15), .ref (ma 16), .ref (ma 17), .ref (ma 18), .ref (ma 19), .ref (ma 20), .int 1]))]) := hD
      refine z_tv (v := 0) (by decide) ?_
      refine lv_if_ne (tgt := 62) hx hb dX4_put_57 (by decide) (fun c_57 => ?_) (fun c_57 => ?_)
      · exact absurd c_57 (by decide)
      · skip
        refine lv_iconst (v := 0) hx hb dX4_put_60 (by decide) ?_
        exact W.iret hx hb hr (fun t ht hW => ⟨rfl, ⟨by rw [ht]; exact hP, hD⟩, hS.F ht⟩) hS.2.2 dX4_put_61
    · exact absurd c_46 (by decide)
  · skip
    refine lv_iload_n hx hb dX4_put_7 rfl (lv_at hl 2 rfl) ?_
    refine z_cRi (va_runS (As := [.int b]) (rest := []) ⟨hx, hb, hml, hown, hts⟩ (kX4_isRecord l b) (va_cwS 1 hts gX4_put_X4_isRecord rfl rfl rfl (by decide +kernel) ⟨Nat.le_of_ble_eq_true rfl, Nat.le_of_ble_eq_true rfl⟩) (zPre0) rfl rfl hl.1 rfl (lv_room (Nat.le_of_ble_eq_true rfl)) dX4_put_8 ⟨Nat.le_of_ble_eq_true rfl, Nat.le_of_ble_eq_true rfl⟩) ?_
    refine z_tv (v := zin b 0 19) rfl ?_
    refine lv_if_eq (tgt := 40) hx hb dX4_put_11 (by decide) (fun c_11 => ?_) (fun c_11 => ?_)
    · skip
      refine lv_iconst (v := 0) hx hb dX4_put_40 (by decide) ?_
      refine lv_istore (lv' := [(5, .int 0), (0, .ref (ma 0)), (1, .int a), (2, .int b), (3, .int w), (4, .int v)]) hx hb dX4_put_41 hl (by decide) rfl (fun ls hl => ?_)
      refine lv_aload_n hx hb dX4_put_43 rfl (lv_at hl 1 rfl) ?_
      refine lv_iload hx hb dX4_put_44 (lv_at hl 0 rfl) ?_
      refine lv_if_eq (tgt := 53) hx hb dX4_put_46 (by decide) (fun c_46 => ?_) (fun c_46 => ?_)
      · skip
        refine lv_iconst (v := 1) hx hb dX4_put_53 (by decide) ?_
        refine z_cMi (is := [0]) (va_runV (As := [.int 1]) (rest := []) ⟨hx, hb, hml, hown, hts⟩ (kX4_goes l dC dI cI cZ cH cJ ma now th 1 s.heap.size) (cwV 1 hts gX4_put_X4_goes rfl rfl rfl (by decide +kernel) ⟨Nat.le_of_ble_eq_true rfl, Nat.le_of_ble_eq_true rfl⟩) (zPreV (is := [0]) hK hP hD (by decide) rfl (va_recv hK hP (ci := 4) (q0 := 0) rfl rfl)) rfl rfl hl.1 rfl (lv_room (Nat.le_of_ble_eq_true rfl)) dX4_put_54 ⟨Nat.le_of_ble_eq_true rfl, Nat.le_of_ble_eq_true rfl⟩) hP hD hS hA rfl (by decide) rfl (fun H locs hP hD hS => ?_)
        have hP : va_P (dC, dI) vwCl ([(ma 0, .inr (4, [.int now, .ref (ma 1), .ref (ma 2), .ref (ma 3), .ref (ma 4), .ref (ma 5), .ref (ma 6), .ref (ma 7), .ref (ma 8), .ref (ma 9), .ref (ma 10), .ref (ma 11), .ref (ma 12), .ref (ma 13), .ref (ma 14), .ref (ma 15), .ref (ma 16), .ref (ma 17), .ref (ma 18), .ref (ma 19), .ref (ma 20), .int 1]))]) H := hP
        have hD : va_D A ([(ma 0, .inr (4, [.int now, .ref (ma 1), .ref (ma 2), .ref (ma 3), .ref (ma 4), .ref (ma 5), .ref (ma 6), .ref (ma 7), .ref (ma 8), .ref (ma 9), .ref (ma 10), .ref (ma 11), .ref (ma 12), .ref (ma 13), .ref (ma 14), .ref (ma 15), .ref (ma 16), .ref (ma 17), .ref (ma 18), .ref (ma 19), .ref (ma 20), .int 1]))]) := hD
        refine z_tv (v := 0) (by decide) ?_
        refine lv_if_ne (tgt := 62) hx hb dX4_put_57 (by decide) (fun c_57 => ?_) (fun c_57 => ?_)
        · exact absurd c_57 (by decide)
        · skip
          refine lv_iconst (v := 0) hx hb dX4_put_60 (by decide) ?_
          exact W.iret hx hb hr (fun t ht hW => ⟨rfl, ⟨by rw [ht]; exact hP, hD⟩, hS.F ht⟩) hS.2.2 dX4_put_61
      · exact absurd c_46 (by decide)
    · skip
      refine lv_iload_n hx hb dX4_put_14 rfl (lv_at hl 3 rfl) ?_
      refine lv_iconst (v := 0) hx hb dX4_put_15 (by decide) ?_
      refine lv_bipush (v := 9) hx hb dX4_put_16 (by decide) ?_
      refine z_cRi (va_runS (As := [.int w, .int 0, .int 9]) (rest := []) ⟨hx, hb, hml, hown, hts⟩ (kX4_isIn l w 0 9) (va_cwS 3 hts gX4_put_X4_isIn rfl rfl rfl (by decide +kernel) ⟨Nat.le_of_ble_eq_true rfl, Nat.le_of_ble_eq_true rfl⟩) (zPre0) rfl rfl hl.1 rfl (lv_room (Nat.le_of_ble_eq_true rfl)) dX4_put_18 ⟨Nat.le_of_ble_eq_true rfl, Nat.le_of_ble_eq_true rfl⟩) ?_
      refine z_tv (v := zin w 0 9) rfl ?_
      refine lv_if_eq (tgt := 40) hx hb dX4_put_21 (by decide) (fun c_21 => ?_) (fun c_21 => ?_)
      · skip
        refine lv_iconst (v := 0) hx hb dX4_put_40 (by decide) ?_
        refine lv_istore (lv' := [(5, .int 0), (0, .ref (ma 0)), (1, .int a), (2, .int b), (3, .int w), (4, .int v)]) hx hb dX4_put_41 hl (by decide) rfl (fun ls hl => ?_)
        refine lv_aload_n hx hb dX4_put_43 rfl (lv_at hl 1 rfl) ?_
        refine lv_iload hx hb dX4_put_44 (lv_at hl 0 rfl) ?_
        refine lv_if_eq (tgt := 53) hx hb dX4_put_46 (by decide) (fun c_46 => ?_) (fun c_46 => ?_)
        · skip
          refine lv_iconst (v := 1) hx hb dX4_put_53 (by decide) ?_
          refine z_cMi (is := [0]) (va_runV (As := [.int 1]) (rest := []) ⟨hx, hb, hml, hown, hts⟩ (kX4_goes l dC dI cI cZ cH cJ ma now th 1 s.heap.size) (cwV 1 hts gX4_put_X4_goes rfl rfl rfl (by decide +kernel) ⟨Nat.le_of_ble_eq_true rfl, Nat.le_of_ble_eq_true rfl⟩) (zPreV (is := [0]) hK hP hD (by decide) rfl (va_recv hK hP (ci := 4) (q0 := 0) rfl rfl)) rfl rfl hl.1 rfl (lv_room (Nat.le_of_ble_eq_true rfl)) dX4_put_54 ⟨Nat.le_of_ble_eq_true rfl, Nat.le_of_ble_eq_true rfl⟩) hP hD hS hA rfl (by decide) rfl (fun H locs hP hD hS => ?_)
          have hP : va_P (dC, dI) vwCl ([(ma 0, .inr (4, [.int now, .ref (ma 1), .ref (ma 2), .ref (ma 3), .ref (ma 4), .ref (ma 5), .ref (ma 6), .ref (ma 7), .ref (ma 8), .ref (ma 9), .ref (ma 10), .ref (ma 11), .ref (ma 12), .ref (ma 13), .ref (ma 14), .ref (ma 15), .ref (ma 16), .ref (ma 17), .ref (ma 18), .ref (ma 19), .ref (ma 20), .int 1]))]) H := hP
          have hD : va_D A ([(ma 0, .inr (4, [.int now, .ref (ma 1), .ref (ma 2), .ref (ma 3), .ref (ma 4), .ref (ma 5), .ref (ma 6), .ref (ma 7), .ref (ma 8), .ref (ma 9), .ref (ma 10), .ref (ma 11), .ref (ma 12), .ref (ma 13), .ref (ma 14), .ref (ma 15), .ref (ma 16), .ref (ma 17), .ref (ma 18), .ref (ma 19), .ref (ma 20), .int 1]))]) := hD
          refine z_tv (v := 0) (by decide) ?_
          refine lv_if_ne (tgt := 62) hx hb dX4_put_57 (by decide) (fun c_57 => ?_) (fun c_57 => ?_)
          · exact absurd c_57 (by decide)
          · skip
            refine lv_iconst (v := 0) hx hb dX4_put_60 (by decide) ?_
            exact W.iret hx hb hr (fun t ht hW => ⟨rfl, ⟨by rw [ht]; exact hP, hD⟩, hS.F ht⟩) hS.2.2 dX4_put_61
        · exact absurd c_46 (by decide)
      · skip
        refine lv_iload hx hb dX4_put_24 (lv_at hl 4 rfl) ?_
        refine lv_iconst (v := 0) hx hb dX4_put_26 (by decide) ?_
        refine lv_sipush (v := 1000) hx hb dX4_put_27 (by decide) ?_
        refine z_cRi (va_runS (As := [.int v, .int 0, .int 1000]) (rest := []) ⟨hx, hb, hml, hown, hts⟩ (kX4_isIn l v 0 1000) (va_cwS 3 hts gX4_put_X4_isIn rfl rfl rfl (by decide +kernel) ⟨Nat.le_of_ble_eq_true rfl, Nat.le_of_ble_eq_true rfl⟩) (zPre0) rfl rfl hl.1 rfl (lv_room (Nat.le_of_ble_eq_true rfl)) dX4_put_30 ⟨Nat.le_of_ble_eq_true rfl, Nat.le_of_ble_eq_true rfl⟩) ?_
        refine z_tv (v := zin v 0 1000) rfl ?_
        refine lv_if_eq (tgt := 40) hx hb dX4_put_33 (by decide) (fun c_33 => ?_) (fun c_33 => ?_)
        · skip
          refine lv_iconst (v := 0) hx hb dX4_put_40 (by decide) ?_
          refine lv_istore (lv' := [(5, .int 0), (0, .ref (ma 0)), (1, .int a), (2, .int b), (3, .int w), (4, .int v)]) hx hb dX4_put_41 hl (by decide) rfl (fun ls hl => ?_)
          refine lv_aload_n hx hb dX4_put_43 rfl (lv_at hl 1 rfl) ?_
          refine lv_iload hx hb dX4_put_44 (lv_at hl 0 rfl) ?_
          refine lv_if_eq (tgt := 53) hx hb dX4_put_46 (by decide) (fun c_46 => ?_) (fun c_46 => ?_)
          · skip
            refine lv_iconst (v := 1) hx hb dX4_put_53 (by decide) ?_
            refine z_cMi (is := [0]) (va_runV (As := [.int 1]) (rest := []) ⟨hx, hb, hml, hown, hts⟩ (kX4_goes l dC dI cI cZ cH cJ ma now th 1 s.heap.size) (cwV 1 hts gX4_put_X4_goes rfl rfl rfl (by decide +kernel) ⟨Nat.le_of_ble_eq_true rfl, Nat.le_of_ble_eq_true rfl⟩) (zPreV (is := [0]) hK hP hD (by decide) rfl (va_recv hK hP (ci := 4) (q0 := 0) rfl rfl)) rfl rfl hl.1 rfl (lv_room (Nat.le_of_ble_eq_true rfl)) dX4_put_54 ⟨Nat.le_of_ble_eq_true rfl, Nat.le_of_ble_eq_true rfl⟩) hP hD hS hA rfl (by decide) rfl (fun H locs hP hD hS => ?_)
            have hP : va_P (dC, dI) vwCl ([(ma 0, .inr (4, [.int now, .ref (ma 1), .ref (ma 2), .ref (ma 3), .ref (ma 4), .ref (ma 5), .ref (ma 6), .ref (ma 7), .ref (ma 8), .ref (ma 9), .ref (ma 10), .ref (ma 11), .ref (ma 12), .ref (ma 13), .ref (ma 14), .ref (ma 15), .ref (ma 16), .ref (ma 17), .ref (ma 18), .ref (ma 19), .ref (ma 20), .int 1]))]) H := hP
            have hD : va_D A ([(ma 0, .inr (4, [.int now, .ref (ma 1), .ref (ma 2), .ref (ma 3), .ref (ma 4), .ref (ma 5), .ref (ma 6), .ref (ma 7), .ref (ma 8), .ref (ma 9), .ref (ma 10), .ref (ma 11), .ref (ma 12), .ref (ma 13), .ref (ma 14), .ref (ma 15), .ref (ma 16), .ref (ma 17), .ref (ma 18), .ref (ma 19), .ref (ma 20), .int 1]))]) := hD
            refine z_tv (v := 0) (by decide) ?_
            refine lv_if_ne (tgt := 62) hx hb dX4_put_57 (by decide) (fun c_57 => ?_) (fun c_57 => ?_)
            · exact absurd c_57 (by decide)
            · skip
              refine lv_iconst (v := 0) hx hb dX4_put_60 (by decide) ?_
              exact W.iret hx hb hr (fun t ht hW => ⟨rfl, ⟨by rw [ht]; exact hP, hD⟩, hS.F ht⟩) hS.2.2 dX4_put_61
          · exact absurd c_46 (by decide)
        · exact absurd c_33 (fun q => hv ⟨zin_n1 c_4, zin_n1 c_11, zin_n1 c_21, zin_n1 q⟩)
set_option maxHeartbeats 4000000 in
set_option maxRecDepth 100000 in
/-- Model.remove_ok -/
theorem kX4_remove_ok (l : Launch) (dC : Nat → ClassId) (dI : Nat → Nat → Nat) (cI cZ cH cJ : ClassId) (ma : Nat → Nat) (now : Int32) (th : Int32) (uU : zI) (uY : zI) (uK : zI) (uS : zI) (uR : zI) (ca : Nat) (hca : ca < 4) (r : Nat) (hrr : r < 20) (hun : ¬ uU ca = 0) (hk1 : uK (20 * ca + r) = 1) (sz : Nat) : Met l yX4_remove wsX4_remove ({ frames := 2, cells := 0, slots := 0, locals := 42 }) (zPc dC dI (zTy cI cZ cH cJ) [.ref (ma 0), .int (nI ca), .int (nI r)] sz ([(ma 0, .inr (4, [.int now, .ref (ma 1), .ref (ma 2), .ref (ma 3), .ref (ma 4), .ref (ma 5), .ref (ma 6), .ref (ma 7), .ref (ma 8), .ref (ma 9), .ref (ma 10), .ref (ma 11), .ref (ma 12), .ref (ma 13), .ref (ma 14), .ref (ma 15), .ref (ma 16), .ref (ma 17), .ref (ma 18), .ref (ma 19), .ref (ma 20), .int th])), (ma 1, .inl (cI, 4, .inl uU)), (ma 2, .inl (cI, 4, .inl uY)), (ma 3, .inl (cI, 80, .inl uK)), (ma 6, .inl (cI, 80, .inl uS)), (ma 7, .inl (cI, 80, .inl uR))])) (zQi dC dI (if uY ca = 2 then (0 : Int32) else 1) ([(ma 0, .inr (4, [.int now, .ref (ma 1), .ref (ma 2), .ref (ma 3), .ref (ma 4), .ref (ma 5), .ref (ma 6), .ref (ma 7), .ref (ma 8), .ref (ma 9), .ref (ma 10), .ref (ma 11), .ref (ma 12), .ref (ma 13), .ref (ma 14), .ref (ma 15), .ref (ma 16), .ref (ma 17), .ref (ma 18), .ref (ma 19), .ref (ma 20), .int 0])), (ma 1, .inl (cI, 4, .inl uU)), (ma 2, .inl (cI, 4, .inl uY)), (ma 3, .inl (cI, 80, .inl (upd uK (20 * ca + r) (if uY ca = 2 then (0 : Int32) else 2)))), (ma 6, .inl (cI, 80, .inl (upd uS (20 * ca + r) (yst (uU ca) now)))), (ma 7, .inl (cI, 80, .inl (upd uR (20 * ca + r) now)))]) (va_A ([(ma 0, .inr (4, [.int now, .ref (ma 1), .ref (ma 2), .ref (ma 3), .ref (ma 4), .ref (ma 5), .ref (ma 6), .ref (ma 7), .ref (ma 8), .ref (ma 9), .ref (ma 10), .ref (ma 11), .ref (ma 12), .ref (ma 13), .ref (ma 14), .ref (ma 15), .ref (ma 16), .ref (ma 17), .ref (ma 18), .ref (ma 19), .ref (ma 20), .int th])), (ma 1, .inl (cI, 4, .inl uU)), (ma 2, .inl (cI, 4, .inl uY)), (ma 3, .inl (cI, 80, .inl uK)), (ma 6, .inl (cI, 80, .inl uS)), (ma 7, .inl (cI, 80, .inl uR))]) sz)) 0 0 (va_A ([(ma 0, .inr (4, [.int now, .ref (ma 1), .ref (ma 2), .ref (ma 3), .ref (ma 4), .ref (ma 5), .ref (ma 6), .ref (ma 7), .ref (ma 8), .ref (ma 9), .ref (ma 10), .ref (ma 11), .ref (ma 12), .ref (ma 13), .ref (ma 14), .ref (ma 15), .ref (ma 16), .ref (ma 17), .ref (ma 18), .ref (ma 19), .ref (ma 20), .int th])), (ma 1, .inl (cI, 4, .inl uU)), (ma 2, .inl (cI, 4, .inl uY)), (ma 3, .inl (cI, 80, .inl uK)), (ma 6, .inl (cI, 80, .inl uS)), (ma 7, .inl (cI, 80, .inl uR))]) sz) := by
  refine Met.ofW (cc := cX4_remove) (maxL := 5) (ret := (some .boolean)) (by decide) rfl ?_
  intro p e s m args below meth c s₁ B hml hv0
  obtain ⟨rfl, hsz, hP, hK, hD0⟩ := hv0
  have hx := B.exec
  have hb := B.bytes
  have hr := B.returns
  have hts := atoms_spec (ws := wsX4_remove) B.pre
  have hown : s.vm.findClass RX4 = some m.cls := findClass_of_methodNamed B.named
  have hlocks := B.notSynchronized
  subst hsz
  have hD := hD0.self (sz := s.heap.size)
  generalize hAe : va_A ([(ma 0, .inr (4, [.int now, .ref (ma 1), .ref (ma 2), .ref (ma 3), .ref (ma 4), .ref (ma 5), .ref (ma 6), .ref (ma 7), .ref (ma 8), .ref (ma 9), .ref (ma 10), .ref (ma 11), .ref (ma 12), .ref (ma 13), .ref (ma 14), .ref (ma 15), .ref (ma 16), .ref (ma 17), .ref (ma 18), .ref (ma 19), .ref (ma 20), .int th])), (ma 1, .inl (cI, 4, .inl uU)), (ma 2, .inl (cI, 4, .inl uY)), (ma 3, .inl (cI, 80, .inl uK)), (ma 6, .inl (cI, 80, .inl uS)), (ma 7, .inl (cI, 80, .inl uR))]) s.heap.size = A at hD ⊢
  have hA : ∀ q : Nat, s.heap.size ≤ q → A q := fun q h => by rw [← hAe]; exact Or.inr h
  have hS : va_S A s.heap s.heap [] := va_S.rf
  have hl := lv_entry ([.ref (ma 0), .int (nI ca), .int (nI r)]) (n := 5) (Nat.le_of_ble_eq_true rfl)
  rw [lg_entry_eq]
  generalize (lg_sl ([.ref (ma 0), .int (nI ca), .int (nI r)]) ++ List.replicate (5 - (lg_sl ([.ref (ma 0), .int (nI ca), .int (nI r)])).length) Slot.unset).toArray = ls at hl ⊢
  have hl : lv_has ls 5 [(0, .ref (ma 0)), (1, .int (nI ca)), (2, .int (nI r))] := hl
  have hiX4 : ∀ w ∈ wsX40, w ∈ wsX4_remove := by decide +kernel
  have l13 := hts (.fieldLink RX4 13 "CatalogueHarvesterModel" "ways" "[I") (by decide +kernel)
  have l16 := hts (.fieldLink RX4 16 "CatalogueHarvesterModel" "kinds" "[I") (by decide +kernel)
  have l25 := hts (.fieldLink RX4 25 "CatalogueHarvesterModel" "stamps" "[I") (by decide +kernel)
  have l28 := hts (.fieldLink RX4 28 "CatalogueHarvesterModel" "removedOn" "[I") (by decide +kernel)
  have l79 := hts (.fieldLink RX4 79 "CatalogueHarvesterModel" "today" "I") (by decide +kernel)
  refine lv_iload_n hx hb dX4_remove_0 rfl (lv_at hl 1 rfl) ?_
  refine z_cRi (va_runS (As := [.int (nI ca)]) (rest := []) ⟨hx, hb, hml, hown, hts⟩ (kX4_isCatalogue l (nI ca)) (va_cwS 1 hts gX4_remove_X4_isCatalogue rfl rfl rfl (by decide +kernel) ⟨Nat.le_of_ble_eq_true rfl, Nat.le_of_ble_eq_true rfl⟩) (zPre0) rfl rfl hl.1 rfl (lv_room (Nat.le_of_ble_eq_true rfl)) dX4_remove_1 ⟨Nat.le_of_ble_eq_true rfl, Nat.le_of_ble_eq_true rfl⟩) ?_
  refine z_tv (v := 1) (zin_c _ hca) ?_
  refine lv_if_eq (tgt := 18) hx hb dX4_remove_4 (by decide) (fun c_4 => ?_) (fun c_4 => ?_)
  · exact absurd c_4 (by decide)
  · skip
    refine lv_iload_n hx hb dX4_remove_7 rfl (lv_at hl 2 rfl) ?_
    refine z_cRi (va_runS (As := [.int (nI r)]) (rest := []) ⟨hx, hb, hml, hown, hts⟩ (kX4_isRecord l (nI r)) (va_cwS 1 hts gX4_remove_X4_isRecord rfl rfl rfl (by decide +kernel) ⟨Nat.le_of_ble_eq_true rfl, Nat.le_of_ble_eq_true rfl⟩) (zPre0) rfl rfl hl.1 rfl (lv_room (Nat.le_of_ble_eq_true rfl)) dX4_remove_8 ⟨Nat.le_of_ble_eq_true rfl, Nat.le_of_ble_eq_true rfl⟩) ?_
    refine z_tv (v := 1) (zin_r _ hrr) ?_
    refine lv_if_eq (tgt := 18) hx hb dX4_remove_11 (by decide) (fun c_11 => ?_) (fun c_11 => ?_)
    · exact absurd c_11 (by decide)
    · skip
      refine lv_iconst (v := 1) hx hb dX4_remove_14 (by decide) ?_
      refine lv_goto (tgt := 19) hx hb dX4_remove_15 (by decide) ?_
      refine lv_istore_n (lv' := [(3, .int 1), (0, .ref (ma 0)), (1, .int (nI ca)), (2, .int (nI r))]) hx hb dX4_remove_19 rfl hl (by decide) rfl (fun ls hl => ?_)
      refine lv_aload_n hx hb dX4_remove_20 rfl (lv_at hl 1 rfl) ?_
      refine lv_iload_n hx hb dX4_remove_21 rfl (lv_at hl 0 rfl) ?_
      refine lv_if_ne (tgt := 29) hx hb dX4_remove_22 (by decide) (fun c_22 => ?_) (fun c_22 => ?_)
      · skip
        refine lv_aload_n hx hb dX4_remove_29 rfl (lv_at hl 1 rfl) ?_
        refine va_get (D := (dC, dI)) (ci := 4) (v := .ref (ma 3)) (C := RX4) (T := TX4) (N := 22) hx hb hts hiX4 hown hK hP 0 rfl rfl 3 (by decide) l16 (fun _ h9 => h9) rfl dX4_remove_30 ?_
        refine lv_bipush (v := 20) hx hb dX4_remove_33 (by decide) ?_
        refine lv_iload_n hx hb dX4_remove_35 rfl (lv_at hl 2 rfl) ?_
        refine lv_imul hx hb dX4_remove_36 ?_
        refine z_tv (v := nI (20 * ca)) (pk_mul 20 ca) ?_
        refine lv_iload_n hx hb dX4_remove_37 rfl (lv_at hl 3 rfl) ?_
        refine lv_iadd hx hb dX4_remove_38 ?_
        refine z_tv (v := nI (20 * ca + r)) (nI_add (20 * ca) r) ?_
        refine z_iald hx hb hK hP 3 rfl (zix_nI (by first | assumption | omega) (by decide)) dX4_remove_39 ?_
        refine z_tv (v := uK (20 * ca + r)) (rfl) ?_
        refine lv_iconst (v := 1) hx hb dX4_remove_40 (by decide) ?_
        refine lv_icmp_ne (tgt := 48) hx hb dX4_remove_41 (by decide) (fun c_41 => ?_) (fun c_41 => ?_)
        · exact absurd hk1 c_41
        · skip
          refine lv_iconst (v := 0) hx hb dX4_remove_44 (by decide) ?_
          refine lv_goto (tgt := 49) hx hb dX4_remove_45 (by decide) ?_
          refine z_cMi (is := [0]) (va_runV (As := [.int 0]) (rest := []) ⟨hx, hb, hml, hown, hts⟩ (kX4_goes l dC dI cI cZ cH cJ ma now th 0 s.heap.size) (cwV 1 hts gX4_remove_X4_goes rfl rfl rfl (by decide +kernel) ⟨Nat.le_of_ble_eq_true rfl, Nat.le_of_ble_eq_true rfl⟩) (zPreV (is := [0]) hK hP hD (by decide) rfl (va_recv hK hP (ci := 4) (q0 := 0) rfl rfl)) rfl rfl hl.1 rfl (lv_room (Nat.le_of_ble_eq_true rfl)) dX4_remove_49 ⟨Nat.le_of_ble_eq_true rfl, Nat.le_of_ble_eq_true rfl⟩) hP hD hS hA rfl (by decide) rfl (fun H locs hP hD hS => ?_)
          have hP : va_P (dC, dI) vwCl ([(ma 0, .inr (4, [.int now, .ref (ma 1), .ref (ma 2), .ref (ma 3), .ref (ma 4), .ref (ma 5), .ref (ma 6), .ref (ma 7), .ref (ma 8), .ref (ma 9), .ref (ma 10), .ref (ma 11), .ref (ma 12), .ref (ma 13), .ref (ma 14), .ref (ma 15), .ref (ma 16), .ref (ma 17), .ref (ma 18), .ref (ma 19), .ref (ma 20), .int 0])), (ma 1, .inl (cI, 4, .inl uU)), (ma 2, .inl (cI, 4, .inl uY)), (ma 3, .inl (cI, 80, .inl uK)), (ma 6, .inl (cI, 80, .inl uS)), (ma 7, .inl (cI, 80, .inl uR))]) H := hP
          have hD : va_D A ([(ma 0, .inr (4, [.int now, .ref (ma 1), .ref (ma 2), .ref (ma 3), .ref (ma 4), .ref (ma 5), .ref (ma 6), .ref (ma 7), .ref (ma 8), .ref (ma 9), .ref (ma 10), .ref (ma 11), .ref (ma 12), .ref (ma 13), .ref (ma 14), .ref (ma 15), .ref (ma 16), .ref (ma 17), .ref (ma 18), .ref (ma 19), .ref (ma 20), .int 0])), (ma 1, .inl (cI, 4, .inl uU)), (ma 2, .inl (cI, 4, .inl uY)), (ma 3, .inl (cI, 80, .inl uK)), (ma 6, .inl (cI, 80, .inl uS)), (ma 7, .inl (cI, 80, .inl uR))]) := hD
          refine z_tv (v := 1) (by decide) ?_
          refine lv_if_ne (tgt := 57) hx hb dX4_remove_52 (by decide) (fun c_52 => ?_) (fun c_52 => ?_)
          · skip
            refine lv_bipush (v := 20) hx hb dX4_remove_57 (by decide) ?_
            refine lv_iload_n hx hb dX4_remove_59 rfl (lv_at hl 2 rfl) ?_
            refine lv_imul hx hb dX4_remove_60 ?_
            refine z_tv (v := nI (20 * ca)) (pk_mul 20 ca) ?_
            refine lv_iload_n hx hb dX4_remove_61 rfl (lv_at hl 3 rfl) ?_
            refine lv_iadd hx hb dX4_remove_62 ?_
            refine z_tv (v := nI (20 * ca + r)) (nI_add (20 * ca) r) ?_
            refine lv_istore (lv' := [(4, .int (nI (20 * ca + r))), (3, .int 1), (0, .ref (ma 0)), (1, .int (nI ca)), (2, .int (nI r))]) hx hb dX4_remove_63 hl (by decide) rfl (fun ls hl => ?_)
            refine lv_aload_n hx hb dX4_remove_65 rfl (lv_at hl 2 rfl) ?_
            refine va_get (D := (dC, dI)) (ci := 4) (v := .ref (ma 3)) (C := RX4) (T := TX4) (N := 22) hx hb hts hiX4 hown hK hP 0 rfl rfl 3 (by decide) l16 (fun _ h9 => h9) rfl dX4_remove_66 ?_
            refine lv_iload hx hb dX4_remove_69 (lv_at hl 0 rfl) ?_
            have J86_1 : ∀ (ls : Array Slot), lv_has ls 5 [(4, .int (nI (20 * ca + r))), (3, .int 1), (0, .ref (ma 0)), (1, .int (nI ca)), (2, .int (nI r))] → W p l e (headSpec wsX4_remove ({ frames := 2, cells := 0, slots := 0, locals := 42 })).room s m ([.ref (ma 0), .int (nI ca), .int (nI r)] : List Value).toArray below meth c H locs 0 0 (MQ below (zQi dC dI (if uY ca = 2 then (0 : Int32) else 1) ([(ma 0, .inr (4, [.int now, .ref (ma 1), .ref (ma 2), .ref (ma 3), .ref (ma 4), .ref (ma 5), .ref (ma 6), .ref (ma 7), .ref (ma 8), .ref (ma 9), .ref (ma 10), .ref (ma 11), .ref (ma 12), .ref (ma 13), .ref (ma 14), .ref (ma 15), .ref (ma 16), .ref (ma 17), .ref (ma 18), .ref (ma 19), .ref (ma 20), .int 0])), (ma 1, .inl (cI, 4, .inl uU)), (ma 2, .inl (cI, 4, .inl uY)), (ma 3, .inl (cI, 80, .inl (upd uK (20 * ca + r) (if uY ca = 2 then (0 : Int32) else 2)))), (ma 6, .inl (cI, 80, .inl (upd uS (20 * ca + r) (yst (uU ca) now)))), (ma 7, .inl (cI, 80, .inl (upd uR (20 * ca + r) now)))]) A) ([.ref (ma 0), .int (nI ca), .int (nI r)] : List Value).toArray s 0 0 A) (F0 m 86 ls [.int (if uY ca = 2 then (0 : Int32) else 2), .int (nI (20 * ca + r)), .ref (ma 3)]) := by
              intro ls hl
              refine z_iast hx hb hK hP hD hS 3 rfl (zix_nI (by first | assumption | omega) (by decide)) dX4_remove_86 (fun H locs hP hD hS => ?_)
              have hP : va_P (dC, dI) vwCl ([(ma 0, .inr (4, [.int now, .ref (ma 1), .ref (ma 2), .ref (ma 3), .ref (ma 4), .ref (ma 5), .ref (ma 6), .ref (ma 7), .ref (ma 8), .ref (ma 9), .ref (ma 10), .ref (ma 11), .ref (ma 12), .ref (ma 13), .ref (ma 14), .ref (ma 15), .ref (ma 16), .ref (ma 17), .ref (ma 18), .ref (ma 19), .ref (ma 20), .int 0])), (ma 1, .inl (cI, 4, .inl uU)), (ma 2, .inl (cI, 4, .inl uY)), (ma 3, .inl (cI, 80, .inl (upd uK (20 * ca + r) (if uY ca = 2 then (0 : Int32) else 2)))), (ma 6, .inl (cI, 80, .inl uS)), (ma 7, .inl (cI, 80, .inl uR))]) H := hP
              have hD : va_D A ([(ma 0, .inr (4, [.int now, .ref (ma 1), .ref (ma 2), .ref (ma 3), .ref (ma 4), .ref (ma 5), .ref (ma 6), .ref (ma 7), .ref (ma 8), .ref (ma 9), .ref (ma 10), .ref (ma 11), .ref (ma 12), .ref (ma 13), .ref (ma 14), .ref (ma 15), .ref (ma 16), .ref (ma 17), .ref (ma 18), .ref (ma 19), .ref (ma 20), .int 0])), (ma 1, .inl (cI, 4, .inl uU)), (ma 2, .inl (cI, 4, .inl uY)), (ma 3, .inl (cI, 80, .inl (upd uK (20 * ca + r) (if uY ca = 2 then (0 : Int32) else 2)))), (ma 6, .inl (cI, 80, .inl uS)), (ma 7, .inl (cI, 80, .inl uR))]) := hD
              refine lv_aload_n hx hb dX4_remove_87 rfl (lv_at hl 2 rfl) ?_
              refine va_get (D := (dC, dI)) (ci := 4) (v := .ref (ma 6)) (C := RX4) (T := TX4) (N := 22) hx hb hts hiX4 hown hK hP 0 rfl rfl 6 (by decide) l25 (fun _ h9 => h9) rfl dX4_remove_88 ?_
              refine lv_iload hx hb dX4_remove_91 (lv_at hl 0 rfl) ?_
              refine lv_aload_n hx hb dX4_remove_93 rfl (lv_at hl 2 rfl) ?_
              refine lv_iload_n hx hb dX4_remove_94 rfl (lv_at hl 3 rfl) ?_
              refine lv_aload_n hx hb dX4_remove_95 rfl (lv_at hl 2 rfl) ?_
              refine va_get (D := (dC, dI)) (ci := 4) (v := .int now) (C := RX4) (T := TX4) (N := 22) hx hb hts hiX4 hown hK hP 0 rfl rfl 0 (by decide) l79 (fun _ h9 => h9) rfl dX4_remove_96 ?_
              refine z_cRi (va_runV (As := [.int (nI ca), .int now]) (rest := [.int (nI (20 * ca + r)), .ref (ma 6)]) ⟨hx, hb, hml, hown, hts⟩ (kX4_stamp l dC dI cI cZ cH cJ ma now 0 uU ca (by first | assumption | omega) now (by first | assumption | omega)) (cwV 2 hts gX4_remove_X4_stamp rfl rfl rfl (by decide +kernel) ⟨Nat.le_of_ble_eq_true rfl, Nat.le_of_ble_eq_true rfl⟩) (zPreR (is := [0, 1]) hK hP rfl (va_recv hK hP (ci := 4) (q0 := 0) rfl rfl)) rfl rfl hl.1 rfl (lv_room (Nat.le_of_ble_eq_true rfl)) dX4_remove_99 ⟨Nat.le_of_ble_eq_true rfl, Nat.le_of_ble_eq_true rfl⟩) ?_
              refine z_tv (v := yst (uU ca) now) rfl ?_
              refine z_iast hx hb hK hP hD hS 4 rfl (zix_nI (by first | assumption | omega) (by decide)) dX4_remove_102 (fun H locs hP hD hS => ?_)
              have hP : va_P (dC, dI) vwCl ([(ma 0, .inr (4, [.int now, .ref (ma 1), .ref (ma 2), .ref (ma 3), .ref (ma 4), .ref (ma 5), .ref (ma 6), .ref (ma 7), .ref (ma 8), .ref (ma 9), .ref (ma 10), .ref (ma 11), .ref (ma 12), .ref (ma 13), .ref (ma 14), .ref (ma 15), .ref (ma 16), .ref (ma 17), .ref (ma 18), .ref (ma 19), .ref (ma 20), .int 0])), (ma 1, .inl (cI, 4, .inl uU)), (ma 2, .inl (cI, 4, .inl uY)), (ma 3, .inl (cI, 80, .inl (upd uK (20 * ca + r) (if uY ca = 2 then (0 : Int32) else 2)))), (ma 6, .inl (cI, 80, .inl (upd uS (20 * ca + r) (yst (uU ca) now)))), (ma 7, .inl (cI, 80, .inl uR))]) H := hP
              have hD : va_D A ([(ma 0, .inr (4, [.int now, .ref (ma 1), .ref (ma 2), .ref (ma 3), .ref (ma 4), .ref (ma 5), .ref (ma 6), .ref (ma 7), .ref (ma 8), .ref (ma 9), .ref (ma 10), .ref (ma 11), .ref (ma 12), .ref (ma 13), .ref (ma 14), .ref (ma 15), .ref (ma 16), .ref (ma 17), .ref (ma 18), .ref (ma 19), .ref (ma 20), .int 0])), (ma 1, .inl (cI, 4, .inl uU)), (ma 2, .inl (cI, 4, .inl uY)), (ma 3, .inl (cI, 80, .inl (upd uK (20 * ca + r) (if uY ca = 2 then (0 : Int32) else 2)))), (ma 6, .inl (cI, 80, .inl (upd uS (20 * ca + r) (yst (uU ca) now)))), (ma 7, .inl (cI, 80, .inl uR))]) := hD
              refine lv_aload_n hx hb dX4_remove_103 rfl (lv_at hl 2 rfl) ?_
              refine va_get (D := (dC, dI)) (ci := 4) (v := .ref (ma 7)) (C := RX4) (T := TX4) (N := 22) hx hb hts hiX4 hown hK hP 0 rfl rfl 7 (by decide) l28 (fun _ h9 => h9) rfl dX4_remove_104 ?_
              refine lv_iload hx hb dX4_remove_107 (lv_at hl 0 rfl) ?_
              refine lv_aload_n hx hb dX4_remove_109 rfl (lv_at hl 2 rfl) ?_
              refine va_get (D := (dC, dI)) (ci := 4) (v := .int now) (C := RX4) (T := TX4) (N := 22) hx hb hts hiX4 hown hK hP 0 rfl rfl 0 (by decide) l79 (fun _ h9 => h9) rfl dX4_remove_110 ?_
              refine z_iast hx hb hK hP hD hS 5 rfl (zix_nI (by first | assumption | omega) (by decide)) dX4_remove_113 (fun H locs hP hD hS => ?_)
              have hP : va_P (dC, dI) vwCl ([(ma 0, .inr (4, [.int now, .ref (ma 1), .ref (ma 2), .ref (ma 3), .ref (ma 4), .ref (ma 5), .ref (ma 6), .ref (ma 7), .ref (ma 8), .ref (ma 9), .ref (ma 10), .ref (ma 11), .ref (ma 12), .ref (ma 13), .ref (ma 14), .ref (ma 15), .ref (ma 16), .ref (ma 17), .ref (ma 18), .ref (ma 19), .ref (ma 20), .int 0])), (ma 1, .inl (cI, 4, .inl uU)), (ma 2, .inl (cI, 4, .inl uY)), (ma 3, .inl (cI, 80, .inl (upd uK (20 * ca + r) (if uY ca = 2 then (0 : Int32) else 2)))), (ma 6, .inl (cI, 80, .inl (upd uS (20 * ca + r) (yst (uU ca) now)))), (ma 7, .inl (cI, 80, .inl (upd uR (20 * ca + r) now)))]) H := hP
              have hD : va_D A ([(ma 0, .inr (4, [.int now, .ref (ma 1), .ref (ma 2), .ref (ma 3), .ref (ma 4), .ref (ma 5), .ref (ma 6), .ref (ma 7), .ref (ma 8), .ref (ma 9), .ref (ma 10), .ref (ma 11), .ref (ma 12), .ref (ma 13), .ref (ma 14), .ref (ma 15), .ref (ma 16), .ref (ma 17), .ref (ma 18), .ref (ma 19), .ref (ma 20), .int 0])), (ma 1, .inl (cI, 4, .inl uU)), (ma 2, .inl (cI, 4, .inl uY)), (ma 3, .inl (cI, 80, .inl (upd uK (20 * ca + r) (if uY ca = 2 then (0 : Int32) else 2)))), (ma 6, .inl (cI, 80, .inl (upd uS (20 * ca + r) (yst (uU ca) now)))), (ma 7, .inl (cI, 80, .inl (upd uR (20 * ca + r) now)))]) := hD
              refine lv_aload_n hx hb dX4_remove_114 rfl (lv_at hl 2 rfl) ?_
              refine va_get (D := (dC, dI)) (ci := 4) (v := .ref (ma 3)) (C := RX4) (T := TX4) (N := 22) hx hb hts hiX4 hown hK hP 0 rfl rfl 3 (by decide) l16 (fun _ h9 => h9) rfl dX4_remove_115 ?_
              refine lv_iload hx hb dX4_remove_118 (lv_at hl 0 rfl) ?_
              refine z_iald hx hb hK hP 3 rfl (zix_nI (by first | assumption | omega) (by decide)) dX4_remove_120 ?_
              refine z_tv (v := (upd uK (20 * ca + r) (if uY ca = 2 then (0 : Int32) else 2)) (20 * ca + r)) (rfl) ?_
              refine z_tv (v := if uY ca = 2 then (0 : Int32) else 2) (pk_us) ?_
              refine lv_iconst (v := 2) hx hb dX4_remove_121 (by decide) ?_
              refine lv_icmp_ne (tgt := 129) hx hb dX4_remove_122 (by decide) (fun c_122 => ?_) (fun c_122 => ?_)
              · skip
                refine lv_iconst (v := 0) hx hb dX4_remove_129 (by decide) ?_
                refine z_tv (v := if uY ca = 2 then (0 : Int32) else 1) (by grind) ?_
                exact W.zret (ty := .boolean) hx hb hr (z_n01 _) (fun t ht hW => ⟨rfl, ⟨by rw [ht]; exact hP, hD⟩, hS.F ht⟩) hS.2.2 dX4_remove_130
              · skip
                refine lv_iconst (v := 1) hx hb dX4_remove_125 (by decide) ?_
                refine lv_goto (tgt := 130) hx hb dX4_remove_126 (by decide) ?_
                refine z_tv (v := if uY ca = 2 then (0 : Int32) else 1) (by grind) ?_
                exact W.zret (ty := .boolean) hx hb hr (z_n01 _) (fun t ht hW => ⟨rfl, ⟨by rw [ht]; exact hP, hD⟩, hS.F ht⟩) hS.2.2 dX4_remove_130
            refine lv_aload_n hx hb dX4_remove_71 rfl (lv_at hl 2 rfl) ?_
            refine va_get (D := (dC, dI)) (ci := 4) (v := .ref (ma 2)) (C := RX4) (T := TX4) (N := 22) hx hb hts hiX4 hown hK hP 0 rfl rfl 2 (by decide) l13 (fun _ h9 => h9) rfl dX4_remove_72 ?_
            refine lv_iload_n hx hb dX4_remove_75 rfl (lv_at hl 3 rfl) ?_
            refine z_iald hx hb hK hP 2 rfl (zix_nI (by first | assumption | omega) (by decide)) dX4_remove_76 ?_
            refine z_tv (v := uY ca) (rfl) ?_
            refine lv_iconst (v := 2) hx hb dX4_remove_77 (by decide) ?_
            refine lv_icmp_ne (tgt := 85) hx hb dX4_remove_78 (by decide) (fun c_78 => ?_) (fun c_78 => ?_)
            · skip
              refine lv_iconst (v := 2) hx hb dX4_remove_85 (by decide) ?_
              refine z_tv (v := if uY ca = 2 then (0 : Int32) else 2) (by simp [c_78]) ?_
              exact J86_1 _ (lv_sub hl [0, 1, 2, 3, 4] rfl)
            · skip
              refine lv_iconst (v := 0) hx hb dX4_remove_81 (by decide) ?_
              refine lv_goto (tgt := 86) hx hb dX4_remove_82 (by decide) ?_
              refine z_tv (v := if uY ca = 2 then (0 : Int32) else 2) (by simp [c_78]) ?_
              exact J86_1 _ (lv_sub hl [0, 1, 2, 3, 4] rfl)
          · exact absurd c_52 (by decide)
      · exact absurd c_22 (by decide)
set_option maxHeartbeats 4000000 in
set_option maxRecDepth 100000 in
/-- Model.remove_no -/
theorem kX4_remove_no (l : Launch) (dC : Nat → ClassId) (dI : Nat → Nat → Nat) (cI cZ cH cJ : ClassId) (ma : Nat → Nat) (now : Int32) (th : Int32) (uK : zI) (ca : Nat) (hca : ca < 4) (r : Nat) (hrr : r < 20) (hk1 : ¬ uK (20 * ca + r) = 1) (sz : Nat) : Met l yX4_remove wsX4_remove ({ frames := 2, cells := 0, slots := 0, locals := 42 }) (zPc dC dI (zTy cI cZ cH cJ) [.ref (ma 0), .int (nI ca), .int (nI r)] sz ([(ma 0, .inr (4, [.int now, .ref (ma 1), .ref (ma 2), .ref (ma 3), .ref (ma 4), .ref (ma 5), .ref (ma 6), .ref (ma 7), .ref (ma 8), .ref (ma 9), .ref (ma 10), .ref (ma 11), .ref (ma 12), .ref (ma 13), .ref (ma 14), .ref (ma 15), .ref (ma 16), .ref (ma 17), .ref (ma 18), .ref (ma 19), .ref (ma 20), .int th])), (ma 3, .inl (cI, 80, .inl uK))])) (zQi dC dI 0 ([(ma 0, .inr (4, [.int now, .ref (ma 1), .ref (ma 2), .ref (ma 3), .ref (ma 4), .ref (ma 5), .ref (ma 6), .ref (ma 7), .ref (ma 8), .ref (ma 9), .ref (ma 10), .ref (ma 11), .ref (ma 12), .ref (ma 13), .ref (ma 14), .ref (ma 15), .ref (ma 16), .ref (ma 17), .ref (ma 18), .ref (ma 19), .ref (ma 20), .int 2])), (ma 3, .inl (cI, 80, .inl uK))]) (va_A ([(ma 0, .inr (4, [.int now, .ref (ma 1), .ref (ma 2), .ref (ma 3), .ref (ma 4), .ref (ma 5), .ref (ma 6), .ref (ma 7), .ref (ma 8), .ref (ma 9), .ref (ma 10), .ref (ma 11), .ref (ma 12), .ref (ma 13), .ref (ma 14), .ref (ma 15), .ref (ma 16), .ref (ma 17), .ref (ma 18), .ref (ma 19), .ref (ma 20), .int th])), (ma 3, .inl (cI, 80, .inl uK))]) sz)) 0 0 (va_A ([(ma 0, .inr (4, [.int now, .ref (ma 1), .ref (ma 2), .ref (ma 3), .ref (ma 4), .ref (ma 5), .ref (ma 6), .ref (ma 7), .ref (ma 8), .ref (ma 9), .ref (ma 10), .ref (ma 11), .ref (ma 12), .ref (ma 13), .ref (ma 14), .ref (ma 15), .ref (ma 16), .ref (ma 17), .ref (ma 18), .ref (ma 19), .ref (ma 20), .int th])), (ma 3, .inl (cI, 80, .inl uK))]) sz) := by
  refine Met.ofW (cc := cX4_remove) (maxL := 5) (ret := (some .boolean)) (by decide) rfl ?_
  intro p e s m args below meth c s₁ B hml hv0
  obtain ⟨rfl, hsz, hP, hK, hD0⟩ := hv0
  have hx := B.exec
  have hb := B.bytes
  have hr := B.returns
  have hts := atoms_spec (ws := wsX4_remove) B.pre
  have hown : s.vm.findClass RX4 = some m.cls := findClass_of_methodNamed B.named
  have hlocks := B.notSynchronized
  subst hsz
  have hD := hD0.self (sz := s.heap.size)
  generalize hAe : va_A ([(ma 0, .inr (4, [.int now, .ref (ma 1), .ref (ma 2), .ref (ma 3), .ref (ma 4), .ref (ma 5), .ref (ma 6), .ref (ma 7), .ref (ma 8), .ref (ma 9), .ref (ma 10), .ref (ma 11), .ref (ma 12), .ref (ma 13), .ref (ma 14), .ref (ma 15), .ref (ma 16), .ref (ma 17), .ref (ma 18), .ref (ma 19), .ref (ma 20), .int th])), (ma 3, .inl (cI, 80, .inl uK))]) s.heap.size = A at hD ⊢
  have hA : ∀ q : Nat, s.heap.size ≤ q → A q := fun q h => by rw [← hAe]; exact Or.inr h
  have hS : va_S A s.heap s.heap [] := va_S.rf
  have hl := lv_entry ([.ref (ma 0), .int (nI ca), .int (nI r)]) (n := 5) (Nat.le_of_ble_eq_true rfl)
  rw [lg_entry_eq]
  generalize (lg_sl ([.ref (ma 0), .int (nI ca), .int (nI r)]) ++ List.replicate (5 - (lg_sl ([.ref (ma 0), .int (nI ca), .int (nI r)])).length) Slot.unset).toArray = ls at hl ⊢
  have hl : lv_has ls 5 [(0, .ref (ma 0)), (1, .int (nI ca)), (2, .int (nI r))] := hl
  have hiX4 : ∀ w ∈ wsX40, w ∈ wsX4_remove := by decide +kernel
  have l16 := hts (.fieldLink RX4 16 "CatalogueHarvesterModel" "kinds" "[I") (by decide +kernel)
  refine lv_iload_n hx hb dX4_remove_0 rfl (lv_at hl 1 rfl) ?_
  refine z_cRi (va_runS (As := [.int (nI ca)]) (rest := []) ⟨hx, hb, hml, hown, hts⟩ (kX4_isCatalogue l (nI ca)) (va_cwS 1 hts gX4_remove_X4_isCatalogue rfl rfl rfl (by decide +kernel) ⟨Nat.le_of_ble_eq_true rfl, Nat.le_of_ble_eq_true rfl⟩) (zPre0) rfl rfl hl.1 rfl (lv_room (Nat.le_of_ble_eq_true rfl)) dX4_remove_1 ⟨Nat.le_of_ble_eq_true rfl, Nat.le_of_ble_eq_true rfl⟩) ?_
  refine z_tv (v := 1) (zin_c _ hca) ?_
  refine lv_if_eq (tgt := 18) hx hb dX4_remove_4 (by decide) (fun c_4 => ?_) (fun c_4 => ?_)
  · exact absurd c_4 (by decide)
  · skip
    refine lv_iload_n hx hb dX4_remove_7 rfl (lv_at hl 2 rfl) ?_
    refine z_cRi (va_runS (As := [.int (nI r)]) (rest := []) ⟨hx, hb, hml, hown, hts⟩ (kX4_isRecord l (nI r)) (va_cwS 1 hts gX4_remove_X4_isRecord rfl rfl rfl (by decide +kernel) ⟨Nat.le_of_ble_eq_true rfl, Nat.le_of_ble_eq_true rfl⟩) (zPre0) rfl rfl hl.1 rfl (lv_room (Nat.le_of_ble_eq_true rfl)) dX4_remove_8 ⟨Nat.le_of_ble_eq_true rfl, Nat.le_of_ble_eq_true rfl⟩) ?_
    refine z_tv (v := 1) (zin_r _ hrr) ?_
    refine lv_if_eq (tgt := 18) hx hb dX4_remove_11 (by decide) (fun c_11 => ?_) (fun c_11 => ?_)
    · exact absurd c_11 (by decide)
    · skip
      refine lv_iconst (v := 1) hx hb dX4_remove_14 (by decide) ?_
      refine lv_goto (tgt := 19) hx hb dX4_remove_15 (by decide) ?_
      refine lv_istore_n (lv' := [(3, .int 1), (0, .ref (ma 0)), (1, .int (nI ca)), (2, .int (nI r))]) hx hb dX4_remove_19 rfl hl (by decide) rfl (fun ls hl => ?_)
      refine lv_aload_n hx hb dX4_remove_20 rfl (lv_at hl 1 rfl) ?_
      refine lv_iload_n hx hb dX4_remove_21 rfl (lv_at hl 0 rfl) ?_
      refine lv_if_ne (tgt := 29) hx hb dX4_remove_22 (by decide) (fun c_22 => ?_) (fun c_22 => ?_)
      · skip
        refine lv_aload_n hx hb dX4_remove_29 rfl (lv_at hl 1 rfl) ?_
        refine va_get (D := (dC, dI)) (ci := 4) (v := .ref (ma 3)) (C := RX4) (T := TX4) (N := 22) hx hb hts hiX4 hown hK hP 0 rfl rfl 3 (by decide) l16 (fun _ h9 => h9) rfl dX4_remove_30 ?_
        refine lv_bipush (v := 20) hx hb dX4_remove_33 (by decide) ?_
        refine lv_iload_n hx hb dX4_remove_35 rfl (lv_at hl 2 rfl) ?_
        refine lv_imul hx hb dX4_remove_36 ?_
        refine z_tv (v := nI (20 * ca)) (pk_mul 20 ca) ?_
        refine lv_iload_n hx hb dX4_remove_37 rfl (lv_at hl 3 rfl) ?_
        refine lv_iadd hx hb dX4_remove_38 ?_
        refine z_tv (v := nI (20 * ca + r)) (nI_add (20 * ca) r) ?_
        refine z_iald hx hb hK hP 1 rfl (zix_nI (by first | assumption | omega) (by decide)) dX4_remove_39 ?_
        refine z_tv (v := uK (20 * ca + r)) (rfl) ?_
        refine lv_iconst (v := 1) hx hb dX4_remove_40 (by decide) ?_
        refine lv_icmp_ne (tgt := 48) hx hb dX4_remove_41 (by decide) (fun c_41 => ?_) (fun c_41 => ?_)
        · skip
          refine lv_iconst (v := 2) hx hb dX4_remove_48 (by decide) ?_
          refine z_cMi (is := [0]) (va_runV (As := [.int 2]) (rest := []) ⟨hx, hb, hml, hown, hts⟩ (kX4_goes l dC dI cI cZ cH cJ ma now th 2 s.heap.size) (cwV 1 hts gX4_remove_X4_goes rfl rfl rfl (by decide +kernel) ⟨Nat.le_of_ble_eq_true rfl, Nat.le_of_ble_eq_true rfl⟩) (zPreV (is := [0]) hK hP hD (by decide) rfl (va_recv hK hP (ci := 4) (q0 := 0) rfl rfl)) rfl rfl hl.1 rfl (lv_room (Nat.le_of_ble_eq_true rfl)) dX4_remove_49 ⟨Nat.le_of_ble_eq_true rfl, Nat.le_of_ble_eq_true rfl⟩) hP hD hS hA rfl (by decide) rfl (fun H locs hP hD hS => ?_)
          have hP : va_P (dC, dI) vwCl ([(ma 0, .inr (4, [.int now, .ref (ma 1), .ref (ma 2), .ref (ma 3), .ref (ma 4), .ref (ma 5), .ref (ma 6), .ref (ma 7), .ref (ma 8), .ref (ma 9), .ref (ma 10), .ref (ma 11), .ref (ma 12), .ref (ma 13), .ref (ma 14), .ref (ma 15), .ref (ma 16), .ref (ma 17), .ref (ma 18), .ref (ma 19), .ref (ma 20), .int 2])), (ma 3, .inl (cI, 80, .inl uK))]) H := hP
          have hD : va_D A ([(ma 0, .inr (4, [.int now, .ref (ma 1), .ref (ma 2), .ref (ma 3), .ref (ma 4), .ref (ma 5), .ref (ma 6), .ref (ma 7), .ref (ma 8), .ref (ma 9), .ref (ma 10), .ref (ma 11), .ref (ma 12), .ref (ma 13), .ref (ma 14), .ref (ma 15), .ref (ma 16), .ref (ma 17), .ref (ma 18), .ref (ma 19), .ref (ma 20), .int 2])), (ma 3, .inl (cI, 80, .inl uK))]) := hD
          refine z_tv (v := 0) (by decide) ?_
          refine lv_if_ne (tgt := 57) hx hb dX4_remove_52 (by decide) (fun c_52 => ?_) (fun c_52 => ?_)
          · exact absurd c_52 (by decide)
          · skip
            refine lv_iconst (v := 0) hx hb dX4_remove_55 (by decide) ?_
            exact W.zret (ty := .boolean) hx hb hr (rfl) (fun t ht hW => ⟨rfl, ⟨by rw [ht]; exact hP, hD⟩, hS.F ht⟩) hS.2.2 dX4_remove_56
        · exact absurd c_41 hk1
      · exact absurd c_22 (by decide)
set_option maxHeartbeats 4000000 in
set_option maxRecDepth 100000 in
/-- Model.remove_bad -/
theorem kX4_remove_bad (l : Launch) (dC : Nat → ClassId) (dI : Nat → Nat → Nat) (cI cZ cH cJ : ClassId) (ma : Nat → Nat) (now : Int32) (th : Int32) (a : Int32) (b : Int32) (hv : ¬ (zin a 0 3 = 1 ∧ zin b 0 19 = 1)) (sz : Nat) : Met l yX4_remove wsX4_remove ({ frames := 2, cells := 0, slots := 0, locals := 42 }) (zPc dC dI (zTy cI cZ cH cJ) [.ref (ma 0), .int a, .int b] sz ([(ma 0, .inr (4, [.int now, .ref (ma 1), .ref (ma 2), .ref (ma 3), .ref (ma 4), .ref (ma 5), .ref (ma 6), .ref (ma 7), .ref (ma 8), .ref (ma 9), .ref (ma 10), .ref (ma 11), .ref (ma 12), .ref (ma 13), .ref (ma 14), .ref (ma 15), .ref (ma 16), .ref (ma 17), .ref (ma 18), .ref (ma 19), .ref (ma 20), .int th]))])) (zQi dC dI 0 ([(ma 0, .inr (4, [.int now, .ref (ma 1), .ref (ma 2), .ref (ma 3), .ref (ma 4), .ref (ma 5), .ref (ma 6), .ref (ma 7), .ref (ma 8), .ref (ma 9), .ref (ma 10), .ref (ma 11), .ref (ma 12), .ref (ma 13), .ref (ma 14), .ref (ma 15), .ref (ma 16), .ref (ma 17), .ref (ma 18), .ref (ma 19), .ref (ma 20), .int 1]))]) (va_A ([(ma 0, .inr (4, [.int now, .ref (ma 1), .ref (ma 2), .ref (ma 3), .ref (ma 4), .ref (ma 5), .ref (ma 6), .ref (ma 7), .ref (ma 8), .ref (ma 9), .ref (ma 10), .ref (ma 11), .ref (ma 12), .ref (ma 13), .ref (ma 14), .ref (ma 15), .ref (ma 16), .ref (ma 17), .ref (ma 18), .ref (ma 19), .ref (ma 20), .int th]))]) sz)) 0 0 (va_A ([(ma 0, .inr (4, [.int now, .ref (ma 1), .ref (ma 2), .ref (ma 3), .ref (ma 4), .ref (ma 5), .ref (ma 6), .ref (ma 7), .ref (ma 8), .ref (ma 9), .ref (ma 10), .ref (ma 11), .ref (ma 12), .ref (ma 13), .ref (ma 14), .ref (ma 15), .ref (ma 16), .ref (ma 17), .ref (ma 18), .ref (ma 19), .ref (ma 20), .int th]))]) sz) := by
  refine Met.ofW (cc := cX4_remove) (maxL := 5) (ret := (some .boolean)) (by decide) rfl ?_
  intro p e s m args below meth c s₁ B hml hv0
  obtain ⟨rfl, hsz, hP, hK, hD0⟩ := hv0
  have hx := B.exec
  have hb := B.bytes
  have hr := B.returns
  have hts := atoms_spec (ws := wsX4_remove) B.pre
  have hown : s.vm.findClass RX4 = some m.cls := findClass_of_methodNamed B.named
  have hlocks := B.notSynchronized
  subst hsz
  have hD := hD0.self (sz := s.heap.size)
  generalize hAe : va_A ([(ma 0, .inr (4, [.int now, .ref (ma 1), .ref (ma 2), .ref (ma 3), .ref (ma 4), .ref (ma 5), .ref (ma 6), .ref (ma 7), .ref (ma 8), .ref (ma 9), .ref (ma 10), .ref (ma 11), .ref (ma 12), .ref (ma 13), .ref (ma 14), .ref (ma 15), .ref (ma 16), .ref (ma 17), .ref (ma 18), .ref (ma 19), .ref (ma 20), .int th]))]) s.heap.size = A at hD ⊢
  have hA : ∀ q : Nat, s.heap.size ≤ q → A q := fun q h => by rw [← hAe]; exact Or.inr h
  have hS : va_S A s.heap s.heap [] := va_S.rf
  have hl := lv_entry ([.ref (ma 0), .int a, .int b]) (n := 5) (Nat.le_of_ble_eq_true rfl)
  rw [lg_entry_eq]
  generalize (lg_sl ([.ref (ma 0), .int a, .int b]) ++ List.replicate (5 - (lg_sl ([.ref (ma 0), .int a, .int b])).length) Slot.unset).toArray = ls at hl ⊢
  have hl : lv_has ls 5 [(0, .ref (ma 0)), (1, .int a), (2, .int b)] := hl
  refine lv_iload_n hx hb dX4_remove_0 rfl (lv_at hl 1 rfl) ?_
  refine z_cRi (va_runS (As := [.int a]) (rest := []) ⟨hx, hb, hml, hown, hts⟩ (kX4_isCatalogue l a) (va_cwS 1 hts gX4_remove_X4_isCatalogue rfl rfl rfl (by decide +kernel) ⟨Nat.le_of_ble_eq_true rfl, Nat.le_of_ble_eq_true rfl⟩) (zPre0) rfl rfl hl.1 rfl (lv_room (Nat.le_of_ble_eq_true rfl)) dX4_remove_1 ⟨Nat.le_of_ble_eq_true rfl, Nat.le_of_ble_eq_true rfl⟩) ?_
  refine z_tv (v := zin a 0 3) rfl ?_
  refine lv_if_eq (tgt := 18) hx hb dX4_remove_4 (by decide) (fun c_4 => ?_) (fun c_4 => ?_)
  · skip
    refine lv_iconst (v := 0) hx hb dX4_remove_18 (by decide) ?_
    refine lv_istore_n (lv' := [(3, .int 0), (0, .ref (ma 0)), (1, .int a), (2, .int b)]) hx hb dX4_remove_19 rfl hl (by decide) rfl (fun ls hl => ?_)
    refine lv_aload_n hx hb dX4_remove_20 rfl (lv_at hl 1 rfl) ?_
    refine lv_iload_n hx hb dX4_remove_21 rfl (lv_at hl 0 rfl) ?_
    refine lv_if_ne (tgt := 29) hx hb dX4_remove_22 (by decide) (fun c_22 => ?_) (fun c_22 => ?_)
    · exact absurd c_22 (by decide)
    · skip
      refine lv_iconst (v := 1) hx hb dX4_remove_25 (by decide) ?_
      refine lv_goto (tgt := 49) hx hb dX4_remove_26 (by decide) ?_
      refine z_cMi (is := [0]) (va_runV (As := [.int 1]) (rest := []) ⟨hx, hb, hml, hown, hts⟩ (kX4_goes l dC dI cI cZ cH cJ ma now th 1 s.heap.size) (cwV 1 hts gX4_remove_X4_goes rfl rfl rfl (by decide +kernel) ⟨Nat.le_of_ble_eq_true rfl, Nat.le_of_ble_eq_true rfl⟩) (zPreV (is := [0]) hK hP hD (by decide) rfl (va_recv hK hP (ci := 4) (q0 := 0) rfl rfl)) rfl rfl hl.1 rfl (lv_room (Nat.le_of_ble_eq_true rfl)) dX4_remove_49 ⟨Nat.le_of_ble_eq_true rfl, Nat.le_of_ble_eq_true rfl⟩) hP hD hS hA rfl (by decide) rfl (fun H locs hP hD hS => ?_)
      have hP : va_P (dC, dI) vwCl ([(ma 0, .inr (4, [.int now, .ref (ma 1), .ref (ma 2), .ref (ma 3), .ref (ma 4), .ref (ma 5), .ref (ma 6), .ref (ma 7), .ref (ma 8), .ref (ma 9), .ref (ma 10), .ref (ma 11), .ref (ma 12), .ref (ma 13), .ref (ma 14), .ref (ma 15), .ref (ma 16), .ref (ma 17), .ref (ma 18), .ref (ma 19), .ref (ma 20), .int 1]))]) H := hP
      have hD : va_D A ([(ma 0, .inr (4, [.int now, .ref (ma 1), .ref (ma 2), .ref (ma 3), .ref (ma 4), .ref (ma 5), .ref (ma 6), .ref (ma 7), .ref (ma 8), .ref (ma 9), .ref (ma 10), .ref (ma 11), .ref (ma 12), .ref (ma 13), .ref (ma 14), .ref (ma 15), .ref (ma 16), .ref (ma 17), .ref (ma 18), .ref (ma 19), .ref (ma 20), .int 1]))]) := hD
      refine z_tv (v := 0) (by decide) ?_
      refine lv_if_ne (tgt := 57) hx hb dX4_remove_52 (by decide) (fun c_52 => ?_) (fun c_52 => ?_)
      · exact absurd c_52 (by decide)
      · skip
        refine lv_iconst (v := 0) hx hb dX4_remove_55 (by decide) ?_
        exact W.zret (ty := .boolean) hx hb hr (rfl) (fun t ht hW => ⟨rfl, ⟨by rw [ht]; exact hP, hD⟩, hS.F ht⟩) hS.2.2 dX4_remove_56
  · skip
    refine lv_iload_n hx hb dX4_remove_7 rfl (lv_at hl 2 rfl) ?_
    refine z_cRi (va_runS (As := [.int b]) (rest := []) ⟨hx, hb, hml, hown, hts⟩ (kX4_isRecord l b) (va_cwS 1 hts gX4_remove_X4_isRecord rfl rfl rfl (by decide +kernel) ⟨Nat.le_of_ble_eq_true rfl, Nat.le_of_ble_eq_true rfl⟩) (zPre0) rfl rfl hl.1 rfl (lv_room (Nat.le_of_ble_eq_true rfl)) dX4_remove_8 ⟨Nat.le_of_ble_eq_true rfl, Nat.le_of_ble_eq_true rfl⟩) ?_
    refine z_tv (v := zin b 0 19) rfl ?_
    refine lv_if_eq (tgt := 18) hx hb dX4_remove_11 (by decide) (fun c_11 => ?_) (fun c_11 => ?_)
    · skip
      refine lv_iconst (v := 0) hx hb dX4_remove_18 (by decide) ?_
      refine lv_istore_n (lv' := [(3, .int 0), (0, .ref (ma 0)), (1, .int a), (2, .int b)]) hx hb dX4_remove_19 rfl hl (by decide) rfl (fun ls hl => ?_)
      refine lv_aload_n hx hb dX4_remove_20 rfl (lv_at hl 1 rfl) ?_
      refine lv_iload_n hx hb dX4_remove_21 rfl (lv_at hl 0 rfl) ?_
      refine lv_if_ne (tgt := 29) hx hb dX4_remove_22 (by decide) (fun c_22 => ?_) (fun c_22 => ?_)
      · exact absurd c_22 (by decide)
      · skip
        refine lv_iconst (v := 1) hx hb dX4_remove_25 (by decide) ?_
        refine lv_goto (tgt := 49) hx hb dX4_remove_26 (by decide) ?_
        refine z_cMi (is := [0]) (va_runV (As := [.int 1]) (rest := []) ⟨hx, hb, hml, hown, hts⟩ (kX4_goes l dC dI cI cZ cH cJ ma now th 1 s.heap.size) (cwV 1 hts gX4_remove_X4_goes rfl rfl rfl (by decide +kernel) ⟨Nat.le_of_ble_eq_true rfl, Nat.le_of_ble_eq_true rfl⟩) (zPreV (is := [0]) hK hP hD (by decide) rfl (va_recv hK hP (ci := 4) (q0 := 0) rfl rfl)) rfl rfl hl.1 rfl (lv_room (Nat.le_of_ble_eq_true rfl)) dX4_remove_49 ⟨Nat.le_of_ble_eq_true rfl, Nat.le_of_ble_eq_true rfl⟩) hP hD hS hA rfl (by decide) rfl (fun H locs hP hD hS => ?_)
        have hP : va_P (dC, dI) vwCl ([(ma 0, .inr (4, [.int now, .ref (ma 1), .ref (ma 2), .ref (ma 3), .ref (ma 4), .ref (ma 5), .ref (ma 6), .ref (ma 7), .ref (ma 8), .ref (ma 9), .ref (ma 10), .ref (ma 11), .ref (ma 12), .ref (ma 13), .ref (ma 14), .ref (ma 15), .ref (ma 16), .ref (ma 17), .ref (ma 18), .ref (ma 19), .ref (ma 20), .int 1]))]) H := hP
        have hD : va_D A ([(ma 0, .inr (4, [.int now, .ref (ma 1), .ref (ma 2), .ref (ma 3), .ref (ma 4), .ref (ma 5), .ref (ma 6), .ref (ma 7), .ref (ma 8), .ref (ma 9), .ref (ma 10), .ref (ma 11), .ref (ma 12), .ref (ma 13), .ref (ma 14), .ref (ma 15), .ref (ma 16), .ref (ma 17), .ref (ma 18), .ref (ma 19), .ref (ma 20), .int 1]))]) := hD
        refine z_tv (v := 0) (by decide) ?_
        refine lv_if_ne (tgt := 57) hx hb dX4_remove_52 (by decide) (fun c_52 => ?_) (fun c_52 => ?_)
        · exact absurd c_52 (by decide)
        · skip
          refine lv_iconst (v := 0) hx hb dX4_remove_55 (by decide) ?_
          exact W.zret (ty := .boolean) hx hb hr (rfl) (fun t ht hW => ⟨rfl, ⟨by rw [ht]; exact hP, hD⟩, hS.F ht⟩) hS.2.2 dX4_remove_56
    · exact absurd c_11 (fun q => hv ⟨zin_n1 c_4, zin_n1 q⟩)
set_option maxHeartbeats 4000000 in
set_option maxRecDepth 100000 in
/-- Model.pass_ok -/
theorem kX4_pass_ok (l : Launch) (dC : Nat → ClassId) (dI : Nat → Nat → Nat) (cI cZ cH cJ : ClassId) (ma : Nat → Nat) (now : Int32) (th : Int32) (uY : zI) (uK : zI) (uR : zI) (d : Int32) (hd1 : zin d 1 100 = 1) (hle : now + d ≤ 5000) (sz : Nat) : Met l yX4_pass wsX4_pass ({ frames := 1, cells := 0, slots := 0, locals := 23 }) (zPc dC dI (zTy cI cZ cH cJ) [.ref (ma 0), .int d] sz ([(ma 0, .inr (4, [.int now, .ref (ma 1), .ref (ma 2), .ref (ma 3), .ref (ma 4), .ref (ma 5), .ref (ma 6), .ref (ma 7), .ref (ma 8), .ref (ma 9), .ref (ma 10), .ref (ma 11), .ref (ma 12), .ref (ma 13), .ref (ma 14), .ref (ma 15), .ref (ma 16), .ref (ma 17), .ref (ma 18), .ref (ma 19), .ref (ma 20), .int th])), (ma 2, .inl (cI, 4, .inl uY)), (ma 3, .inl (cI, 80, .inl uK)), (ma 7, .inl (cI, 80, .inl uR))])) (zQi dC dI (now + d) ([(ma 0, .inr (4, [.int (now + d), .ref (ma 1), .ref (ma 2), .ref (ma 3), .ref (ma 4), .ref (ma 5), .ref (ma 6), .ref (ma 7), .ref (ma 8), .ref (ma 9), .ref (ma 10), .ref (ma 11), .ref (ma 12), .ref (ma 13), .ref (ma 14), .ref (ma 15), .ref (ma 16), .ref (ma 17), .ref (ma 18), .ref (ma 19), .ref (ma 20), .int 0])), (ma 2, .inl (cI, 4, .inl uY)), (ma 3, .inl (cI, 80, .inl (yclrA uK uR uY (now + d) 4))), (ma 7, .inl (cI, 80, .inl uR))]) (va_A ([(ma 0, .inr (4, [.int now, .ref (ma 1), .ref (ma 2), .ref (ma 3), .ref (ma 4), .ref (ma 5), .ref (ma 6), .ref (ma 7), .ref (ma 8), .ref (ma 9), .ref (ma 10), .ref (ma 11), .ref (ma 12), .ref (ma 13), .ref (ma 14), .ref (ma 15), .ref (ma 16), .ref (ma 17), .ref (ma 18), .ref (ma 19), .ref (ma 20), .int th])), (ma 2, .inl (cI, 4, .inl uY)), (ma 3, .inl (cI, 80, .inl uK)), (ma 7, .inl (cI, 80, .inl uR))]) sz)) 0 0 (va_A ([(ma 0, .inr (4, [.int now, .ref (ma 1), .ref (ma 2), .ref (ma 3), .ref (ma 4), .ref (ma 5), .ref (ma 6), .ref (ma 7), .ref (ma 8), .ref (ma 9), .ref (ma 10), .ref (ma 11), .ref (ma 12), .ref (ma 13), .ref (ma 14), .ref (ma 15), .ref (ma 16), .ref (ma 17), .ref (ma 18), .ref (ma 19), .ref (ma 20), .int th])), (ma 2, .inl (cI, 4, .inl uY)), (ma 3, .inl (cI, 80, .inl uK)), (ma 7, .inl (cI, 80, .inl uR))]) sz) := by
  refine Met.ofW (cc := cX4_pass) (maxL := 3) (ret := (some .int)) (by decide) rfl ?_
  intro p e s m args below meth c s₁ B hml hv0
  obtain ⟨rfl, hsz, hP, hK, hD0⟩ := hv0
  have hx := B.exec
  have hb := B.bytes
  have hr := B.returns
  have hts := atoms_spec (ws := wsX4_pass) B.pre
  have hown : s.vm.findClass RX4 = some m.cls := findClass_of_methodNamed B.named
  have hlocks := B.notSynchronized
  subst hsz
  have hD := hD0.self (sz := s.heap.size)
  generalize hAe : va_A ([(ma 0, .inr (4, [.int now, .ref (ma 1), .ref (ma 2), .ref (ma 3), .ref (ma 4), .ref (ma 5), .ref (ma 6), .ref (ma 7), .ref (ma 8), .ref (ma 9), .ref (ma 10), .ref (ma 11), .ref (ma 12), .ref (ma 13), .ref (ma 14), .ref (ma 15), .ref (ma 16), .ref (ma 17), .ref (ma 18), .ref (ma 19), .ref (ma 20), .int th])), (ma 2, .inl (cI, 4, .inl uY)), (ma 3, .inl (cI, 80, .inl uK)), (ma 7, .inl (cI, 80, .inl uR))]) s.heap.size = A at hD ⊢
  have hA : ∀ q : Nat, s.heap.size ≤ q → A q := fun q h => by rw [← hAe]; exact Or.inr h
  have hS : va_S A s.heap s.heap [] := va_S.rf
  have hl := lv_entry ([.ref (ma 0), .int d]) (n := 3) (Nat.le_of_ble_eq_true rfl)
  rw [lg_entry_eq]
  generalize (lg_sl ([.ref (ma 0), .int d]) ++ List.replicate (3 - (lg_sl ([.ref (ma 0), .int d])).length) Slot.unset).toArray = ls at hl ⊢
  have hl : lv_has ls 3 [(0, .ref (ma 0)), (1, .int d)] := hl
  have hiX4 : ∀ w ∈ wsX40, w ∈ wsX4_pass := by decide +kernel
  have l79 := hts (.fieldLink RX4 79 "CatalogueHarvesterModel" "today" "I") (by decide +kernel)
  refine lv_aload_n hx hb dX4_pass_0 rfl (lv_at hl 0 rfl) ?_
  refine lv_iload_n hx hb dX4_pass_1 rfl (lv_at hl 1 rfl) ?_
  refine lv_iconst (v := 1) hx hb dX4_pass_2 (by decide) ?_
  refine lv_bipush (v := 100) hx hb dX4_pass_3 (by decide) ?_
  refine z_cRi (va_runS (As := [.int d, .int 1, .int 100]) (rest := [.ref (ma 0)]) ⟨hx, hb, hml, hown, hts⟩ (kX4_isIn l d 1 100) (va_cwS 3 hts gX4_pass_X4_isIn rfl rfl rfl (by decide +kernel) ⟨Nat.le_of_ble_eq_true rfl, Nat.le_of_ble_eq_true rfl⟩) (zPre0) rfl rfl hl.1 rfl (lv_room (Nat.le_of_ble_eq_true rfl)) dX4_pass_5 ⟨Nat.le_of_ble_eq_true rfl, Nat.le_of_ble_eq_true rfl⟩) ?_
  refine z_tv (v := 1) (hd1) ?_
  refine lv_if_ne (tgt := 15) hx hb dX4_pass_8 (by decide) (fun c_8 => ?_) (fun c_8 => ?_)
  · skip
    refine lv_aload_n hx hb dX4_pass_15 rfl (lv_at hl 0 rfl) ?_
    refine va_get (D := (dC, dI)) (ci := 4) (v := .int now) (C := RX4) (T := TX4) (N := 22) hx hb hts hiX4 hown hK hP 0 rfl rfl 0 (by decide) l79 (fun _ h9 => h9) rfl dX4_pass_16 ?_
    refine lv_iload_n hx hb dX4_pass_19 rfl (lv_at hl 1 rfl) ?_
    refine lv_iadd hx hb dX4_pass_20 ?_
    refine lv_sipush (v := 5000) hx hb dX4_pass_21 (by decide) ?_
    refine lv_icmp_le (tgt := 31) hx hb dX4_pass_24 (by decide) (fun c_24 => ?_) (fun c_24 => ?_)
    · skip
      refine lv_iconst (v := 0) hx hb dX4_pass_31 (by decide) ?_
      refine z_cMi (is := [0]) (va_runV (As := [.int 0]) (rest := []) ⟨hx, hb, hml, hown, hts⟩ (kX4_goes l dC dI cI cZ cH cJ ma now th 0 s.heap.size) (cwV 1 hts gX4_pass_X4_goes rfl rfl rfl (by decide +kernel) ⟨Nat.le_of_ble_eq_true rfl, Nat.le_of_ble_eq_true rfl⟩) (zPreV (is := [0]) hK hP hD (by decide) rfl (va_recv hK hP (ci := 4) (q0 := 0) rfl rfl)) rfl rfl hl.1 rfl (lv_room (Nat.le_of_ble_eq_true rfl)) dX4_pass_32 ⟨Nat.le_of_ble_eq_true rfl, Nat.le_of_ble_eq_true rfl⟩) hP hD hS hA rfl (by decide) rfl (fun H locs hP hD hS => ?_)
      have hP : va_P (dC, dI) vwCl ([(ma 0, .inr (4, [.int now, .ref (ma 1), .ref (ma 2), .ref (ma 3), .ref (ma 4), .ref (ma 5), .ref (ma 6), .ref (ma 7), .ref (ma 8), .ref (ma 9), .ref (ma 10), .ref (ma 11), .ref (ma 12), .ref (ma 13), .ref (ma 14), .ref (ma 15), .ref (ma 16), .ref (ma 17), .ref (ma 18), .ref (ma 19), .ref (ma 20), .int 0])), (ma 2, .inl (cI, 4, .inl uY)), (ma 3, .inl (cI, 80, .inl uK)), (ma 7, .inl (cI, 80, .inl uR))]) H := hP
      have hD : va_D A ([(ma 0, .inr (4, [.int now, .ref (ma 1), .ref (ma 2), .ref (ma 3), .ref (ma 4), .ref (ma 5), .ref (ma 6), .ref (ma 7), .ref (ma 8), .ref (ma 9), .ref (ma 10), .ref (ma 11), .ref (ma 12), .ref (ma 13), .ref (ma 14), .ref (ma 15), .ref (ma 16), .ref (ma 17), .ref (ma 18), .ref (ma 19), .ref (ma 20), .int 0])), (ma 2, .inl (cI, 4, .inl uY)), (ma 3, .inl (cI, 80, .inl uK)), (ma 7, .inl (cI, 80, .inl uR))]) := hD
      refine z_tv (v := 1) (by decide) ?_
      refine lv_if_ne (tgt := 40) hx hb dX4_pass_35 (by decide) (fun c_35 => ?_) (fun c_35 => ?_)
      · skip
        refine lv_aload_n hx hb dX4_pass_40 rfl (lv_at hl 0 rfl) ?_
        refine lv_dup hx hb dX4_pass_41 rfl ?_
        refine va_get (D := (dC, dI)) (ci := 4) (v := .int now) (C := RX4) (T := TX4) (N := 22) hx hb hts hiX4 hown hK hP 0 rfl rfl 0 (by decide) l79 (fun _ h9 => h9) rfl dX4_pass_42 ?_
        refine lv_iload_n hx hb dX4_pass_45 rfl (lv_at hl 1 rfl) ?_
        refine lv_iadd hx hb dX4_pass_46 ?_
        refine va_put (D := (dC, dI)) (ci := 4) (v := .int (now + d)) (ty := .int) (C := RX4) (T := TX4) (N := 22) hx hb hts hiX4 tyX4 tyX4_ok nmX4 hown hK hP hD hS 0 rfl rfl 0 (by decide) l79 (fun _ h9 => h9) rfl (by decide +kernel) (rfl) (rfl) (Nat.le_of_ble_eq_true rfl) dX4_pass_47 (fun H locs hP hD hS => ?_)
        have hP : va_P (dC, dI) vwCl ([(ma 0, .inr (4, [.int (now + d), .ref (ma 1), .ref (ma 2), .ref (ma 3), .ref (ma 4), .ref (ma 5), .ref (ma 6), .ref (ma 7), .ref (ma 8), .ref (ma 9), .ref (ma 10), .ref (ma 11), .ref (ma 12), .ref (ma 13), .ref (ma 14), .ref (ma 15), .ref (ma 16), .ref (ma 17), .ref (ma 18), .ref (ma 19), .ref (ma 20), .int 0])), (ma 2, .inl (cI, 4, .inl uY)), (ma 3, .inl (cI, 80, .inl uK)), (ma 7, .inl (cI, 80, .inl uR))]) H := hP
        have hD : va_D A ([(ma 0, .inr (4, [.int (now + d), .ref (ma 1), .ref (ma 2), .ref (ma 3), .ref (ma 4), .ref (ma 5), .ref (ma 6), .ref (ma 7), .ref (ma 8), .ref (ma 9), .ref (ma 10), .ref (ma 11), .ref (ma 12), .ref (ma 13), .ref (ma 14), .ref (ma 15), .ref (ma 16), .ref (ma 17), .ref (ma 18), .ref (ma 19), .ref (ma 20), .int 0])), (ma 2, .inl (cI, 4, .inl uY)), (ma 3, .inl (cI, 80, .inl uK)), (ma 7, .inl (cI, 80, .inl uR))]) := hD
        refine lv_iconst (v := 0) hx hb dX4_pass_50 (by decide) ?_
        refine lv_istore_n (lv' := [(2, .int 0), (0, .ref (ma 0)), (1, .int d)]) hx hb dX4_pass_51 rfl hl (by decide) rfl (fun ls hl => ?_)
        have LOOP1 : ∀ (n i : Nat), i ≤ 4 → 4 < i + n → ∀ (H : Heap) (locs : List Loc), va_P (dC, dI) vwCl ([(ma 0, .inr (4, [.int (now + d), .ref (ma 1), .ref (ma 2), .ref (ma 3), .ref (ma 4), .ref (ma 5), .ref (ma 6), .ref (ma 7), .ref (ma 8), .ref (ma 9), .ref (ma 10), .ref (ma 11), .ref (ma 12), .ref (ma 13), .ref (ma 14), .ref (ma 15), .ref (ma 16), .ref (ma 17), .ref (ma 18), .ref (ma 19), .ref (ma 20), .int 0])), (ma 2, .inl (cI, 4, .inl uY)), (ma 3, .inl (cI, 80, .inl (yclrA uK uR uY (now + d) i))), (ma 7, .inl (cI, 80, .inl uR))]) H → va_D A ([(ma 0, .inr (4, [.int (now + d), .ref (ma 1), .ref (ma 2), .ref (ma 3), .ref (ma 4), .ref (ma 5), .ref (ma 6), .ref (ma 7), .ref (ma 8), .ref (ma 9), .ref (ma 10), .ref (ma 11), .ref (ma 12), .ref (ma 13), .ref (ma 14), .ref (ma 15), .ref (ma 16), .ref (ma 17), .ref (ma 18), .ref (ma 19), .ref (ma 20), .int 0])), (ma 2, .inl (cI, 4, .inl uY)), (ma 3, .inl (cI, 80, .inl (yclrA uK uR uY (now + d) i))), (ma 7, .inl (cI, 80, .inl uR))]) → va_S A s.heap H locs → ∀ (ls : Array Slot), lv_has ls 3 [(0, .ref (ma 0)), (1, .int d), (2, .int (nI i))] → W p l e (headSpec wsX4_pass ({ frames := 1, cells := 0, slots := 0, locals := 23 })).room s m ([.ref (ma 0), .int d] : List Value).toArray below meth c H locs 0 0 (MQ below (zQi dC dI (now + d) ([(ma 0, .inr (4, [.int (now + d), .ref (ma 1), .ref (ma 2), .ref (ma 3), .ref (ma 4), .ref (ma 5), .ref (ma 6), .ref (ma 7), .ref (ma 8), .ref (ma 9), .ref (ma 10), .ref (ma 11), .ref (ma 12), .ref (ma 13), .ref (ma 14), .ref (ma 15), .ref (ma 16), .ref (ma 17), .ref (ma 18), .ref (ma 19), .ref (ma 20), .int 0])), (ma 2, .inl (cI, 4, .inl uY)), (ma 3, .inl (cI, 80, .inl (yclrA uK uR uY (now + d) 4))), (ma 7, .inl (cI, 80, .inl uR))]) A) ([.ref (ma 0), .int d] : List Value).toArray s 0 0 A) (F0 m 52 ls []) := by
          intro n
          induction n with
          | zero => intro i h1 h2; exact absurd h2 (by omega)
          | succ n ih =>
            intro i hi hin  H locs hP hD hS ls hl
            refine lv_iload_n hx hb dX4_pass_52 rfl (lv_at hl 2 rfl) ?_
            refine lv_iconst (v := 4) hx hb dX4_pass_53 (by decide) ?_
            refine lv_icmp_ge (tgt := 68) hx hb dX4_pass_54 (by decide) (fun c_54 => ?_) (fun c_54 => ?_)
            · skip
              have e20 : i = 4 := z_ge (n := 4) hi (by decide) c_54
              subst e20
              refine lv_aload_n hx hb dX4_pass_68 rfl (lv_at hl 0 rfl) ?_
              refine va_get (D := (dC, dI)) (ci := 4) (v := .int (now + d)) (C := RX4) (T := TX4) (N := 22) hx hb hts hiX4 hown hK hP 0 rfl rfl 0 (by decide) l79 (fun _ h9 => h9) rfl dX4_pass_69 ?_
              exact W.iret hx hb hr (fun t ht hW => ⟨rfl, ⟨by rw [ht]; exact hP, hD⟩, hS.F ht⟩) hS.2.2 dX4_pass_72
            · skip
              have hlt : i < 4 := z_lt (n := 4) hi (by decide) c_54
              refine lv_aload_n hx hb dX4_pass_57 rfl (lv_at hl 0 rfl) ?_
              refine lv_iload_n hx hb dX4_pass_58 rfl (lv_at hl 2 rfl) ?_
              refine z_cMv (is := [0, 1, 2, 3]) (va_runV (As := [.int (nI i)]) (rest := []) ⟨hx, hb, hml, hown, hts⟩ (kX4_clears l dC dI cI cZ cH cJ ma (now + d) 0 uY (yclrA uK uR uY (now + d) i) uR i (by first | assumption | omega) H.size) (cwV 1 hts gX4_pass_X4_clears rfl rfl rfl (by decide +kernel) ⟨Nat.le_of_ble_eq_true rfl, Nat.le_of_ble_eq_true rfl⟩) (zPreV (is := [0, 1, 2, 3]) hK hP hD (by decide) rfl (va_recv hK hP (ci := 4) (q0 := 0) rfl rfl)) rfl rfl hl.1 rfl (lv_room (Nat.le_of_ble_eq_true rfl)) dX4_pass_59 ⟨Nat.le_of_ble_eq_true rfl, Nat.le_of_ble_eq_true rfl⟩) hP hD hS hA rfl (by decide) rfl (fun H locs hP hD hS => ?_)
              have hP : va_P (dC, dI) vwCl ([(ma 0, .inr (4, [.int (now + d), .ref (ma 1), .ref (ma 2), .ref (ma 3), .ref (ma 4), .ref (ma 5), .ref (ma 6), .ref (ma 7), .ref (ma 8), .ref (ma 9), .ref (ma 10), .ref (ma 11), .ref (ma 12), .ref (ma 13), .ref (ma 14), .ref (ma 15), .ref (ma 16), .ref (ma 17), .ref (ma 18), .ref (ma 19), .ref (ma 20), .int 0])), (ma 2, .inl (cI, 4, .inl uY)), (ma 3, .inl (cI, 80, .inl (yclr (yclrA uK uR uY (now + d) i) uR (uY i) (now + d) (20 * i) 20))), (ma 7, .inl (cI, 80, .inl uR))]) H := hP
              have hD : va_D A ([(ma 0, .inr (4, [.int (now + d), .ref (ma 1), .ref (ma 2), .ref (ma 3), .ref (ma 4), .ref (ma 5), .ref (ma 6), .ref (ma 7), .ref (ma 8), .ref (ma 9), .ref (ma 10), .ref (ma 11), .ref (ma 12), .ref (ma 13), .ref (ma 14), .ref (ma 15), .ref (ma 16), .ref (ma 17), .ref (ma 18), .ref (ma 19), .ref (ma 20), .int 0])), (ma 2, .inl (cI, 4, .inl uY)), (ma 3, .inl (cI, 80, .inl (yclr (yclrA uK uR uY (now + d) i) uR (uY i) (now + d) (20 * i) 20))), (ma 7, .inl (cI, 80, .inl uR))]) := hD
              refine lv_iinc (v := nI (i + 1)) (lv' := [(2, .int (nI (i + 1))), (0, .ref (ma 0)), (1, .int d)]) hx hb dX4_pass_62 hl (k := 2) rfl (z_1) (by decide) rfl (fun ls hl => ?_)
              refine lv_goto (tgt := 52) hx hb dX4_pass_65 (by decide) ?_
              exact ih (i + 1) (by omega) (by omega)  _ _ (zP_eq hP (zw_k (zw_k (zw_a (rfl) (zw_k (rfl)))))) (zD_eq hD (zw_k (zw_k (zw_a (rfl) (zw_k (rfl)))))) hS _ (lv_sub hl [1, 2, 0] rfl)
        exact LOOP1 (4 + 1) 0 (by omega) (by omega)  _ _ (zP_eq hP (zw_k (zw_k (zw_a (rfl) (zw_k (rfl)))))) (zD_eq hD (zw_k (zw_k (zw_a (rfl) (zw_k (rfl)))))) hS _ (lv_cg (lv_sub (l' := [(0, .ref (ma 0)), (1, .int d), (2, .int 0)]) hl [1, 2, 0] rfl) (zl_k (zl_k (zl_c (rfl) (rfl)))))
      · exact absurd c_35 (by decide)
    · exact absurd hle c_24
  · exact absurd c_8 (by decide)
set_option maxHeartbeats 4000000 in
set_option maxRecDepth 100000 in
/-- Model.pass_no -/
theorem kX4_pass_no (l : Launch) (dC : Nat → ClassId) (dI : Nat → Nat → Nat) (cI cZ cH cJ : ClassId) (ma : Nat → Nat) (now : Int32) (th : Int32) (d : Int32) (hd1 : zin d 1 100 = 1) (hle : ¬ now + d ≤ 5000) (sz : Nat) : Met l yX4_pass wsX4_pass ({ frames := 1, cells := 0, slots := 0, locals := 23 }) (zPc dC dI (zTy cI cZ cH cJ) [.ref (ma 0), .int d] sz ([(ma 0, .inr (4, [.int now, .ref (ma 1), .ref (ma 2), .ref (ma 3), .ref (ma 4), .ref (ma 5), .ref (ma 6), .ref (ma 7), .ref (ma 8), .ref (ma 9), .ref (ma 10), .ref (ma 11), .ref (ma 12), .ref (ma 13), .ref (ma 14), .ref (ma 15), .ref (ma 16), .ref (ma 17), .ref (ma 18), .ref (ma 19), .ref (ma 20), .int th]))])) (zQi dC dI 0 ([(ma 0, .inr (4, [.int now, .ref (ma 1), .ref (ma 2), .ref (ma 3), .ref (ma 4), .ref (ma 5), .ref (ma 6), .ref (ma 7), .ref (ma 8), .ref (ma 9), .ref (ma 10), .ref (ma 11), .ref (ma 12), .ref (ma 13), .ref (ma 14), .ref (ma 15), .ref (ma 16), .ref (ma 17), .ref (ma 18), .ref (ma 19), .ref (ma 20), .int 2]))]) (va_A ([(ma 0, .inr (4, [.int now, .ref (ma 1), .ref (ma 2), .ref (ma 3), .ref (ma 4), .ref (ma 5), .ref (ma 6), .ref (ma 7), .ref (ma 8), .ref (ma 9), .ref (ma 10), .ref (ma 11), .ref (ma 12), .ref (ma 13), .ref (ma 14), .ref (ma 15), .ref (ma 16), .ref (ma 17), .ref (ma 18), .ref (ma 19), .ref (ma 20), .int th]))]) sz)) 0 0 (va_A ([(ma 0, .inr (4, [.int now, .ref (ma 1), .ref (ma 2), .ref (ma 3), .ref (ma 4), .ref (ma 5), .ref (ma 6), .ref (ma 7), .ref (ma 8), .ref (ma 9), .ref (ma 10), .ref (ma 11), .ref (ma 12), .ref (ma 13), .ref (ma 14), .ref (ma 15), .ref (ma 16), .ref (ma 17), .ref (ma 18), .ref (ma 19), .ref (ma 20), .int th]))]) sz) := by
  refine Met.ofW (cc := cX4_pass) (maxL := 3) (ret := (some .int)) (by decide) rfl ?_
  intro p e s m args below meth c s₁ B hml hv0
  obtain ⟨rfl, hsz, hP, hK, hD0⟩ := hv0
  have hx := B.exec
  have hb := B.bytes
  have hr := B.returns
  have hts := atoms_spec (ws := wsX4_pass) B.pre
  have hown : s.vm.findClass RX4 = some m.cls := findClass_of_methodNamed B.named
  have hlocks := B.notSynchronized
  subst hsz
  have hD := hD0.self (sz := s.heap.size)
  generalize hAe : va_A ([(ma 0, .inr (4, [.int now, .ref (ma 1), .ref (ma 2), .ref (ma 3), .ref (ma 4), .ref (ma 5), .ref (ma 6), .ref (ma 7), .ref (ma 8), .ref (ma 9), .ref (ma 10), .ref (ma 11), .ref (ma 12), .ref (ma 13), .ref (ma 14), .ref (ma 15), .ref (ma 16), .ref (ma 17), .ref (ma 18), .ref (ma 19), .ref (ma 20), .int th]))]) s.heap.size = A at hD ⊢
  have hA : ∀ q : Nat, s.heap.size ≤ q → A q := fun q h => by rw [← hAe]; exact Or.inr h
  have hS : va_S A s.heap s.heap [] := va_S.rf
  have hl := lv_entry ([.ref (ma 0), .int d]) (n := 3) (Nat.le_of_ble_eq_true rfl)
  rw [lg_entry_eq]
  generalize (lg_sl ([.ref (ma 0), .int d]) ++ List.replicate (3 - (lg_sl ([.ref (ma 0), .int d])).length) Slot.unset).toArray = ls at hl ⊢
  have hl : lv_has ls 3 [(0, .ref (ma 0)), (1, .int d)] := hl
  have hiX4 : ∀ w ∈ wsX40, w ∈ wsX4_pass := by decide +kernel
  have l79 := hts (.fieldLink RX4 79 "CatalogueHarvesterModel" "today" "I") (by decide +kernel)
  refine lv_aload_n hx hb dX4_pass_0 rfl (lv_at hl 0 rfl) ?_
  refine lv_iload_n hx hb dX4_pass_1 rfl (lv_at hl 1 rfl) ?_
  refine lv_iconst (v := 1) hx hb dX4_pass_2 (by decide) ?_
  refine lv_bipush (v := 100) hx hb dX4_pass_3 (by decide) ?_
  refine z_cRi (va_runS (As := [.int d, .int 1, .int 100]) (rest := [.ref (ma 0)]) ⟨hx, hb, hml, hown, hts⟩ (kX4_isIn l d 1 100) (va_cwS 3 hts gX4_pass_X4_isIn rfl rfl rfl (by decide +kernel) ⟨Nat.le_of_ble_eq_true rfl, Nat.le_of_ble_eq_true rfl⟩) (zPre0) rfl rfl hl.1 rfl (lv_room (Nat.le_of_ble_eq_true rfl)) dX4_pass_5 ⟨Nat.le_of_ble_eq_true rfl, Nat.le_of_ble_eq_true rfl⟩) ?_
  refine z_tv (v := 1) (hd1) ?_
  refine lv_if_ne (tgt := 15) hx hb dX4_pass_8 (by decide) (fun c_8 => ?_) (fun c_8 => ?_)
  · skip
    refine lv_aload_n hx hb dX4_pass_15 rfl (lv_at hl 0 rfl) ?_
    refine va_get (D := (dC, dI)) (ci := 4) (v := .int now) (C := RX4) (T := TX4) (N := 22) hx hb hts hiX4 hown hK hP 0 rfl rfl 0 (by decide) l79 (fun _ h9 => h9) rfl dX4_pass_16 ?_
    refine lv_iload_n hx hb dX4_pass_19 rfl (lv_at hl 1 rfl) ?_
    refine lv_iadd hx hb dX4_pass_20 ?_
    refine lv_sipush (v := 5000) hx hb dX4_pass_21 (by decide) ?_
    refine lv_icmp_le (tgt := 31) hx hb dX4_pass_24 (by decide) (fun c_24 => ?_) (fun c_24 => ?_)
    · exact absurd c_24 hle
    · skip
      refine lv_iconst (v := 2) hx hb dX4_pass_27 (by decide) ?_
      refine lv_goto (tgt := 32) hx hb dX4_pass_28 (by decide) ?_
      refine z_cMi (is := [0]) (va_runV (As := [.int 2]) (rest := []) ⟨hx, hb, hml, hown, hts⟩ (kX4_goes l dC dI cI cZ cH cJ ma now th 2 s.heap.size) (cwV 1 hts gX4_pass_X4_goes rfl rfl rfl (by decide +kernel) ⟨Nat.le_of_ble_eq_true rfl, Nat.le_of_ble_eq_true rfl⟩) (zPreV (is := [0]) hK hP hD (by decide) rfl (va_recv hK hP (ci := 4) (q0 := 0) rfl rfl)) rfl rfl hl.1 rfl (lv_room (Nat.le_of_ble_eq_true rfl)) dX4_pass_32 ⟨Nat.le_of_ble_eq_true rfl, Nat.le_of_ble_eq_true rfl⟩) hP hD hS hA rfl (by decide) rfl (fun H locs hP hD hS => ?_)
      have hP : va_P (dC, dI) vwCl ([(ma 0, .inr (4, [.int now, .ref (ma 1), .ref (ma 2), .ref (ma 3), .ref (ma 4), .ref (ma 5), .ref (ma 6), .ref (ma 7), .ref (ma 8), .ref (ma 9), .ref (ma 10), .ref (ma 11), .ref (ma 12), .ref (ma 13), .ref (ma 14), .ref (ma 15), .ref (ma 16), .ref (ma 17), .ref (ma 18), .ref (ma 19), .ref (ma 20), .int 2]))]) H := hP
      have hD : va_D A ([(ma 0, .inr (4, [.int now, .ref (ma 1), .ref (ma 2), .ref (ma 3), .ref (ma 4), .ref (ma 5), .ref (ma 6), .ref (ma 7), .ref (ma 8), .ref (ma 9), .ref (ma 10), .ref (ma 11), .ref (ma 12), .ref (ma 13), .ref (ma 14), .ref (ma 15), .ref (ma 16), .ref (ma 17), .ref (ma 18), .ref (ma 19), .ref (ma 20), .int 2]))]) := hD
      refine z_tv (v := 0) (by decide) ?_
      refine lv_if_ne (tgt := 40) hx hb dX4_pass_35 (by decide) (fun c_35 => ?_) (fun c_35 => ?_)
      · exact absurd c_35 (by decide)
      · skip
        refine lv_iconst (v := 0) hx hb dX4_pass_38 (by decide) ?_
        exact W.iret hx hb hr (fun t ht hW => ⟨rfl, ⟨by rw [ht]; exact hP, hD⟩, hS.F ht⟩) hS.2.2 dX4_pass_39
  · exact absurd c_8 (by decide)
set_option maxHeartbeats 4000000 in
set_option maxRecDepth 100000 in
/-- Model.pass_bad -/
theorem kX4_pass_bad (l : Launch) (dC : Nat → ClassId) (dI : Nat → Nat → Nat) (cI cZ cH cJ : ClassId) (ma : Nat → Nat) (now : Int32) (th : Int32) (d : Int32) (hv : ¬ zin d 1 100 = 1) (sz : Nat) : Met l yX4_pass wsX4_pass ({ frames := 1, cells := 0, slots := 0, locals := 23 }) (zPc dC dI (zTy cI cZ cH cJ) [.ref (ma 0), .int d] sz ([(ma 0, .inr (4, [.int now, .ref (ma 1), .ref (ma 2), .ref (ma 3), .ref (ma 4), .ref (ma 5), .ref (ma 6), .ref (ma 7), .ref (ma 8), .ref (ma 9), .ref (ma 10), .ref (ma 11), .ref (ma 12), .ref (ma 13), .ref (ma 14), .ref (ma 15), .ref (ma 16), .ref (ma 17), .ref (ma 18), .ref (ma 19), .ref (ma 20), .int th]))])) (zQi dC dI 0 ([(ma 0, .inr (4, [.int now, .ref (ma 1), .ref (ma 2), .ref (ma 3), .ref (ma 4), .ref (ma 5), .ref (ma 6), .ref (ma 7), .ref (ma 8), .ref (ma 9), .ref (ma 10), .ref (ma 11), .ref (ma 12), .ref (ma 13), .ref (ma 14), .ref (ma 15), .ref (ma 16), .ref (ma 17), .ref (ma 18), .ref (ma 19), .ref (ma 20), .int 1]))]) (va_A ([(ma 0, .inr (4, [.int now, .ref (ma 1), .ref (ma 2), .ref (ma 3), .ref (ma 4), .ref (ma 5), .ref (ma 6), .ref (ma 7), .ref (ma 8), .ref (ma 9), .ref (ma 10), .ref (ma 11), .ref (ma 12), .ref (ma 13), .ref (ma 14), .ref (ma 15), .ref (ma 16), .ref (ma 17), .ref (ma 18), .ref (ma 19), .ref (ma 20), .int th]))]) sz)) 0 0 (va_A ([(ma 0, .inr (4, [.int now, .ref (ma 1), .ref (ma 2), .ref (ma 3), .ref (ma 4), .ref (ma 5), .ref (ma 6), .ref (ma 7), .ref (ma 8), .ref (ma 9), .ref (ma 10), .ref (ma 11), .ref (ma 12), .ref (ma 13), .ref (ma 14), .ref (ma 15), .ref (ma 16), .ref (ma 17), .ref (ma 18), .ref (ma 19), .ref (ma 20), .int th]))]) sz) := by
  refine Met.ofW (cc := cX4_pass) (maxL := 3) (ret := (some .int)) (by decide) rfl ?_
  intro p e s m args below meth c s₁ B hml hv0
  obtain ⟨rfl, hsz, hP, hK, hD0⟩ := hv0
  have hx := B.exec
  have hb := B.bytes
  have hr := B.returns
  have hts := atoms_spec (ws := wsX4_pass) B.pre
  have hown : s.vm.findClass RX4 = some m.cls := findClass_of_methodNamed B.named
  have hlocks := B.notSynchronized
  subst hsz
  have hD := hD0.self (sz := s.heap.size)
  generalize hAe : va_A ([(ma 0, .inr (4, [.int now, .ref (ma 1), .ref (ma 2), .ref (ma 3), .ref (ma 4), .ref (ma 5), .ref (ma 6), .ref (ma 7), .ref (ma 8), .ref (ma 9), .ref (ma 10), .ref (ma 11), .ref (ma 12), .ref (ma 13), .ref (ma 14), .ref (ma 15), .ref (ma 16), .ref (ma 17), .ref (ma 18), .ref (ma 19), .ref (ma 20), .int th]))]) s.heap.size = A at hD ⊢
  have hA : ∀ q : Nat, s.heap.size ≤ q → A q := fun q h => by rw [← hAe]; exact Or.inr h
  have hS : va_S A s.heap s.heap [] := va_S.rf
  have hl := lv_entry ([.ref (ma 0), .int d]) (n := 3) (Nat.le_of_ble_eq_true rfl)
  rw [lg_entry_eq]
  generalize (lg_sl ([.ref (ma 0), .int d]) ++ List.replicate (3 - (lg_sl ([.ref (ma 0), .int d])).length) Slot.unset).toArray = ls at hl ⊢
  have hl : lv_has ls 3 [(0, .ref (ma 0)), (1, .int d)] := hl
  refine lv_aload_n hx hb dX4_pass_0 rfl (lv_at hl 0 rfl) ?_
  refine lv_iload_n hx hb dX4_pass_1 rfl (lv_at hl 1 rfl) ?_
  refine lv_iconst (v := 1) hx hb dX4_pass_2 (by decide) ?_
  refine lv_bipush (v := 100) hx hb dX4_pass_3 (by decide) ?_
  refine z_cRi (va_runS (As := [.int d, .int 1, .int 100]) (rest := [.ref (ma 0)]) ⟨hx, hb, hml, hown, hts⟩ (kX4_isIn l d 1 100) (va_cwS 3 hts gX4_pass_X4_isIn rfl rfl rfl (by decide +kernel) ⟨Nat.le_of_ble_eq_true rfl, Nat.le_of_ble_eq_true rfl⟩) (zPre0) rfl rfl hl.1 rfl (lv_room (Nat.le_of_ble_eq_true rfl)) dX4_pass_5 ⟨Nat.le_of_ble_eq_true rfl, Nat.le_of_ble_eq_true rfl⟩) ?_
  refine z_tv (v := zin d 1 100) rfl ?_
  refine lv_if_ne (tgt := 15) hx hb dX4_pass_8 (by decide) (fun c_8 => ?_) (fun c_8 => ?_)
  · exact absurd c_8 (fun q => hv (zin_n1 q))
  · skip
    refine lv_iconst (v := 1) hx hb dX4_pass_11 (by decide) ?_
    refine lv_goto (tgt := 32) hx hb dX4_pass_12 (by decide) ?_
    refine z_cMi (is := [0]) (va_runV (As := [.int 1]) (rest := []) ⟨hx, hb, hml, hown, hts⟩ (kX4_goes l dC dI cI cZ cH cJ ma now th 1 s.heap.size) (cwV 1 hts gX4_pass_X4_goes rfl rfl rfl (by decide +kernel) ⟨Nat.le_of_ble_eq_true rfl, Nat.le_of_ble_eq_true rfl⟩) (zPreV (is := [0]) hK hP hD (by decide) rfl (va_recv hK hP (ci := 4) (q0 := 0) rfl rfl)) rfl rfl hl.1 rfl (lv_room (Nat.le_of_ble_eq_true rfl)) dX4_pass_32 ⟨Nat.le_of_ble_eq_true rfl, Nat.le_of_ble_eq_true rfl⟩) hP hD hS hA rfl (by decide) rfl (fun H locs hP hD hS => ?_)
    have hP : va_P (dC, dI) vwCl ([(ma 0, .inr (4, [.int now, .ref (ma 1), .ref (ma 2), .ref (ma 3), .ref (ma 4), .ref (ma 5), .ref (ma 6), .ref (ma 7), .ref (ma 8), .ref (ma 9), .ref (ma 10), .ref (ma 11), .ref (ma 12), .ref (ma 13), .ref (ma 14), .ref (ma 15), .ref (ma 16), .ref (ma 17), .ref (ma 18), .ref (ma 19), .ref (ma 20), .int 1]))]) H := hP
    have hD : va_D A ([(ma 0, .inr (4, [.int now, .ref (ma 1), .ref (ma 2), .ref (ma 3), .ref (ma 4), .ref (ma 5), .ref (ma 6), .ref (ma 7), .ref (ma 8), .ref (ma 9), .ref (ma 10), .ref (ma 11), .ref (ma 12), .ref (ma 13), .ref (ma 14), .ref (ma 15), .ref (ma 16), .ref (ma 17), .ref (ma 18), .ref (ma 19), .ref (ma 20), .int 1]))]) := hD
    refine z_tv (v := 0) (by decide) ?_
    refine lv_if_ne (tgt := 40) hx hb dX4_pass_35 (by decide) (fun c_35 => ?_) (fun c_35 => ?_)
    · exact absurd c_35 (by decide)
    · skip
      refine lv_iconst (v := 0) hx hb dX4_pass_38 (by decide) ?_
      exact W.iret hx hb hr (fun t ht hW => ⟨rfl, ⟨by rw [ht]; exact hP, hD⟩, hS.F ht⟩) hS.2.2 dX4_pass_39
set_option maxHeartbeats 4000000 in
set_option maxRecDepth 100000 in
/-- Model.today -/
theorem kX4_today (l : Launch) (dC : Nat → ClassId) (dI : Nat → Nat → Nat) (cI cZ cH cJ : ClassId) (ma : Nat → Nat) (now : Int32) (th : Int32) (sz : Nat) : Met l yX4_today wsX4_today ({ frames := 0, cells := 0, slots := 0, locals := 0 }) (zPc dC dI (zTy cI cZ cH cJ) [.ref (ma 0)] sz ([(ma 0, .inr (4, [.int now, .ref (ma 1), .ref (ma 2), .ref (ma 3), .ref (ma 4), .ref (ma 5), .ref (ma 6), .ref (ma 7), .ref (ma 8), .ref (ma 9), .ref (ma 10), .ref (ma 11), .ref (ma 12), .ref (ma 13), .ref (ma 14), .ref (ma 15), .ref (ma 16), .ref (ma 17), .ref (ma 18), .ref (ma 19), .ref (ma 20), .int th]))])) (zQi dC dI now ([(ma 0, .inr (4, [.int now, .ref (ma 1), .ref (ma 2), .ref (ma 3), .ref (ma 4), .ref (ma 5), .ref (ma 6), .ref (ma 7), .ref (ma 8), .ref (ma 9), .ref (ma 10), .ref (ma 11), .ref (ma 12), .ref (ma 13), .ref (ma 14), .ref (ma 15), .ref (ma 16), .ref (ma 17), .ref (ma 18), .ref (ma 19), .ref (ma 20), .int 0]))]) (va_A ([(ma 0, .inr (4, [.int now, .ref (ma 1), .ref (ma 2), .ref (ma 3), .ref (ma 4), .ref (ma 5), .ref (ma 6), .ref (ma 7), .ref (ma 8), .ref (ma 9), .ref (ma 10), .ref (ma 11), .ref (ma 12), .ref (ma 13), .ref (ma 14), .ref (ma 15), .ref (ma 16), .ref (ma 17), .ref (ma 18), .ref (ma 19), .ref (ma 20), .int th]))]) sz)) 0 0 (va_A ([(ma 0, .inr (4, [.int now, .ref (ma 1), .ref (ma 2), .ref (ma 3), .ref (ma 4), .ref (ma 5), .ref (ma 6), .ref (ma 7), .ref (ma 8), .ref (ma 9), .ref (ma 10), .ref (ma 11), .ref (ma 12), .ref (ma 13), .ref (ma 14), .ref (ma 15), .ref (ma 16), .ref (ma 17), .ref (ma 18), .ref (ma 19), .ref (ma 20), .int th]))]) sz) := by
  refine Met.ofW (cc := cX4_today) (maxL := 1) (ret := (some .int)) (by decide) rfl ?_
  intro p e s m args below meth c s₁ B hml hv0
  obtain ⟨rfl, hsz, hP, hK, hD0⟩ := hv0
  have hx := B.exec
  have hb := B.bytes
  have hr := B.returns
  have hts := atoms_spec (ws := wsX4_today) B.pre
  have hown : s.vm.findClass RX4 = some m.cls := findClass_of_methodNamed B.named
  have hlocks := B.notSynchronized
  subst hsz
  have hD := hD0.self (sz := s.heap.size)
  generalize hAe : va_A ([(ma 0, .inr (4, [.int now, .ref (ma 1), .ref (ma 2), .ref (ma 3), .ref (ma 4), .ref (ma 5), .ref (ma 6), .ref (ma 7), .ref (ma 8), .ref (ma 9), .ref (ma 10), .ref (ma 11), .ref (ma 12), .ref (ma 13), .ref (ma 14), .ref (ma 15), .ref (ma 16), .ref (ma 17), .ref (ma 18), .ref (ma 19), .ref (ma 20), .int th]))]) s.heap.size = A at hD ⊢
  have hA : ∀ q : Nat, s.heap.size ≤ q → A q := fun q h => by rw [← hAe]; exact Or.inr h
  have hS : va_S A s.heap s.heap [] := va_S.rf
  have hl := lv_entry ([.ref (ma 0)]) (n := 1) (Nat.le_of_ble_eq_true rfl)
  rw [lg_entry_eq]
  generalize (lg_sl ([.ref (ma 0)]) ++ List.replicate (1 - (lg_sl ([.ref (ma 0)])).length) Slot.unset).toArray = ls at hl ⊢
  have hl : lv_has ls 1 [(0, .ref (ma 0))] := hl
  have hiX4 : ∀ w ∈ wsX40, w ∈ wsX4_today := by decide +kernel
  have l71 := hts (.fieldLink RX4 71 "CatalogueHarvesterModel" "thrown" "I") (by decide +kernel)
  have l79 := hts (.fieldLink RX4 79 "CatalogueHarvesterModel" "today" "I") (by decide +kernel)
  refine lv_aload_n hx hb dX4_today_0 rfl (lv_at hl 0 rfl) ?_
  refine lv_iconst (v := 0) hx hb dX4_today_1 (by decide) ?_
  refine va_put (D := (dC, dI)) (ci := 4) (v := .int 0) (ty := .int) (C := RX4) (T := TX4) (N := 22) hx hb hts hiX4 tyX4 tyX4_ok nmX4 hown hK hP hD hS 0 rfl rfl 21 (by decide) l71 (fun _ h9 => h9) rfl (by decide +kernel) (rfl) (rfl) (Nat.le_of_ble_eq_true rfl) dX4_today_2 (fun H locs hP hD hS => ?_)
  have hP : va_P (dC, dI) vwCl ([(ma 0, .inr (4, [.int now, .ref (ma 1), .ref (ma 2), .ref (ma 3), .ref (ma 4), .ref (ma 5), .ref (ma 6), .ref (ma 7), .ref (ma 8), .ref (ma 9), .ref (ma 10), .ref (ma 11), .ref (ma 12), .ref (ma 13), .ref (ma 14), .ref (ma 15), .ref (ma 16), .ref (ma 17), .ref (ma 18), .ref (ma 19), .ref (ma 20), .int 0]))]) H := hP
  have hD : va_D A ([(ma 0, .inr (4, [.int now, .ref (ma 1), .ref (ma 2), .ref (ma 3), .ref (ma 4), .ref (ma 5), .ref (ma 6), .ref (ma 7), .ref (ma 8), .ref (ma 9), .ref (ma 10), .ref (ma 11), .ref (ma 12), .ref (ma 13), .ref (ma 14), .ref (ma 15), .ref (ma 16), .ref (ma 17), .ref (ma 18), .ref (ma 19), .ref (ma 20), .int 0]))]) := hD
  refine lv_aload_n hx hb dX4_today_5 rfl (lv_at hl 0 rfl) ?_
  refine va_get (D := (dC, dI)) (ci := 4) (v := .int now) (C := RX4) (T := TX4) (N := 22) hx hb hts hiX4 hown hK hP 0 rfl rfl 0 (by decide) l79 (fun _ h9 => h9) rfl dX4_today_6 ?_
  exact W.iret hx hb hr (fun t ht hW => ⟨rfl, ⟨by rw [ht]; exact hP, hD⟩, hS.F ht⟩) hS.2.2 dX4_today_9
set_option maxHeartbeats 4000000 in
set_option maxRecDepth 100000 in
/-- Model.far_ok -/
theorem kX4_far_ok (l : Launch) (dC : Nat → ClassId) (dI : Nat → Nat → Nat) (cI cZ cH cJ : ClassId) (ma : Nat → Nat) (now : Int32) (th : Int32) (uK : zI) (ca : Nat) (hca : ca < 4) (sz : Nat) : Met l yX4_far wsX4_far ({ frames := 3, cells := 0, slots := 0, locals := 63 }) (zPc dC dI (zTy cI cZ cH cJ) [.ref (ma 0), .int (nI ca)] sz ([(ma 0, .inr (4, [.int now, .ref (ma 1), .ref (ma 2), .ref (ma 3), .ref (ma 4), .ref (ma 5), .ref (ma 6), .ref (ma 7), .ref (ma 8), .ref (ma 9), .ref (ma 10), .ref (ma 11), .ref (ma 12), .ref (ma 13), .ref (ma 14), .ref (ma 15), .ref (ma 16), .ref (ma 17), .ref (ma 18), .ref (ma 19), .ref (ma 20), .int th])), (ma 3, .inl (cI, 80, .inl uK))])) (zQi dC dI (ycnt uK 1 (20 * ca) 20) ([(ma 0, .inr (4, [.int now, .ref (ma 1), .ref (ma 2), .ref (ma 3), .ref (ma 4), .ref (ma 5), .ref (ma 6), .ref (ma 7), .ref (ma 8), .ref (ma 9), .ref (ma 10), .ref (ma 11), .ref (ma 12), .ref (ma 13), .ref (ma 14), .ref (ma 15), .ref (ma 16), .ref (ma 17), .ref (ma 18), .ref (ma 19), .ref (ma 20), .int 0])), (ma 3, .inl (cI, 80, .inl uK))]) (va_A ([(ma 0, .inr (4, [.int now, .ref (ma 1), .ref (ma 2), .ref (ma 3), .ref (ma 4), .ref (ma 5), .ref (ma 6), .ref (ma 7), .ref (ma 8), .ref (ma 9), .ref (ma 10), .ref (ma 11), .ref (ma 12), .ref (ma 13), .ref (ma 14), .ref (ma 15), .ref (ma 16), .ref (ma 17), .ref (ma 18), .ref (ma 19), .ref (ma 20), .int th])), (ma 3, .inl (cI, 80, .inl uK))]) sz)) 0 0 (va_A ([(ma 0, .inr (4, [.int now, .ref (ma 1), .ref (ma 2), .ref (ma 3), .ref (ma 4), .ref (ma 5), .ref (ma 6), .ref (ma 7), .ref (ma 8), .ref (ma 9), .ref (ma 10), .ref (ma 11), .ref (ma 12), .ref (ma 13), .ref (ma 14), .ref (ma 15), .ref (ma 16), .ref (ma 17), .ref (ma 18), .ref (ma 19), .ref (ma 20), .int th])), (ma 3, .inl (cI, 80, .inl uK))]) sz) := by
  refine Met.ofW (cc := cX4_far) (maxL := 2) (ret := (some .int)) (by decide) rfl ?_
  intro p e s m args below meth c s₁ B hml hv0
  obtain ⟨rfl, hsz, hP, hK, hD0⟩ := hv0
  have hx := B.exec
  have hb := B.bytes
  have hr := B.returns
  have hts := atoms_spec (ws := wsX4_far) B.pre
  have hown : s.vm.findClass RX4 = some m.cls := findClass_of_methodNamed B.named
  have hlocks := B.notSynchronized
  subst hsz
  have hD := hD0.self (sz := s.heap.size)
  generalize hAe : va_A ([(ma 0, .inr (4, [.int now, .ref (ma 1), .ref (ma 2), .ref (ma 3), .ref (ma 4), .ref (ma 5), .ref (ma 6), .ref (ma 7), .ref (ma 8), .ref (ma 9), .ref (ma 10), .ref (ma 11), .ref (ma 12), .ref (ma 13), .ref (ma 14), .ref (ma 15), .ref (ma 16), .ref (ma 17), .ref (ma 18), .ref (ma 19), .ref (ma 20), .int th])), (ma 3, .inl (cI, 80, .inl uK))]) s.heap.size = A at hD ⊢
  have hA : ∀ q : Nat, s.heap.size ≤ q → A q := fun q h => by rw [← hAe]; exact Or.inr h
  have hS : va_S A s.heap s.heap [] := va_S.rf
  have hl := lv_entry ([.ref (ma 0), .int (nI ca)]) (n := 2) (Nat.le_of_ble_eq_true rfl)
  rw [lg_entry_eq]
  generalize (lg_sl ([.ref (ma 0), .int (nI ca)]) ++ List.replicate (2 - (lg_sl ([.ref (ma 0), .int (nI ca)])).length) Slot.unset).toArray = ls at hl ⊢
  have hl : lv_has ls 2 [(0, .ref (ma 0)), (1, .int (nI ca))] := hl
  refine lv_aload_n hx hb dX4_far_0 rfl (lv_at hl 0 rfl) ?_
  refine lv_iload_n hx hb dX4_far_1 rfl (lv_at hl 1 rfl) ?_
  refine z_cMi (is := [0]) (va_runV (As := [.int (nI ca)]) (rest := []) ⟨hx, hb, hml, hown, hts⟩ (kX4_asks_ok l dC dI cI cZ cH cJ ma now th ca (by first | assumption | omega) s.heap.size) (cwV 1 hts gX4_far_X4_asks rfl rfl rfl (by decide +kernel) ⟨Nat.le_of_ble_eq_true rfl, Nat.le_of_ble_eq_true rfl⟩) (zPreV (is := [0]) hK hP hD (by decide) rfl (va_recv hK hP (ci := 4) (q0 := 0) rfl rfl)) rfl rfl hl.1 rfl (lv_room (Nat.le_of_ble_eq_true rfl)) dX4_far_2 ⟨Nat.le_of_ble_eq_true rfl, Nat.le_of_ble_eq_true rfl⟩) hP hD hS hA rfl (by decide) rfl (fun H locs hP hD hS => ?_)
  have hP : va_P (dC, dI) vwCl ([(ma 0, .inr (4, [.int now, .ref (ma 1), .ref (ma 2), .ref (ma 3), .ref (ma 4), .ref (ma 5), .ref (ma 6), .ref (ma 7), .ref (ma 8), .ref (ma 9), .ref (ma 10), .ref (ma 11), .ref (ma 12), .ref (ma 13), .ref (ma 14), .ref (ma 15), .ref (ma 16), .ref (ma 17), .ref (ma 18), .ref (ma 19), .ref (ma 20), .int 0])), (ma 3, .inl (cI, 80, .inl uK))]) H := hP
  have hD : va_D A ([(ma 0, .inr (4, [.int now, .ref (ma 1), .ref (ma 2), .ref (ma 3), .ref (ma 4), .ref (ma 5), .ref (ma 6), .ref (ma 7), .ref (ma 8), .ref (ma 9), .ref (ma 10), .ref (ma 11), .ref (ma 12), .ref (ma 13), .ref (ma 14), .ref (ma 15), .ref (ma 16), .ref (ma 17), .ref (ma 18), .ref (ma 19), .ref (ma 20), .int 0])), (ma 3, .inl (cI, 80, .inl uK))]) := hD
  refine z_tv (v := 1) rfl ?_
  refine lv_if_eq (tgt := 17) hx hb dX4_far_5 (by decide) (fun c_5 => ?_) (fun c_5 => ?_)
  · exact absurd c_5 (by decide)
  · skip
    refine lv_aload_n hx hb dX4_far_8 rfl (lv_at hl 0 rfl) ?_
    refine lv_iload_n hx hb dX4_far_9 rfl (lv_at hl 1 rfl) ?_
    refine lv_iconst (v := 1) hx hb dX4_far_10 (by decide) ?_
    refine z_cRi (va_runV (As := [.int (nI ca), .int 1]) (rest := []) ⟨hx, hb, hml, hown, hts⟩ (kX4_count l dC dI cI cZ cH cJ ma now 0 uK ca (by first | assumption | omega) 1) (cwV 2 hts gX4_far_X4_count rfl rfl rfl (by decide +kernel) ⟨Nat.le_of_ble_eq_true rfl, Nat.le_of_ble_eq_true rfl⟩) (zPreR (is := [0, 1]) hK hP rfl (va_recv hK hP (ci := 4) (q0 := 0) rfl rfl)) rfl rfl hl.1 rfl (lv_room (Nat.le_of_ble_eq_true rfl)) dX4_far_11 ⟨Nat.le_of_ble_eq_true rfl, Nat.le_of_ble_eq_true rfl⟩) ?_
    refine z_tv (v := ycnt uK 1 (20 * ca) 20) rfl ?_
    refine lv_goto (tgt := 18) hx hb dX4_far_14 (by decide) ?_
    exact W.iret hx hb hr (fun t ht hW => ⟨rfl, ⟨by rw [ht]; exact hP, hD⟩, hS.F ht⟩) hS.2.2 dX4_far_18
set_option maxHeartbeats 4000000 in
set_option maxRecDepth 100000 in
/-- Model.far_bad -/
theorem kX4_far_bad (l : Launch) (dC : Nat → ClassId) (dI : Nat → Nat → Nat) (cI cZ cH cJ : ClassId) (ma : Nat → Nat) (now : Int32) (th : Int32) (v : Int32) (hv : ¬ zin v 0 3 = 1) (sz : Nat) : Met l yX4_far wsX4_far ({ frames := 3, cells := 0, slots := 0, locals := 63 }) (zPc dC dI (zTy cI cZ cH cJ) [.ref (ma 0), .int v] sz ([(ma 0, .inr (4, [.int now, .ref (ma 1), .ref (ma 2), .ref (ma 3), .ref (ma 4), .ref (ma 5), .ref (ma 6), .ref (ma 7), .ref (ma 8), .ref (ma 9), .ref (ma 10), .ref (ma 11), .ref (ma 12), .ref (ma 13), .ref (ma 14), .ref (ma 15), .ref (ma 16), .ref (ma 17), .ref (ma 18), .ref (ma 19), .ref (ma 20), .int th]))])) (zQi dC dI 0 ([(ma 0, .inr (4, [.int now, .ref (ma 1), .ref (ma 2), .ref (ma 3), .ref (ma 4), .ref (ma 5), .ref (ma 6), .ref (ma 7), .ref (ma 8), .ref (ma 9), .ref (ma 10), .ref (ma 11), .ref (ma 12), .ref (ma 13), .ref (ma 14), .ref (ma 15), .ref (ma 16), .ref (ma 17), .ref (ma 18), .ref (ma 19), .ref (ma 20), .int 1]))]) (va_A ([(ma 0, .inr (4, [.int now, .ref (ma 1), .ref (ma 2), .ref (ma 3), .ref (ma 4), .ref (ma 5), .ref (ma 6), .ref (ma 7), .ref (ma 8), .ref (ma 9), .ref (ma 10), .ref (ma 11), .ref (ma 12), .ref (ma 13), .ref (ma 14), .ref (ma 15), .ref (ma 16), .ref (ma 17), .ref (ma 18), .ref (ma 19), .ref (ma 20), .int th]))]) sz)) 0 0 (va_A ([(ma 0, .inr (4, [.int now, .ref (ma 1), .ref (ma 2), .ref (ma 3), .ref (ma 4), .ref (ma 5), .ref (ma 6), .ref (ma 7), .ref (ma 8), .ref (ma 9), .ref (ma 10), .ref (ma 11), .ref (ma 12), .ref (ma 13), .ref (ma 14), .ref (ma 15), .ref (ma 16), .ref (ma 17), .ref (ma 18), .ref (ma 19), .ref (ma 20), .int th]))]) sz) := by
  refine Met.ofW (cc := cX4_far) (maxL := 2) (ret := (some .int)) (by decide) rfl ?_
  intro p e s m args below meth c s₁ B hml hv0
  obtain ⟨rfl, hsz, hP, hK, hD0⟩ := hv0
  have hx := B.exec
  have hb := B.bytes
  have hr := B.returns
  have hts := atoms_spec (ws := wsX4_far) B.pre
  have hown : s.vm.findClass RX4 = some m.cls := findClass_of_methodNamed B.named
  have hlocks := B.notSynchronized
  subst hsz
  have hD := hD0.self (sz := s.heap.size)
  generalize hAe : va_A ([(ma 0, .inr (4, [.int now, .ref (ma 1), .ref (ma 2), .ref (ma 3), .ref (ma 4), .ref (ma 5), .ref (ma 6), .ref (ma 7), .ref (ma 8), .ref (ma 9), .ref (ma 10), .ref (ma 11), .ref (ma 12), .ref (ma 13), .ref (ma 14), .ref (ma 15), .ref (ma 16), .ref (ma 17), .ref (ma 18), .ref (ma 19), .ref (ma 20), .int th]))]) s.heap.size = A at hD ⊢
  have hA : ∀ q : Nat, s.heap.size ≤ q → A q := fun q h => by rw [← hAe]; exact Or.inr h
  have hS : va_S A s.heap s.heap [] := va_S.rf
  have hl := lv_entry ([.ref (ma 0), .int v]) (n := 2) (Nat.le_of_ble_eq_true rfl)
  rw [lg_entry_eq]
  generalize (lg_sl ([.ref (ma 0), .int v]) ++ List.replicate (2 - (lg_sl ([.ref (ma 0), .int v])).length) Slot.unset).toArray = ls at hl ⊢
  have hl : lv_has ls 2 [(0, .ref (ma 0)), (1, .int v)] := hl
  refine lv_aload_n hx hb dX4_far_0 rfl (lv_at hl 0 rfl) ?_
  refine lv_iload_n hx hb dX4_far_1 rfl (lv_at hl 1 rfl) ?_
  refine z_cMi (is := [0]) (va_runV (As := [.int v]) (rest := []) ⟨hx, hb, hml, hown, hts⟩ (kX4_asks_bad l dC dI cI cZ cH cJ ma now th v (by first | assumption | omega) s.heap.size) (cwV 1 hts gX4_far_X4_asks rfl rfl rfl (by decide +kernel) ⟨Nat.le_of_ble_eq_true rfl, Nat.le_of_ble_eq_true rfl⟩) (zPreV (is := [0]) hK hP hD (by decide) rfl (va_recv hK hP (ci := 4) (q0 := 0) rfl rfl)) rfl rfl hl.1 rfl (lv_room (Nat.le_of_ble_eq_true rfl)) dX4_far_2 ⟨Nat.le_of_ble_eq_true rfl, Nat.le_of_ble_eq_true rfl⟩) hP hD hS hA rfl (by decide) rfl (fun H locs hP hD hS => ?_)
  have hP : va_P (dC, dI) vwCl ([(ma 0, .inr (4, [.int now, .ref (ma 1), .ref (ma 2), .ref (ma 3), .ref (ma 4), .ref (ma 5), .ref (ma 6), .ref (ma 7), .ref (ma 8), .ref (ma 9), .ref (ma 10), .ref (ma 11), .ref (ma 12), .ref (ma 13), .ref (ma 14), .ref (ma 15), .ref (ma 16), .ref (ma 17), .ref (ma 18), .ref (ma 19), .ref (ma 20), .int 1]))]) H := hP
  have hD : va_D A ([(ma 0, .inr (4, [.int now, .ref (ma 1), .ref (ma 2), .ref (ma 3), .ref (ma 4), .ref (ma 5), .ref (ma 6), .ref (ma 7), .ref (ma 8), .ref (ma 9), .ref (ma 10), .ref (ma 11), .ref (ma 12), .ref (ma 13), .ref (ma 14), .ref (ma 15), .ref (ma 16), .ref (ma 17), .ref (ma 18), .ref (ma 19), .ref (ma 20), .int 1]))]) := hD
  refine z_tv (v := 0) rfl ?_
  refine lv_if_eq (tgt := 17) hx hb dX4_far_5 (by decide) (fun c_5 => ?_) (fun c_5 => ?_)
  · skip
    refine lv_iconst (v := 0) hx hb dX4_far_17 (by decide) ?_
    exact W.iret hx hb hr (fun t ht hW => ⟨rfl, ⟨by rw [ht]; exact hP, hD⟩, hS.F ht⟩) hS.2.2 dX4_far_18
  · exact absurd c_5 (by decide)
set_option maxHeartbeats 4000000 in
set_option maxRecDepth 100000 in
/-- Model.told_ok -/
theorem kX4_told_ok (l : Launch) (dC : Nat → ClassId) (dI : Nat → Nat → Nat) (cI cZ cH cJ : ClassId) (ma : Nat → Nat) (now : Int32) (th : Int32) (uK : zI) (ca : Nat) (hca : ca < 4) (sz : Nat) : Met l yX4_told wsX4_told ({ frames := 3, cells := 0, slots := 0, locals := 63 }) (zPc dC dI (zTy cI cZ cH cJ) [.ref (ma 0), .int (nI ca)] sz ([(ma 0, .inr (4, [.int now, .ref (ma 1), .ref (ma 2), .ref (ma 3), .ref (ma 4), .ref (ma 5), .ref (ma 6), .ref (ma 7), .ref (ma 8), .ref (ma 9), .ref (ma 10), .ref (ma 11), .ref (ma 12), .ref (ma 13), .ref (ma 14), .ref (ma 15), .ref (ma 16), .ref (ma 17), .ref (ma 18), .ref (ma 19), .ref (ma 20), .int th])), (ma 3, .inl (cI, 80, .inl uK))])) (zQi dC dI (ycnt uK 2 (20 * ca) 20) ([(ma 0, .inr (4, [.int now, .ref (ma 1), .ref (ma 2), .ref (ma 3), .ref (ma 4), .ref (ma 5), .ref (ma 6), .ref (ma 7), .ref (ma 8), .ref (ma 9), .ref (ma 10), .ref (ma 11), .ref (ma 12), .ref (ma 13), .ref (ma 14), .ref (ma 15), .ref (ma 16), .ref (ma 17), .ref (ma 18), .ref (ma 19), .ref (ma 20), .int 0])), (ma 3, .inl (cI, 80, .inl uK))]) (va_A ([(ma 0, .inr (4, [.int now, .ref (ma 1), .ref (ma 2), .ref (ma 3), .ref (ma 4), .ref (ma 5), .ref (ma 6), .ref (ma 7), .ref (ma 8), .ref (ma 9), .ref (ma 10), .ref (ma 11), .ref (ma 12), .ref (ma 13), .ref (ma 14), .ref (ma 15), .ref (ma 16), .ref (ma 17), .ref (ma 18), .ref (ma 19), .ref (ma 20), .int th])), (ma 3, .inl (cI, 80, .inl uK))]) sz)) 0 0 (va_A ([(ma 0, .inr (4, [.int now, .ref (ma 1), .ref (ma 2), .ref (ma 3), .ref (ma 4), .ref (ma 5), .ref (ma 6), .ref (ma 7), .ref (ma 8), .ref (ma 9), .ref (ma 10), .ref (ma 11), .ref (ma 12), .ref (ma 13), .ref (ma 14), .ref (ma 15), .ref (ma 16), .ref (ma 17), .ref (ma 18), .ref (ma 19), .ref (ma 20), .int th])), (ma 3, .inl (cI, 80, .inl uK))]) sz) := by
  refine Met.ofW (cc := cX4_told) (maxL := 2) (ret := (some .int)) (by decide) rfl ?_
  intro p e s m args below meth c s₁ B hml hv0
  obtain ⟨rfl, hsz, hP, hK, hD0⟩ := hv0
  have hx := B.exec
  have hb := B.bytes
  have hr := B.returns
  have hts := atoms_spec (ws := wsX4_told) B.pre
  have hown : s.vm.findClass RX4 = some m.cls := findClass_of_methodNamed B.named
  have hlocks := B.notSynchronized
  subst hsz
  have hD := hD0.self (sz := s.heap.size)
  generalize hAe : va_A ([(ma 0, .inr (4, [.int now, .ref (ma 1), .ref (ma 2), .ref (ma 3), .ref (ma 4), .ref (ma 5), .ref (ma 6), .ref (ma 7), .ref (ma 8), .ref (ma 9), .ref (ma 10), .ref (ma 11), .ref (ma 12), .ref (ma 13), .ref (ma 14), .ref (ma 15), .ref (ma 16), .ref (ma 17), .ref (ma 18), .ref (ma 19), .ref (ma 20), .int th])), (ma 3, .inl (cI, 80, .inl uK))]) s.heap.size = A at hD ⊢
  have hA : ∀ q : Nat, s.heap.size ≤ q → A q := fun q h => by rw [← hAe]; exact Or.inr h
  have hS : va_S A s.heap s.heap [] := va_S.rf
  have hl := lv_entry ([.ref (ma 0), .int (nI ca)]) (n := 2) (Nat.le_of_ble_eq_true rfl)
  rw [lg_entry_eq]
  generalize (lg_sl ([.ref (ma 0), .int (nI ca)]) ++ List.replicate (2 - (lg_sl ([.ref (ma 0), .int (nI ca)])).length) Slot.unset).toArray = ls at hl ⊢
  have hl : lv_has ls 2 [(0, .ref (ma 0)), (1, .int (nI ca))] := hl
  refine lv_aload_n hx hb dX4_told_0 rfl (lv_at hl 0 rfl) ?_
  refine lv_iload_n hx hb dX4_told_1 rfl (lv_at hl 1 rfl) ?_
  refine z_cMi (is := [0]) (va_runV (As := [.int (nI ca)]) (rest := []) ⟨hx, hb, hml, hown, hts⟩ (kX4_asks_ok l dC dI cI cZ cH cJ ma now th ca (by first | assumption | omega) s.heap.size) (cwV 1 hts gX4_told_X4_asks rfl rfl rfl (by decide +kernel) ⟨Nat.le_of_ble_eq_true rfl, Nat.le_of_ble_eq_true rfl⟩) (zPreV (is := [0]) hK hP hD (by decide) rfl (va_recv hK hP (ci := 4) (q0 := 0) rfl rfl)) rfl rfl hl.1 rfl (lv_room (Nat.le_of_ble_eq_true rfl)) dX4_told_2 ⟨Nat.le_of_ble_eq_true rfl, Nat.le_of_ble_eq_true rfl⟩) hP hD hS hA rfl (by decide) rfl (fun H locs hP hD hS => ?_)
  have hP : va_P (dC, dI) vwCl ([(ma 0, .inr (4, [.int now, .ref (ma 1), .ref (ma 2), .ref (ma 3), .ref (ma 4), .ref (ma 5), .ref (ma 6), .ref (ma 7), .ref (ma 8), .ref (ma 9), .ref (ma 10), .ref (ma 11), .ref (ma 12), .ref (ma 13), .ref (ma 14), .ref (ma 15), .ref (ma 16), .ref (ma 17), .ref (ma 18), .ref (ma 19), .ref (ma 20), .int 0])), (ma 3, .inl (cI, 80, .inl uK))]) H := hP
  have hD : va_D A ([(ma 0, .inr (4, [.int now, .ref (ma 1), .ref (ma 2), .ref (ma 3), .ref (ma 4), .ref (ma 5), .ref (ma 6), .ref (ma 7), .ref (ma 8), .ref (ma 9), .ref (ma 10), .ref (ma 11), .ref (ma 12), .ref (ma 13), .ref (ma 14), .ref (ma 15), .ref (ma 16), .ref (ma 17), .ref (ma 18), .ref (ma 19), .ref (ma 20), .int 0])), (ma 3, .inl (cI, 80, .inl uK))]) := hD
  refine z_tv (v := 1) rfl ?_
  refine lv_if_eq (tgt := 17) hx hb dX4_told_5 (by decide) (fun c_5 => ?_) (fun c_5 => ?_)
  · exact absurd c_5 (by decide)
  · skip
    refine lv_aload_n hx hb dX4_told_8 rfl (lv_at hl 0 rfl) ?_
    refine lv_iload_n hx hb dX4_told_9 rfl (lv_at hl 1 rfl) ?_
    refine lv_iconst (v := 2) hx hb dX4_told_10 (by decide) ?_
    refine z_cRi (va_runV (As := [.int (nI ca), .int 2]) (rest := []) ⟨hx, hb, hml, hown, hts⟩ (kX4_count l dC dI cI cZ cH cJ ma now 0 uK ca (by first | assumption | omega) 2) (cwV 2 hts gX4_told_X4_count rfl rfl rfl (by decide +kernel) ⟨Nat.le_of_ble_eq_true rfl, Nat.le_of_ble_eq_true rfl⟩) (zPreR (is := [0, 1]) hK hP rfl (va_recv hK hP (ci := 4) (q0 := 0) rfl rfl)) rfl rfl hl.1 rfl (lv_room (Nat.le_of_ble_eq_true rfl)) dX4_told_11 ⟨Nat.le_of_ble_eq_true rfl, Nat.le_of_ble_eq_true rfl⟩) ?_
    refine z_tv (v := ycnt uK 2 (20 * ca) 20) rfl ?_
    refine lv_goto (tgt := 18) hx hb dX4_told_14 (by decide) ?_
    exact W.iret hx hb hr (fun t ht hW => ⟨rfl, ⟨by rw [ht]; exact hP, hD⟩, hS.F ht⟩) hS.2.2 dX4_told_18
set_option maxHeartbeats 4000000 in
set_option maxRecDepth 100000 in
/-- Model.told_bad -/
theorem kX4_told_bad (l : Launch) (dC : Nat → ClassId) (dI : Nat → Nat → Nat) (cI cZ cH cJ : ClassId) (ma : Nat → Nat) (now : Int32) (th : Int32) (v : Int32) (hv : ¬ zin v 0 3 = 1) (sz : Nat) : Met l yX4_told wsX4_told ({ frames := 3, cells := 0, slots := 0, locals := 63 }) (zPc dC dI (zTy cI cZ cH cJ) [.ref (ma 0), .int v] sz ([(ma 0, .inr (4, [.int now, .ref (ma 1), .ref (ma 2), .ref (ma 3), .ref (ma 4), .ref (ma 5), .ref (ma 6), .ref (ma 7), .ref (ma 8), .ref (ma 9), .ref (ma 10), .ref (ma 11), .ref (ma 12), .ref (ma 13), .ref (ma 14), .ref (ma 15), .ref (ma 16), .ref (ma 17), .ref (ma 18), .ref (ma 19), .ref (ma 20), .int th]))])) (zQi dC dI 0 ([(ma 0, .inr (4, [.int now, .ref (ma 1), .ref (ma 2), .ref (ma 3), .ref (ma 4), .ref (ma 5), .ref (ma 6), .ref (ma 7), .ref (ma 8), .ref (ma 9), .ref (ma 10), .ref (ma 11), .ref (ma 12), .ref (ma 13), .ref (ma 14), .ref (ma 15), .ref (ma 16), .ref (ma 17), .ref (ma 18), .ref (ma 19), .ref (ma 20), .int 1]))]) (va_A ([(ma 0, .inr (4, [.int now, .ref (ma 1), .ref (ma 2), .ref (ma 3), .ref (ma 4), .ref (ma 5), .ref (ma 6), .ref (ma 7), .ref (ma 8), .ref (ma 9), .ref (ma 10), .ref (ma 11), .ref (ma 12), .ref (ma 13), .ref (ma 14), .ref (ma 15), .ref (ma 16), .ref (ma 17), .ref (ma 18), .ref (ma 19), .ref (ma 20), .int th]))]) sz)) 0 0 (va_A ([(ma 0, .inr (4, [.int now, .ref (ma 1), .ref (ma 2), .ref (ma 3), .ref (ma 4), .ref (ma 5), .ref (ma 6), .ref (ma 7), .ref (ma 8), .ref (ma 9), .ref (ma 10), .ref (ma 11), .ref (ma 12), .ref (ma 13), .ref (ma 14), .ref (ma 15), .ref (ma 16), .ref (ma 17), .ref (ma 18), .ref (ma 19), .ref (ma 20), .int th]))]) sz) := by
  refine Met.ofW (cc := cX4_told) (maxL := 2) (ret := (some .int)) (by decide) rfl ?_
  intro p e s m args below meth c s₁ B hml hv0
  obtain ⟨rfl, hsz, hP, hK, hD0⟩ := hv0
  have hx := B.exec
  have hb := B.bytes
  have hr := B.returns
  have hts := atoms_spec (ws := wsX4_told) B.pre
  have hown : s.vm.findClass RX4 = some m.cls := findClass_of_methodNamed B.named
  have hlocks := B.notSynchronized
  subst hsz
  have hD := hD0.self (sz := s.heap.size)
  generalize hAe : va_A ([(ma 0, .inr (4, [.int now, .ref (ma 1), .ref (ma 2), .ref (ma 3), .ref (ma 4), .ref (ma 5), .ref (ma 6), .ref (ma 7), .ref (ma 8), .ref (ma 9), .ref (ma 10), .ref (ma 11), .ref (ma 12), .ref (ma 13), .ref (ma 14), .ref (ma 15), .ref (ma 16), .ref (ma 17), .ref (ma 18), .ref (ma 19), .ref (ma 20), .int th]))]) s.heap.size = A at hD ⊢
  have hA : ∀ q : Nat, s.heap.size ≤ q → A q := fun q h => by rw [← hAe]; exact Or.inr h
  have hS : va_S A s.heap s.heap [] := va_S.rf
  have hl := lv_entry ([.ref (ma 0), .int v]) (n := 2) (Nat.le_of_ble_eq_true rfl)
  rw [lg_entry_eq]
  generalize (lg_sl ([.ref (ma 0), .int v]) ++ List.replicate (2 - (lg_sl ([.ref (ma 0), .int v])).length) Slot.unset).toArray = ls at hl ⊢
  have hl : lv_has ls 2 [(0, .ref (ma 0)), (1, .int v)] := hl
  refine lv_aload_n hx hb dX4_told_0 rfl (lv_at hl 0 rfl) ?_
  refine lv_iload_n hx hb dX4_told_1 rfl (lv_at hl 1 rfl) ?_
  refine z_cMi (is := [0]) (va_runV (As := [.int v]) (rest := []) ⟨hx, hb, hml, hown, hts⟩ (kX4_asks_bad l dC dI cI cZ cH cJ ma now th v (by first | assumption | omega) s.heap.size) (cwV 1 hts gX4_told_X4_asks rfl rfl rfl (by decide +kernel) ⟨Nat.le_of_ble_eq_true rfl, Nat.le_of_ble_eq_true rfl⟩) (zPreV (is := [0]) hK hP hD (by decide) rfl (va_recv hK hP (ci := 4) (q0 := 0) rfl rfl)) rfl rfl hl.1 rfl (lv_room (Nat.le_of_ble_eq_true rfl)) dX4_told_2 ⟨Nat.le_of_ble_eq_true rfl, Nat.le_of_ble_eq_true rfl⟩) hP hD hS hA rfl (by decide) rfl (fun H locs hP hD hS => ?_)
  have hP : va_P (dC, dI) vwCl ([(ma 0, .inr (4, [.int now, .ref (ma 1), .ref (ma 2), .ref (ma 3), .ref (ma 4), .ref (ma 5), .ref (ma 6), .ref (ma 7), .ref (ma 8), .ref (ma 9), .ref (ma 10), .ref (ma 11), .ref (ma 12), .ref (ma 13), .ref (ma 14), .ref (ma 15), .ref (ma 16), .ref (ma 17), .ref (ma 18), .ref (ma 19), .ref (ma 20), .int 1]))]) H := hP
  have hD : va_D A ([(ma 0, .inr (4, [.int now, .ref (ma 1), .ref (ma 2), .ref (ma 3), .ref (ma 4), .ref (ma 5), .ref (ma 6), .ref (ma 7), .ref (ma 8), .ref (ma 9), .ref (ma 10), .ref (ma 11), .ref (ma 12), .ref (ma 13), .ref (ma 14), .ref (ma 15), .ref (ma 16), .ref (ma 17), .ref (ma 18), .ref (ma 19), .ref (ma 20), .int 1]))]) := hD
  refine z_tv (v := 0) rfl ?_
  refine lv_if_eq (tgt := 17) hx hb dX4_told_5 (by decide) (fun c_5 => ?_) (fun c_5 => ?_)
  · skip
    refine lv_iconst (v := 0) hx hb dX4_told_17 (by decide) ?_
    exact W.iret hx hb hr (fun t ht hW => ⟨rfl, ⟨by rw [ht]; exact hP, hD⟩, hS.F ht⟩) hS.2.2 dX4_told_18
  · exact absurd c_5 (by decide)
set_option maxHeartbeats 4000000 in
set_option maxRecDepth 100000 in
/-- Model.mark_ok -/
theorem kX4_mark_ok (l : Launch) (dC : Nat → ClassId) (dI : Nat → Nat → Nat) (cI cZ cH cJ : ClassId) (ma : Nat → Nat) (now : Int32) (th : Int32) (uM : zI) (ca : Nat) (hca : ca < 4) (sz : Nat) : Met l yX4_mark wsX4_mark ({ frames := 3, cells := 0, slots := 0, locals := 63 }) (zPc dC dI (zTy cI cZ cH cJ) [.ref (ma 0), .int (nI ca)] sz ([(ma 0, .inr (4, [.int now, .ref (ma 1), .ref (ma 2), .ref (ma 3), .ref (ma 4), .ref (ma 5), .ref (ma 6), .ref (ma 7), .ref (ma 8), .ref (ma 9), .ref (ma 10), .ref (ma 11), .ref (ma 12), .ref (ma 13), .ref (ma 14), .ref (ma 15), .ref (ma 16), .ref (ma 17), .ref (ma 18), .ref (ma 19), .ref (ma 20), .int th])), (ma 8, .inl (cI, 4, .inl uM))])) (zQi dC dI (uM ca) ([(ma 0, .inr (4, [.int now, .ref (ma 1), .ref (ma 2), .ref (ma 3), .ref (ma 4), .ref (ma 5), .ref (ma 6), .ref (ma 7), .ref (ma 8), .ref (ma 9), .ref (ma 10), .ref (ma 11), .ref (ma 12), .ref (ma 13), .ref (ma 14), .ref (ma 15), .ref (ma 16), .ref (ma 17), .ref (ma 18), .ref (ma 19), .ref (ma 20), .int 0])), (ma 8, .inl (cI, 4, .inl uM))]) (va_A ([(ma 0, .inr (4, [.int now, .ref (ma 1), .ref (ma 2), .ref (ma 3), .ref (ma 4), .ref (ma 5), .ref (ma 6), .ref (ma 7), .ref (ma 8), .ref (ma 9), .ref (ma 10), .ref (ma 11), .ref (ma 12), .ref (ma 13), .ref (ma 14), .ref (ma 15), .ref (ma 16), .ref (ma 17), .ref (ma 18), .ref (ma 19), .ref (ma 20), .int th])), (ma 8, .inl (cI, 4, .inl uM))]) sz)) 0 0 (va_A ([(ma 0, .inr (4, [.int now, .ref (ma 1), .ref (ma 2), .ref (ma 3), .ref (ma 4), .ref (ma 5), .ref (ma 6), .ref (ma 7), .ref (ma 8), .ref (ma 9), .ref (ma 10), .ref (ma 11), .ref (ma 12), .ref (ma 13), .ref (ma 14), .ref (ma 15), .ref (ma 16), .ref (ma 17), .ref (ma 18), .ref (ma 19), .ref (ma 20), .int th])), (ma 8, .inl (cI, 4, .inl uM))]) sz) := by
  refine Met.ofW (cc := cX4_mark) (maxL := 2) (ret := (some .int)) (by decide) rfl ?_
  intro p e s m args below meth c s₁ B hml hv0
  obtain ⟨rfl, hsz, hP, hK, hD0⟩ := hv0
  have hx := B.exec
  have hb := B.bytes
  have hr := B.returns
  have hts := atoms_spec (ws := wsX4_mark) B.pre
  have hown : s.vm.findClass RX4 = some m.cls := findClass_of_methodNamed B.named
  have hlocks := B.notSynchronized
  subst hsz
  have hD := hD0.self (sz := s.heap.size)
  generalize hAe : va_A ([(ma 0, .inr (4, [.int now, .ref (ma 1), .ref (ma 2), .ref (ma 3), .ref (ma 4), .ref (ma 5), .ref (ma 6), .ref (ma 7), .ref (ma 8), .ref (ma 9), .ref (ma 10), .ref (ma 11), .ref (ma 12), .ref (ma 13), .ref (ma 14), .ref (ma 15), .ref (ma 16), .ref (ma 17), .ref (ma 18), .ref (ma 19), .ref (ma 20), .int th])), (ma 8, .inl (cI, 4, .inl uM))]) s.heap.size = A at hD ⊢
  have hA : ∀ q : Nat, s.heap.size ≤ q → A q := fun q h => by rw [← hAe]; exact Or.inr h
  have hS : va_S A s.heap s.heap [] := va_S.rf
  have hl := lv_entry ([.ref (ma 0), .int (nI ca)]) (n := 2) (Nat.le_of_ble_eq_true rfl)
  rw [lg_entry_eq]
  generalize (lg_sl ([.ref (ma 0), .int (nI ca)]) ++ List.replicate (2 - (lg_sl ([.ref (ma 0), .int (nI ca)])).length) Slot.unset).toArray = ls at hl ⊢
  have hl : lv_has ls 2 [(0, .ref (ma 0)), (1, .int (nI ca))] := hl
  have hiX4 : ∀ w ∈ wsX40, w ∈ wsX4_mark := by decide +kernel
  have l31 := hts (.fieldLink RX4 31 "CatalogueHarvesterModel" "marks" "[I") (by decide +kernel)
  refine lv_aload_n hx hb dX4_mark_0 rfl (lv_at hl 0 rfl) ?_
  refine lv_iload_n hx hb dX4_mark_1 rfl (lv_at hl 1 rfl) ?_
  refine z_cMi (is := [0]) (va_runV (As := [.int (nI ca)]) (rest := []) ⟨hx, hb, hml, hown, hts⟩ (kX4_asks_ok l dC dI cI cZ cH cJ ma now th ca (by first | assumption | omega) s.heap.size) (cwV 1 hts gX4_mark_X4_asks rfl rfl rfl (by decide +kernel) ⟨Nat.le_of_ble_eq_true rfl, Nat.le_of_ble_eq_true rfl⟩) (zPreV (is := [0]) hK hP hD (by decide) rfl (va_recv hK hP (ci := 4) (q0 := 0) rfl rfl)) rfl rfl hl.1 rfl (lv_room (Nat.le_of_ble_eq_true rfl)) dX4_mark_2 ⟨Nat.le_of_ble_eq_true rfl, Nat.le_of_ble_eq_true rfl⟩) hP hD hS hA rfl (by decide) rfl (fun H locs hP hD hS => ?_)
  have hP : va_P (dC, dI) vwCl ([(ma 0, .inr (4, [.int now, .ref (ma 1), .ref (ma 2), .ref (ma 3), .ref (ma 4), .ref (ma 5), .ref (ma 6), .ref (ma 7), .ref (ma 8), .ref (ma 9), .ref (ma 10), .ref (ma 11), .ref (ma 12), .ref (ma 13), .ref (ma 14), .ref (ma 15), .ref (ma 16), .ref (ma 17), .ref (ma 18), .ref (ma 19), .ref (ma 20), .int 0])), (ma 8, .inl (cI, 4, .inl uM))]) H := hP
  have hD : va_D A ([(ma 0, .inr (4, [.int now, .ref (ma 1), .ref (ma 2), .ref (ma 3), .ref (ma 4), .ref (ma 5), .ref (ma 6), .ref (ma 7), .ref (ma 8), .ref (ma 9), .ref (ma 10), .ref (ma 11), .ref (ma 12), .ref (ma 13), .ref (ma 14), .ref (ma 15), .ref (ma 16), .ref (ma 17), .ref (ma 18), .ref (ma 19), .ref (ma 20), .int 0])), (ma 8, .inl (cI, 4, .inl uM))]) := hD
  refine z_tv (v := 1) rfl ?_
  refine lv_if_eq (tgt := 17) hx hb dX4_mark_5 (by decide) (fun c_5 => ?_) (fun c_5 => ?_)
  · exact absurd c_5 (by decide)
  · skip
    refine lv_aload_n hx hb dX4_mark_8 rfl (lv_at hl 0 rfl) ?_
    refine va_get (D := (dC, dI)) (ci := 4) (v := .ref (ma 8)) (C := RX4) (T := TX4) (N := 22) hx hb hts hiX4 hown hK hP 0 rfl rfl 8 (by decide) l31 (fun _ h9 => h9) rfl dX4_mark_9 ?_
    refine lv_iload_n hx hb dX4_mark_12 rfl (lv_at hl 1 rfl) ?_
    refine z_iald hx hb hK hP 1 rfl (zix_nI (by first | assumption | omega) (by decide)) dX4_mark_13 ?_
    refine z_tv (v := uM ca) (rfl) ?_
    refine lv_goto (tgt := 18) hx hb dX4_mark_14 (by decide) ?_
    exact W.iret hx hb hr (fun t ht hW => ⟨rfl, ⟨by rw [ht]; exact hP, hD⟩, hS.F ht⟩) hS.2.2 dX4_mark_18
set_option maxHeartbeats 4000000 in
set_option maxRecDepth 100000 in
/-- Model.mark_bad -/
theorem kX4_mark_bad (l : Launch) (dC : Nat → ClassId) (dI : Nat → Nat → Nat) (cI cZ cH cJ : ClassId) (ma : Nat → Nat) (now : Int32) (th : Int32) (v : Int32) (hv : ¬ zin v 0 3 = 1) (sz : Nat) : Met l yX4_mark wsX4_mark ({ frames := 3, cells := 0, slots := 0, locals := 63 }) (zPc dC dI (zTy cI cZ cH cJ) [.ref (ma 0), .int v] sz ([(ma 0, .inr (4, [.int now, .ref (ma 1), .ref (ma 2), .ref (ma 3), .ref (ma 4), .ref (ma 5), .ref (ma 6), .ref (ma 7), .ref (ma 8), .ref (ma 9), .ref (ma 10), .ref (ma 11), .ref (ma 12), .ref (ma 13), .ref (ma 14), .ref (ma 15), .ref (ma 16), .ref (ma 17), .ref (ma 18), .ref (ma 19), .ref (ma 20), .int th]))])) (zQi dC dI 0 ([(ma 0, .inr (4, [.int now, .ref (ma 1), .ref (ma 2), .ref (ma 3), .ref (ma 4), .ref (ma 5), .ref (ma 6), .ref (ma 7), .ref (ma 8), .ref (ma 9), .ref (ma 10), .ref (ma 11), .ref (ma 12), .ref (ma 13), .ref (ma 14), .ref (ma 15), .ref (ma 16), .ref (ma 17), .ref (ma 18), .ref (ma 19), .ref (ma 20), .int 1]))]) (va_A ([(ma 0, .inr (4, [.int now, .ref (ma 1), .ref (ma 2), .ref (ma 3), .ref (ma 4), .ref (ma 5), .ref (ma 6), .ref (ma 7), .ref (ma 8), .ref (ma 9), .ref (ma 10), .ref (ma 11), .ref (ma 12), .ref (ma 13), .ref (ma 14), .ref (ma 15), .ref (ma 16), .ref (ma 17), .ref (ma 18), .ref (ma 19), .ref (ma 20), .int th]))]) sz)) 0 0 (va_A ([(ma 0, .inr (4, [.int now, .ref (ma 1), .ref (ma 2), .ref (ma 3), .ref (ma 4), .ref (ma 5), .ref (ma 6), .ref (ma 7), .ref (ma 8), .ref (ma 9), .ref (ma 10), .ref (ma 11), .ref (ma 12), .ref (ma 13), .ref (ma 14), .ref (ma 15), .ref (ma 16), .ref (ma 17), .ref (ma 18), .ref (ma 19), .ref (ma 20), .int th]))]) sz) := by
  refine Met.ofW (cc := cX4_mark) (maxL := 2) (ret := (some .int)) (by decide) rfl ?_
  intro p e s m args below meth c s₁ B hml hv0
  obtain ⟨rfl, hsz, hP, hK, hD0⟩ := hv0
  have hx := B.exec
  have hb := B.bytes
  have hr := B.returns
  have hts := atoms_spec (ws := wsX4_mark) B.pre
  have hown : s.vm.findClass RX4 = some m.cls := findClass_of_methodNamed B.named
  have hlocks := B.notSynchronized
  subst hsz
  have hD := hD0.self (sz := s.heap.size)
  generalize hAe : va_A ([(ma 0, .inr (4, [.int now, .ref (ma 1), .ref (ma 2), .ref (ma 3), .ref (ma 4), .ref (ma 5), .ref (ma 6), .ref (ma 7), .ref (ma 8), .ref (ma 9), .ref (ma 10), .ref (ma 11), .ref (ma 12), .ref (ma 13), .ref (ma 14), .ref (ma 15), .ref (ma 16), .ref (ma 17), .ref (ma 18), .ref (ma 19), .ref (ma 20), .int th]))]) s.heap.size = A at hD ⊢
  have hA : ∀ q : Nat, s.heap.size ≤ q → A q := fun q h => by rw [← hAe]; exact Or.inr h
  have hS : va_S A s.heap s.heap [] := va_S.rf
  have hl := lv_entry ([.ref (ma 0), .int v]) (n := 2) (Nat.le_of_ble_eq_true rfl)
  rw [lg_entry_eq]
  generalize (lg_sl ([.ref (ma 0), .int v]) ++ List.replicate (2 - (lg_sl ([.ref (ma 0), .int v])).length) Slot.unset).toArray = ls at hl ⊢
  have hl : lv_has ls 2 [(0, .ref (ma 0)), (1, .int v)] := hl
  refine lv_aload_n hx hb dX4_mark_0 rfl (lv_at hl 0 rfl) ?_
  refine lv_iload_n hx hb dX4_mark_1 rfl (lv_at hl 1 rfl) ?_
  refine z_cMi (is := [0]) (va_runV (As := [.int v]) (rest := []) ⟨hx, hb, hml, hown, hts⟩ (kX4_asks_bad l dC dI cI cZ cH cJ ma now th v (by first | assumption | omega) s.heap.size) (cwV 1 hts gX4_mark_X4_asks rfl rfl rfl (by decide +kernel) ⟨Nat.le_of_ble_eq_true rfl, Nat.le_of_ble_eq_true rfl⟩) (zPreV (is := [0]) hK hP hD (by decide) rfl (va_recv hK hP (ci := 4) (q0 := 0) rfl rfl)) rfl rfl hl.1 rfl (lv_room (Nat.le_of_ble_eq_true rfl)) dX4_mark_2 ⟨Nat.le_of_ble_eq_true rfl, Nat.le_of_ble_eq_true rfl⟩) hP hD hS hA rfl (by decide) rfl (fun H locs hP hD hS => ?_)
  have hP : va_P (dC, dI) vwCl ([(ma 0, .inr (4, [.int now, .ref (ma 1), .ref (ma 2), .ref (ma 3), .ref (ma 4), .ref (ma 5), .ref (ma 6), .ref (ma 7), .ref (ma 8), .ref (ma 9), .ref (ma 10), .ref (ma 11), .ref (ma 12), .ref (ma 13), .ref (ma 14), .ref (ma 15), .ref (ma 16), .ref (ma 17), .ref (ma 18), .ref (ma 19), .ref (ma 20), .int 1]))]) H := hP
  have hD : va_D A ([(ma 0, .inr (4, [.int now, .ref (ma 1), .ref (ma 2), .ref (ma 3), .ref (ma 4), .ref (ma 5), .ref (ma 6), .ref (ma 7), .ref (ma 8), .ref (ma 9), .ref (ma 10), .ref (ma 11), .ref (ma 12), .ref (ma 13), .ref (ma 14), .ref (ma 15), .ref (ma 16), .ref (ma 17), .ref (ma 18), .ref (ma 19), .ref (ma 20), .int 1]))]) := hD
  refine z_tv (v := 0) rfl ?_
  refine lv_if_eq (tgt := 17) hx hb dX4_mark_5 (by decide) (fun c_5 => ?_) (fun c_5 => ?_)
  · skip
    refine lv_iconst (v := 0) hx hb dX4_mark_17 (by decide) ?_
    exact W.iret hx hb hr (fun t ht hW => ⟨rfl, ⟨by rw [ht]; exact hP, hD⟩, hS.F ht⟩) hS.2.2 dX4_mark_18
  · exact absurd c_5 (by decide)
