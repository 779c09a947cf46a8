def zbs (p q : Int32 × Int32) (sS : zI) (i : Int32) : Int32 × Int32 := if q.1 = -1 then p else if sS q.1.toNatClampNeg ≤ p.2 then p else (100 * i + q.1, sS q.1.toNatClampNeg)
theorem zlat_in (T W S : zI) (w : Int32) : ∀ n, (zlat T W S w n).1 = -1 ∨ ∃ r, r < n ∧ (zlat T W S w n).1 = nI r
  | 0 => Or.inl rfl
  | n + 1 => by
    rcases zlat_in T W S w n with h | ⟨r, h1, h2⟩ <;> unfold zlat <;> (repeat' split) <;> first | exact Or.inl h | exact Or.inr ⟨n, Nat.lt_succ_self n, rfl⟩ | exact Or.inr ⟨r, Nat.lt_succ_of_lt h1, h2⟩
theorem zlat_ix {T W S : zI} {w : Int32} (h : ¬ (zlat T W S w 20).1 = -1) : zix (zlat T W S w 20).1 20 (zlat T W S w 20).1.toNatClampNeg := by
  obtain ⟨r, h1, h2⟩ := (zlat_in T W S w 20).resolve_left h
  rw [h2]
  have h3 := zix_nI (j := r) (n := 20) h1 (by decide)
  exact ⟨h3.1, rfl⟩
set_option maxHeartbeats 4000000 in
set_option maxRecDepth 100000 in
/-- best -/
theorem kX3_best_ok (l : Launch) (dC : Nat → ClassId) (dI : Nat → Nat → Nat) (cI cZ cH cJ : ClassId) (x0 : Nat) (xq : Nat) (now : Int32) (xg : Nat → Option Nat) (had : Nat → Nat → Nat) (hg : ∀ i, i < 4 → xg i = some (had i 0)) (mk0 : Int32) (ho0 : Int32) (fl0 : Int32) (od0 : Int32) (td0 : Int32) (ps0 : Int32) (pr0 : Int32) (sT0 : zI) (sW0 : zI) (sV0 : zI) (sS0 : zI) (mk1 : Int32) (ho1 : Int32) (fl1 : Int32) (od1 : Int32) (td1 : Int32) (ps1 : Int32) (pr1 : Int32) (sT1 : zI) (sW1 : zI) (sV1 : zI) (sS1 : zI) (mk2 : Int32) (ho2 : Int32) (fl2 : Int32) (od2 : Int32) (td2 : Int32) (ps2 : Int32) (pr2 : Int32) (sT2 : zI) (sW2 : zI) (sV2 : zI) (sS2 : zI) (mk3 : Int32) (ho3 : Int32) (fl3 : Int32) (od3 : Int32) (td3 : Int32) (ps3 : Int32) (pr3 : Int32) (sT3 : zI) (sW3 : zI) (sV3 : zI) (sS3 : zI) (w : Int32) (hw1 : zin w 0 9 = 1) : Met l yX3_best wsX3_best ({ frames := 1, cells := 0, slots := 0, locals := 24 }) (zRc dC dI (zTy cI cZ cH cJ) [.ref x0, .int w] ([(x0, .inr (3, [.ref xq, .int now])), (xq, .inl (cH, 4, .inr (.inr (.inr (.inr xg))))), (had 0 0, .inr (1, [.ref (had 0 1), .ref (had 0 2), .int mk0, .int ho0, .int fl0, .int od0, .int td0, .int ps0, .int pr0, .ref (had 0 3)])), (had 0 2, .inr (2, [.ref (had 0 8), .ref (had 0 9), .ref (had 0 10), .ref (had 0 11)])), (had 0 8, .inl (cZ, 20, .inl sT0)), (had 0 9, .inl (cI, 20, .inl sW0)), (had 0 10, .inl (cI, 20, .inl sV0)), (had 0 11, .inl (cI, 20, .inl sS0)), (had 1 0, .inr (1, [.ref (had 1 1), .ref (had 1 2), .int mk1, .int ho1, .int fl1, .int od1, .int td1, .int ps1, .int pr1, .ref (had 1 3)])), (had 1 2, .inr (2, [.ref (had 1 8), .ref (had 1 9), .ref (had 1 10), .ref (had 1 11)])), (had 1 8, .inl (cZ, 20, .inl sT1)), (had 1 9, .inl (cI, 20, .inl sW1)), (had 1 10, .inl (cI, 20, .inl sV1)), (had 1 11, .inl (cI, 20, .inl sS1)), (had 2 0, .inr (1, [.ref (had 2 1), .ref (had 2 2), .int mk2, .int ho2, .int fl2, .int od2, .int td2, .int ps2, .int pr2, .ref (had 2 3)])), (had 2 2, .inr (2, [.ref (had 2 8), .ref (had 2 9), .ref (had 2 10), .ref (had 2 11)])), (had 2 8, .inl (cZ, 20, .inl sT2)), (had 2 9, .inl (cI, 20, .inl sW2)), (had 2 10, .inl (cI, 20, .inl sV2)), (had 2 11, .inl (cI, 20, .inl sS2)), (had 3 0, .inr (1, [.ref (had 3 1), .ref (had 3 2), .int mk3, .int ho3, .int fl3, .int od3, .int td3, .int ps3, .int pr3, .ref (had 3 3)])), (had 3 2, .inr (2, [.ref (had 3 8), .ref (had 3 9), .ref (had 3 10), .ref (had 3 11)])), (had 3 8, .inl (cZ, 20, .inl sT3)), (had 3 9, .inl (cI, 20, .inl sW3)), (had 3 10, .inl (cI, 20, .inl sV3)), (had 3 11, .inl (cI, 20, .inl sS3))])) (zSi ((zbs (zbs (zbs (zbs (-1, -1) (zlat sT0 sW0 sS0 w 20) sS0 0) (zlat sT1 sW1 sS1 w 20) sS1 1) (zlat sT2 sW2 sS2 w 20) sS2 2) (zlat sT3 sW3 sS3 w 20) sS3 3).1)) 0 0 (fun _ => False) := by
  refine Met.ofW (cc := cX3_best) (maxL := 7) (ret := (some .int)) (by decide) rfl ?_
  intro p e s m args below meth c s₁ B hml hv0
  obtain ⟨rfl, hP, hK⟩ := hv0
  have hx := B.exec
  have hb := B.bytes
  have hr := B.returns
  have hts := atoms_spec (ws := wsX3_best) B.pre
  have hown : s.vm.findClass RX3 = some m.cls := findClass_of_methodNamed B.named
  have hlocks := B.notSynchronized
  have hl := lv_entry ([.ref x0, .int w]) (n := 7) (Nat.le_of_ble_eq_true rfl)
  rw [lg_entry_eq]
  generalize (lg_sl ([.ref x0, .int w]) ++ List.replicate (7 - (lg_sl ([.ref x0, .int w])).length) Slot.unset).toArray = ls at hl ⊢
  have hl : lv_has ls 7 [(0, .ref x0), (1, .int w)] := hl
  have hiX1 : ∀ w ∈ wsX10, w ∈ wsX3_best := by decide +kernel
  have hiX2 : ∀ w ∈ wsX20, w ∈ wsX3_best := by decide +kernel
  have l101 := hts (.fieldLink RX3 101 "CatalogueHarvester$Harvest" "store" "LCatalogueHarvester$Records;") (by decide +kernel)
  have l118 := hts (.fieldLink RX3 118 "CatalogueHarvester$Records" "stamps" "[I") (by decide +kernel)
  refine lv_iload_n hx hb dX3_best_0 rfl (lv_at hl 1 rfl) ?_
  refine lv_iconst (v := 0) hx hb dX3_best_1 (by decide) ?_
  refine lv_bipush (v := 9) hx hb dX3_best_2 (by decide) ?_
  refine z_cRv (va_runS (As := [.int w, .int 0, .int 9]) (rest := []) ⟨hx, hb, hml, hown, hts⟩ (kX3_refuseOutside_ok l w 0 9 (hw1)) (va_cwS 3 hts gX3_best_X3_refuseOutside rfl rfl rfl (by decide +kernel) ⟨Nat.le_of_ble_eq_true rfl, Nat.le_of_ble_eq_true rfl⟩) (zPre0) rfl rfl hl.1 rfl (lv_room (Nat.le_of_ble_eq_true rfl)) dX3_best_4 ⟨Nat.le_of_ble_eq_true rfl, Nat.le_of_ble_eq_true rfl⟩) ?_
  refine lv_iconst (v := (-1)) hx hb dX3_best_7 (by decide) ?_
  refine lv_istore_n (lv' := [(2, .int (-1)), (0, .ref x0), (1, .int w)]) hx hb dX3_best_8 rfl hl (by decide) rfl (fun ls hl => ?_)
  refine lv_iconst (v := (-1)) hx hb dX3_best_9 (by decide) ?_
  refine lv_istore_n (lv' := [(3, .int (-1)), (2, .int (-1)), (0, .ref x0), (1, .int w)]) hx hb dX3_best_10 rfl hl (by decide) rfl (fun ls hl => ?_)
  refine lv_iconst (v := 0) hx hb dX3_best_11 (by decide) ?_
  refine lv_istore (lv' := [(4, .int 0), (3, .int (-1)), (2, .int (-1)), (0, .ref x0), (1, .int w)]) hx hb dX3_best_12 hl (by decide) rfl (fun ls hl => ?_)
  refine lv_iload hx hb dX3_best_14 (lv_at hl 0 rfl) ?_
  refine lv_iconst (v := 4) hx hb dX3_best_16 (by decide) ?_
  refine lv_icmp_ge (tgt := 81) hx hb dX3_best_17 (by decide) (fun c_17 => ?_) (fun c_17 => ?_)
  · exact absurd c_17 (by decide)
  · skip
    refine lv_aload_n hx hb dX3_best_20 rfl (lv_at hl 3 rfl) ?_
    refine lv_iload hx hb dX3_best_21 (lv_at hl 0 rfl) ?_
    refine z_cRr (va_runV (As := [.int 0]) (rest := []) ⟨hx, hb, hml, hown, hts⟩ (kX3_harvestOf_ok l dC dI cI cZ cH cJ x0 xq now xg (had 0 0) 0 (by decide) (hg 0 (by decide))) (cwV 1 hts gX3_best_X3_harvestOf rfl rfl rfl (by decide +kernel) ⟨Nat.le_of_ble_eq_true rfl, Nat.le_of_ble_eq_true rfl⟩) (zPreR (is := [0, 1]) hK hP rfl (va_recv hK hP (ci := 3) (q0 := 0) rfl rfl)) rfl rfl hl.1 rfl (lv_room (Nat.le_of_ble_eq_true rfl)) dX3_best_23 ⟨Nat.le_of_ble_eq_true rfl, Nat.le_of_ble_eq_true rfl⟩) ?_
    refine va_get (D := (dC, dI)) (ci := 1) (v := .ref (had 0 2)) (C := RX1) (T := TX1) (N := 10) hx hb hts hiX1 hown hK hP 2 rfl rfl 1 (by decide) l101 (fun _ h9 => h9) rfl dX3_best_26 ?_
    refine lv_astore (lv' := [(5, .ref (had 0 2)), (4, .int 0), (3, .int (-1)), (2, .int (-1)), (0, .ref x0), (1, .int w)]) hx hb dX3_best_29 hl (by decide) rfl (fun ls hl => ?_)
    refine lv_aload hx hb dX3_best_31 (lv_at hl 0 rfl) ?_
    refine lv_iload_n hx hb dX3_best_33 rfl (lv_at hl 5 rfl) ?_
    refine z_cRi (va_runV (As := [.int w]) (rest := []) ⟨hx, hb, hml, hown, hts⟩ (kX2_latestOfWork l dC dI cI cZ cH cJ (had 0 2) (had 0 8) (had 0 9) (had 0 10) (had 0 11) sT0 sW0 sV0 sS0 w) (cwV 1 hts gX3_best_X2_latestOfWork rfl rfl rfl (by decide +kernel) ⟨Nat.le_of_ble_eq_true rfl, Nat.le_of_ble_eq_true rfl⟩) (zPreR (is := [3, 4, 5, 6, 7]) hK hP rfl (va_recv hK hP (ci := 2) (q0 := 3) rfl rfl)) rfl rfl hl.1 rfl (lv_room (Nat.le_of_ble_eq_true rfl)) dX3_best_34 ⟨Nat.le_of_ble_eq_true rfl, Nat.le_of_ble_eq_true rfl⟩) ?_
    refine z_tv (v := (zlat sT0 sW0 sS0 w 20).1) rfl ?_
    refine lv_istore (lv' := [(6, .int ((zlat sT0 sW0 sS0 w 20).1)), (5, .ref (had 0 2)), (4, .int 0), (3, .int (-1)), (2, .int (-1)), (0, .ref x0), (1, .int w)]) hx hb dX3_best_37 hl (by decide) rfl (fun ls hl => ?_)
    have J75_1 : ∀ (ls : Array Slot), lv_has ls 7 [(0, .ref x0), (1, .int w), (2, .int ((zbs (-1, -1) (zlat sT0 sW0 sS0 w 20) sS0 0).1)), (3, .int ((zbs (-1, -1) (zlat sT0 sW0 sS0 w 20) sS0 0).2)), (4, .int 0)] → W p l e (headSpec wsX3_best ({ frames := 1, cells := 0, slots := 0, locals := 24 })).room s m ([.ref x0, .int w] : List Value).toArray below meth c s.heap [] 0 0 (MQ below (zSi ((zbs (zbs (zbs (zbs (-1, -1) (zlat sT0 sW0 sS0 w 20) sS0 0) (zlat sT1 sW1 sS1 w 20) sS1 1) (zlat sT2 sW2 sS2 w 20) sS2 2) (zlat sT3 sW3 sS3 w 20) sS3 3).1)) ([.ref x0, .int w] : List Value).toArray s 0 0 (fun _ => False)) (F0 m 75 ls []) := by
      intro ls hl
      refine lv_iinc (v := 1) (lv' := [(4, .int 1), (0, .ref x0), (1, .int w), (2, .int ((zbs (-1, -1) (zlat sT0 sW0 sS0 w 20) sS0 0).1)), (3, .int ((zbs (-1, -1) (zlat sT0 sW0 sS0 w 20) sS0 0).2))]) hx hb dX3_best_75 hl (k := 4) rfl (by decide) (by decide) rfl (fun ls hl => ?_)
      refine lv_goto (tgt := 14) hx hb dX3_best_78 (by decide) ?_
      refine lv_iload hx hb dX3_best_14 (lv_at hl 0 rfl) ?_
      refine lv_iconst (v := 4) hx hb dX3_best_16 (by decide) ?_
      refine lv_icmp_ge (tgt := 81) hx hb dX3_best_17 (by decide) (fun c_17 => ?_) (fun c_17 => ?_)
      · exact absurd c_17 (by decide)
      · skip
        refine lv_aload_n hx hb dX3_best_20 rfl (lv_at hl 1 rfl) ?_
        refine lv_iload hx hb dX3_best_21 (lv_at hl 0 rfl) ?_
        refine z_cRr (va_runV (As := [.int 1]) (rest := []) ⟨hx, hb, hml, hown, hts⟩ (kX3_harvestOf_ok l dC dI cI cZ cH cJ x0 xq now xg (had 1 0) 1 (by decide) (hg 1 (by decide))) (cwV 1 hts gX3_best_X3_harvestOf rfl rfl rfl (by decide +kernel) ⟨Nat.le_of_ble_eq_true rfl, Nat.le_of_ble_eq_true rfl⟩) (zPreR (is := [0, 1]) hK hP rfl (va_recv hK hP (ci := 3) (q0 := 0) rfl rfl)) rfl rfl hl.1 rfl (lv_room (Nat.le_of_ble_eq_true rfl)) dX3_best_23 ⟨Nat.le_of_ble_eq_true rfl, Nat.le_of_ble_eq_true rfl⟩) ?_
        refine va_get (D := (dC, dI)) (ci := 1) (v := .ref (had 1 2)) (C := RX1) (T := TX1) (N := 10) hx hb hts hiX1 hown hK hP 8 rfl rfl 1 (by decide) l101 (fun _ h9 => h9) rfl dX3_best_26 ?_
        refine lv_astore (lv' := [(5, .ref (had 1 2)), (4, .int 1), (0, .ref x0), (1, .int w), (2, .int ((zbs (-1, -1) (zlat sT0 sW0 sS0 w 20) sS0 0).1)), (3, .int ((zbs (-1, -1) (zlat sT0 sW0 sS0 w 20) sS0 0).2))]) hx hb dX3_best_29 hl (by decide) rfl (fun ls hl => ?_)
        refine lv_aload hx hb dX3_best_31 (lv_at hl 0 rfl) ?_
        refine lv_iload_n hx hb dX3_best_33 rfl (lv_at hl 3 rfl) ?_
        refine z_cRi (va_runV (As := [.int w]) (rest := []) ⟨hx, hb, hml, hown, hts⟩ (kX2_latestOfWork l dC dI cI cZ cH cJ (had 1 2) (had 1 8) (had 1 9) (had 1 10) (had 1 11) sT1 sW1 sV1 sS1 w) (cwV 1 hts gX3_best_X2_latestOfWork rfl rfl rfl (by decide +kernel) ⟨Nat.le_of_ble_eq_true rfl, Nat.le_of_ble_eq_true rfl⟩) (zPreR (is := [9, 10, 11, 12, 13]) hK hP rfl (va_recv hK hP (ci := 2) (q0 := 9) rfl rfl)) rfl rfl hl.1 rfl (lv_room (Nat.le_of_ble_eq_true rfl)) dX3_best_34 ⟨Nat.le_of_ble_eq_true rfl, Nat.le_of_ble_eq_true rfl⟩) ?_
        refine z_tv (v := (zlat sT1 sW1 sS1 w 20).1) rfl ?_
        refine lv_istore (lv' := [(6, .int ((zlat sT1 sW1 sS1 w 20).1)), (5, .ref (had 1 2)), (4, .int 1), (0, .ref x0), (1, .int w), (2, .int ((zbs (-1, -1) (zlat sT0 sW0 sS0 w 20) sS0 0).1)), (3, .int ((zbs (-1, -1) (zlat sT0 sW0 sS0 w 20) sS0 0).2))]) hx hb dX3_best_37 hl (by decide) rfl (fun ls hl => ?_)
        have J75_2 : ∀ (ls : Array Slot), lv_has ls 7 [(0, .ref x0), (1, .int w), (2, .int ((zbs (zbs (-1, -1) (zlat sT0 sW0 sS0 w 20) sS0 0) (zlat sT1 sW1 sS1 w 20) sS1 1).1)), (3, .int ((zbs (zbs (-1, -1) (zlat sT0 sW0 sS0 w 20) sS0 0) (zlat sT1 sW1 sS1 w 20) sS1 1).2)), (4, .int 1)] → W p l e (headSpec wsX3_best ({ frames := 1, cells := 0, slots := 0, locals := 24 })).room s m ([.ref x0, .int w] : List Value).toArray below meth c s.heap [] 0 0 (MQ below (zSi ((zbs (zbs (zbs (zbs (-1, -1) (zlat sT0 sW0 sS0 w 20) sS0 0) (zlat sT1 sW1 sS1 w 20) sS1 1) (zlat sT2 sW2 sS2 w 20) sS2 2) (zlat sT3 sW3 sS3 w 20) sS3 3).1)) ([.ref x0, .int w] : List Value).toArray s 0 0 (fun _ => False)) (F0 m 75 ls []) := by
          intro ls hl
          refine lv_iinc (v := 2) (lv' := [(4, .int 2), (0, .ref x0), (1, .int w), (2, .int ((zbs (zbs (-1, -1) (zlat sT0 sW0 sS0 w 20) sS0 0) (zlat sT1 sW1 sS1 w 20) sS1 1).1)), (3, .int ((zbs (zbs (-1, -1) (zlat sT0 sW0 sS0 w 20) sS0 0) (zlat sT1 sW1 sS1 w 20) sS1 1).2))]) hx hb dX3_best_75 hl (k := 4) rfl (by decide) (by decide) rfl (fun ls hl => ?_)
          refine lv_goto (tgt := 14) hx hb dX3_best_78 (by decide) ?_
          refine lv_iload hx hb dX3_best_14 (lv_at hl 0 rfl) ?_
          refine lv_iconst (v := 4) hx hb dX3_best_16 (by decide) ?_
          refine lv_icmp_ge (tgt := 81) hx hb dX3_best_17 (by decide) (fun c_17 => ?_) (fun c_17 => ?_)
          · exact absurd c_17 (by decide)
          · skip
            refine lv_aload_n hx hb dX3_best_20 rfl (lv_at hl 1 rfl) ?_
            refine lv_iload hx hb dX3_best_21 (lv_at hl 0 rfl) ?_
            refine z_cRr (va_runV (As := [.int 2]) (rest := []) ⟨hx, hb, hml, hown, hts⟩ (kX3_harvestOf_ok l dC dI cI cZ cH cJ x0 xq now xg (had 2 0) 2 (by decide) (hg 2 (by decide))) (cwV 1 hts gX3_best_X3_harvestOf rfl rfl rfl (by decide +kernel) ⟨Nat.le_of_ble_eq_true rfl, Nat.le_of_ble_eq_true rfl⟩) (zPreR (is := [0, 1]) hK hP rfl (va_recv hK hP (ci := 3) (q0 := 0) rfl rfl)) rfl rfl hl.1 rfl (lv_room (Nat.le_of_ble_eq_true rfl)) dX3_best_23 ⟨Nat.le_of_ble_eq_true rfl, Nat.le_of_ble_eq_true rfl⟩) ?_
            refine va_get (D := (dC, dI)) (ci := 1) (v := .ref (had 2 2)) (C := RX1) (T := TX1) (N := 10) hx hb hts hiX1 hown hK hP 14 rfl rfl 1 (by decide) l101 (fun _ h9 => h9) rfl dX3_best_26 ?_
            refine lv_astore (lv' := [(5, .ref (had 2 2)), (4, .int 2), (0, .ref x0), (1, .int w), (2, .int ((zbs (zbs (-1, -1) (zlat sT0 sW0 sS0 w 20) sS0 0) (zlat sT1 sW1 sS1 w 20) sS1 1).1)), (3, .int ((zbs (zbs (-1, -1) (zlat sT0 sW0 sS0 w 20) sS0 0) (zlat sT1 sW1 sS1 w 20) sS1 1).2))]) hx hb dX3_best_29 hl (by decide) rfl (fun ls hl => ?_)
            refine lv_aload hx hb dX3_best_31 (lv_at hl 0 rfl) ?_
            refine lv_iload_n hx hb dX3_best_33 rfl (lv_at hl 3 rfl) ?_
            refine z_cRi (va_runV (As := [.int w]) (rest := []) ⟨hx, hb, hml, hown, hts⟩ (kX2_latestOfWork l dC dI cI cZ cH cJ (had 2 2) (had 2 8) (had 2 9) (had 2 10) (had 2 11) sT2 sW2 sV2 sS2 w) (cwV 1 hts gX3_best_X2_latestOfWork rfl rfl rfl (by decide +kernel) ⟨Nat.le_of_ble_eq_true rfl, Nat.le_of_ble_eq_true rfl⟩) (zPreR (is := [15, 16, 17, 18, 19]) hK hP rfl (va_recv hK hP (ci := 2) (q0 := 15) rfl rfl)) rfl rfl hl.1 rfl (lv_room (Nat.le_of_ble_eq_true rfl)) dX3_best_34 ⟨Nat.le_of_ble_eq_true rfl, Nat.le_of_ble_eq_true rfl⟩) ?_
            refine z_tv (v := (zlat sT2 sW2 sS2 w 20).1) rfl ?_
            refine lv_istore (lv' := [(6, .int ((zlat sT2 sW2 sS2 w 20).1)), (5, .ref (had 2 2)), (4, .int 2), (0, .ref x0), (1, .int w), (2, .int ((zbs (zbs (-1, -1) (zlat sT0 sW0 sS0 w 20) sS0 0) (zlat sT1 sW1 sS1 w 20) sS1 1).1)), (3, .int ((zbs (zbs (-1, -1) (zlat sT0 sW0 sS0 w 20) sS0 0) (zlat sT1 sW1 sS1 w 20) sS1 1).2))]) hx hb dX3_best_37 hl (by decide) rfl (fun ls hl => ?_)
            have J75_3 : ∀ (ls : Array Slot), lv_has ls 7 [(0, .ref x0), (1, .int w), (2, .int ((zbs (zbs (zbs (-1, -1) (zlat sT0 sW0 sS0 w 20) sS0 0) (zlat sT1 sW1 sS1 w 20) sS1 1) (zlat sT2 sW2 sS2 w 20) sS2 2).1)), (3, .int ((zbs (zbs (zbs (-1, -1) (zlat sT0 sW0 sS0 w 20) sS0 0) (zlat sT1 sW1 sS1 w 20) sS1 1) (zlat sT2 sW2 sS2 w 20) sS2 2).2)), (4, .int 2)] → W p l e (headSpec wsX3_best ({ frames := 1, cells := 0, slots := 0, locals := 24 })).room s m ([.ref x0, .int w] : List Value).toArray below meth c s.heap [] 0 0 (MQ below (zSi ((zbs (zbs (zbs (zbs (-1, -1) (zlat sT0 sW0 sS0 w 20) sS0 0) (zlat sT1 sW1 sS1 w 20) sS1 1) (zlat sT2 sW2 sS2 w 20) sS2 2) (zlat sT3 sW3 sS3 w 20) sS3 3).1)) ([.ref x0, .int w] : List Value).toArray s 0 0 (fun _ => False)) (F0 m 75 ls []) := by
              intro ls hl
              refine lv_iinc (v := 3) (lv' := [(4, .int 3), (0, .ref x0), (1, .int w), (2, .int ((zbs (zbs (zbs (-1, -1) (zlat sT0 sW0 sS0 w 20) sS0 0) (zlat sT1 sW1 sS1 w 20) sS1 1) (zlat sT2 sW2 sS2 w 20) sS2 2).1)), (3, .int ((zbs (zbs (zbs (-1, -1) (zlat sT0 sW0 sS0 w 20) sS0 0) (zlat sT1 sW1 sS1 w 20) sS1 1) (zlat sT2 sW2 sS2 w 20) sS2 2).2))]) hx hb dX3_best_75 hl (k := 4) rfl (by decide) (by decide) rfl (fun ls hl => ?_)
              refine lv_goto (tgt := 14) hx hb dX3_best_78 (by decide) ?_
              refine lv_iload hx hb dX3_best_14 (lv_at hl 0 rfl) ?_
              refine lv_iconst (v := 4) hx hb dX3_best_16 (by decide) ?_
              refine lv_icmp_ge (tgt := 81) hx hb dX3_best_17 (by decide) (fun c_17 => ?_) (fun c_17 => ?_)
              · exact absurd c_17 (by decide)
              · skip
                refine lv_aload_n hx hb dX3_best_20 rfl (lv_at hl 1 rfl) ?_
                refine lv_iload hx hb dX3_best_21 (lv_at hl 0 rfl) ?_
                refine z_cRr (va_runV (As := [.int 3]) (rest := []) ⟨hx, hb, hml, hown, hts⟩ (kX3_harvestOf_ok l dC dI cI cZ cH cJ x0 xq now xg (had 3 0) 3 (by decide) (hg 3 (by decide))) (cwV 1 hts gX3_best_X3_harvestOf rfl rfl rfl (by decide +kernel) ⟨Nat.le_of_ble_eq_true rfl, Nat.le_of_ble_eq_true rfl⟩) (zPreR (is := [0, 1]) hK hP rfl (va_recv hK hP (ci := 3) (q0 := 0) rfl rfl)) rfl rfl hl.1 rfl (lv_room (Nat.le_of_ble_eq_true rfl)) dX3_best_23 ⟨Nat.le_of_ble_eq_true rfl, Nat.le_of_ble_eq_true rfl⟩) ?_
                refine va_get (D := (dC, dI)) (ci := 1) (v := .ref (had 3 2)) (C := RX1) (T := TX1) (N := 10) hx hb hts hiX1 hown hK hP 20 rfl rfl 1 (by decide) l101 (fun _ h9 => h9) rfl dX3_best_26 ?_
                refine lv_astore (lv' := [(5, .ref (had 3 2)), (4, .int 3), (0, .ref x0), (1, .int w), (2, .int ((zbs (zbs (zbs (-1, -1) (zlat sT0 sW0 sS0 w 20) sS0 0) (zlat sT1 sW1 sS1 w 20) sS1 1) (zlat sT2 sW2 sS2 w 20) sS2 2).1)), (3, .int ((zbs (zbs (zbs (-1, -1) (zlat sT0 sW0 sS0 w 20) sS0 0) (zlat sT1 sW1 sS1 w 20) sS1 1) (zlat sT2 sW2 sS2 w 20) sS2 2).2))]) hx hb dX3_best_29 hl (by decide) rfl (fun ls hl => ?_)
                refine lv_aload hx hb dX3_best_31 (lv_at hl 0 rfl) ?_
                refine lv_iload_n hx hb dX3_best_33 rfl (lv_at hl 3 rfl) ?_
                refine z_cRi (va_runV (As := [.int w]) (rest := []) ⟨hx, hb, hml, hown, hts⟩ (kX2_latestOfWork l dC dI cI cZ cH cJ (had 3 2) (had 3 8) (had 3 9) (had 3 10) (had 3 11) sT3 sW3 sV3 sS3 w) (cwV 1 hts gX3_best_X2_latestOfWork rfl rfl rfl (by decide +kernel) ⟨Nat.le_of_ble_eq_true rfl, Nat.le_of_ble_eq_true rfl⟩) (zPreR (is := [21, 22, 23, 24, 25]) hK hP rfl (va_recv hK hP (ci := 2) (q0 := 21) rfl rfl)) rfl rfl hl.1 rfl (lv_room (Nat.le_of_ble_eq_true rfl)) dX3_best_34 ⟨Nat.le_of_ble_eq_true rfl, Nat.le_of_ble_eq_true rfl⟩) ?_
                refine z_tv (v := (zlat sT3 sW3 sS3 w 20).1) rfl ?_
                refine lv_istore (lv' := [(6, .int ((zlat sT3 sW3 sS3 w 20).1)), (5, .ref (had 3 2)), (4, .int 3), (0, .ref x0), (1, .int w), (2, .int ((zbs (zbs (zbs (-1, -1) (zlat sT0 sW0 sS0 w 20) sS0 0) (zlat sT1 sW1 sS1 w 20) sS1 1) (zlat sT2 sW2 sS2 w 20) sS2 2).1)), (3, .int ((zbs (zbs (zbs (-1, -1) (zlat sT0 sW0 sS0 w 20) sS0 0) (zlat sT1 sW1 sS1 w 20) sS1 1) (zlat sT2 sW2 sS2 w 20) sS2 2).2))]) hx hb dX3_best_37 hl (by decide) rfl (fun ls hl => ?_)
                have J75_4 : ∀ (ls : Array Slot), lv_has ls 7 [(0, .ref x0), (1, .int w), (2, .int ((zbs (zbs (zbs (zbs (-1, -1) (zlat sT0 sW0 sS0 w 20) sS0 0) (zlat sT1 sW1 sS1 w 20) sS1 1) (zlat sT2 sW2 sS2 w 20) sS2 2) (zlat sT3 sW3 sS3 w 20) sS3 3).1)), (3, .int ((zbs (zbs (zbs (zbs (-1, -1) (zlat sT0 sW0 sS0 w 20) sS0 0) (zlat sT1 sW1 sS1 w 20) sS1 1) (zlat sT2 sW2 sS2 w 20) sS2 2) (zlat sT3 sW3 sS3 w 20) sS3 3).2)), (4, .int 3)] → W p l e (headSpec wsX3_best ({ frames := 1, cells := 0, slots := 0, locals := 24 })).room s m ([.ref x0, .int w] : List Value).toArray below meth c s.heap [] 0 0 (MQ below (zSi ((zbs (zbs (zbs (zbs (-1, -1) (zlat sT0 sW0 sS0 w 20) sS0 0) (zlat sT1 sW1 sS1 w 20) sS1 1) (zlat sT2 sW2 sS2 w 20) sS2 2) (zlat sT3 sW3 sS3 w 20) sS3 3).1)) ([.ref x0, .int w] : List Value).toArray s 0 0 (fun _ => False)) (F0 m 75 ls []) := by
                  intro ls hl
                  refine lv_iinc (v := 4) (lv' := [(4, .int 4), (0, .ref x0), (1, .int w), (2, .int ((zbs (zbs (zbs (zbs (-1, -1) (zlat sT0 sW0 sS0 w 20) sS0 0) (zlat sT1 sW1 sS1 w 20) sS1 1) (zlat sT2 sW2 sS2 w 20) sS2 2) (zlat sT3 sW3 sS3 w 20) sS3 3).1)), (3, .int ((zbs (zbs (zbs (zbs (-1, -1) (zlat sT0 sW0 sS0 w 20) sS0 0) (zlat sT1 sW1 sS1 w 20) sS1 1) (zlat sT2 sW2 sS2 w 20) sS2 2) (zlat sT3 sW3 sS3 w 20) sS3 3).2))]) hx hb dX3_best_75 hl (k := 4) rfl (by decide) (by decide) rfl (fun ls hl => ?_)
                  refine lv_goto (tgt := 14) hx hb dX3_best_78 (by decide) ?_
                  refine lv_iload hx hb dX3_best_14 (lv_at hl 0 rfl) ?_
                  refine lv_iconst (v := 4) hx hb dX3_best_16 (by decide) ?_
                  refine lv_icmp_ge (tgt := 81) hx hb dX3_best_17 (by decide) (fun c_17 => ?_) (fun c_17 => ?_)
                  · skip
                    refine lv_iload_n hx hb dX3_best_81 rfl (lv_at hl 3 rfl) ?_
                    exact W.iret hx hb hr (fun t ht hW => ⟨rfl, ht⟩) (fun _ h => nomatch h) dX3_best_82
                  · exact absurd c_17 (by decide)
                refine lv_iload hx hb dX3_best_39 (lv_at hl 0 rfl) ?_
                refine lv_iconst (v := (-1)) hx hb dX3_best_41 (by decide) ?_
                refine lv_icmp_eq (tgt := 75) hx hb dX3_best_42 (by decide) (fun c_42 => ?_) (fun c_42 => ?_)
                · skip
                  exact J75_4 _ (lv_cg (lv_sub (l' := [(0, .ref x0), (1, .int w), (2, .int ((zbs (zbs (zbs (-1, -1) (zlat sT0 sW0 sS0 w 20) sS0 0) (zlat sT1 sW1 sS1 w 20) sS1 1) (zlat sT2 sW2 sS2 w 20) sS2 2).1)), (3, .int ((zbs (zbs (zbs (-1, -1) (zlat sT0 sW0 sS0 w 20) sS0 0) (zlat sT1 sW1 sS1 w 20) sS1 1) (zlat sT2 sW2 sS2 w 20) sS2 2).2)), (4, .int 3)]) hl [3, 4, 5, 6, 2] rfl) (zl_k (zl_k (zl_c (by grind [zbs]) (zl_c (by grind [zbs]) (zl_k (rfl)))))))
                · skip
                  refine lv_aload hx hb dX3_best_45 (lv_at hl 1 rfl) ?_
                  refine va_get (D := (dC, dI)) (ci := 2) (v := .ref (had 3 11)) (C := RX2) (T := TX2) (N := 4) hx hb hts hiX2 hown hK hP 21 rfl rfl 3 (by decide) l118 (fun _ h9 => h9) rfl dX3_best_47 ?_
                  refine lv_iload hx hb dX3_best_50 (lv_at hl 0 rfl) ?_
                  refine z_iald hx hb hK hP 25 rfl (zlat_ix c_42) dX3_best_52 ?_
                  refine z_tv (v := sS3 (((zlat sT3 sW3 sS3 w 20).1).toNatClampNeg)) (rfl) ?_
                  refine lv_iload_n hx hb dX3_best_53 rfl (lv_at hl 6 rfl) ?_
                  refine lv_icmp_le (tgt := 75) hx hb dX3_best_54 (by decide) (fun c_54 => ?_) (fun c_54 => ?_)
                  · skip
                    exact J75_4 _ (lv_cg (lv_sub (l' := [(0, .ref x0), (1, .int w), (2, .int ((zbs (zbs (zbs (-1, -1) (zlat sT0 sW0 sS0 w 20) sS0 0) (zlat sT1 sW1 sS1 w 20) sS1 1) (zlat sT2 sW2 sS2 w 20) sS2 2).1)), (3, .int ((zbs (zbs (zbs (-1, -1) (zlat sT0 sW0 sS0 w 20) sS0 0) (zlat sT1 sW1 sS1 w 20) sS1 1) (zlat sT2 sW2 sS2 w 20) sS2 2).2)), (4, .int 3)]) hl [3, 4, 5, 6, 2] rfl) (zl_k (zl_k (zl_c (by grind [zbs]) (zl_c (by grind [zbs]) (zl_k (rfl)))))))
                  · skip
                    refine lv_bipush (v := 100) hx hb dX3_best_57 (by decide) ?_
                    refine lv_iload hx hb dX3_best_59 (lv_at hl 2 rfl) ?_
                    refine lv_imul hx hb dX3_best_61 ?_
                    refine lv_iload hx hb dX3_best_62 (lv_at hl 0 rfl) ?_
                    refine lv_iadd hx hb dX3_best_64 ?_
                    refine lv_istore_n (lv' := [(2, .int ((100 * 3) + ((zlat sT3 sW3 sS3 w 20).1))), (6, .int ((zlat sT3 sW3 sS3 w 20).1)), (5, .ref (had 3 2)), (4, .int 3), (0, .ref x0), (1, .int w), (3, .int ((zbs (zbs (zbs (-1, -1) (zlat sT0 sW0 sS0 w 20) sS0 0) (zlat sT1 sW1 sS1 w 20) sS1 1) (zlat sT2 sW2 sS2 w 20) sS2 2).2))]) hx hb dX3_best_65 rfl hl (by decide) rfl (fun ls hl => ?_)
                    refine lv_aload hx hb dX3_best_66 (lv_at hl 2 rfl) ?_
                    refine va_get (D := (dC, dI)) (ci := 2) (v := .ref (had 3 11)) (C := RX2) (T := TX2) (N := 4) hx hb hts hiX2 hown hK hP 21 rfl rfl 3 (by decide) l118 (fun _ h9 => h9) rfl dX3_best_68 ?_
                    refine lv_iload hx hb dX3_best_71 (lv_at hl 1 rfl) ?_
                    refine z_iald hx hb hK hP 25 rfl (zlat_ix c_42) dX3_best_73 ?_
                    refine z_tv (v := sS3 (((zlat sT3 sW3 sS3 w 20).1).toNatClampNeg)) (rfl) ?_
                    refine lv_istore_n (lv' := [(3, .int (sS3 (((zlat sT3 sW3 sS3 w 20).1).toNatClampNeg))), (2, .int ((100 * 3) + ((zlat sT3 sW3 sS3 w 20).1))), (6, .int ((zlat sT3 sW3 sS3 w 20).1)), (5, .ref (had 3 2)), (4, .int 3), (0, .ref x0), (1, .int w)]) hx hb dX3_best_74 rfl hl (by decide) rfl (fun ls hl => ?_)
                    exact J75_4 _ (lv_cg (lv_sub (l' := [(0, .ref x0), (1, .int w), (2, .int ((100 * 3) + ((zlat sT3 sW3 sS3 w 20).1))), (3, .int (sS3 (((zlat sT3 sW3 sS3 w 20).1).toNatClampNeg))), (4, .int 3)]) hl [5, 6, 1, 0, 4] rfl) (zl_k (zl_k (zl_c (by grind [zbs]) (zl_c (by grind [zbs]) (zl_k (rfl)))))))
            refine lv_iload hx hb dX3_best_39 (lv_at hl 0 rfl) ?_
            refine lv_iconst (v := (-1)) hx hb dX3_best_41 (by decide) ?_
            refine lv_icmp_eq (tgt := 75) hx hb dX3_best_42 (by decide) (fun c_42 => ?_) (fun c_42 => ?_)
            · skip
              exact J75_3 _ (lv_cg (lv_sub (l' := [(0, .ref x0), (1, .int w), (2, .int ((zbs (zbs (-1, -1) (zlat sT0 sW0 sS0 w 20) sS0 0) (zlat sT1 sW1 sS1 w 20) sS1 1).1)), (3, .int ((zbs (zbs (-1, -1) (zlat sT0 sW0 sS0 w 20) sS0 0) (zlat sT1 sW1 sS1 w 20) sS1 1).2)), (4, .int 2)]) hl [3, 4, 5, 6, 2] rfl) (zl_k (zl_k (zl_c (by grind [zbs]) (zl_c (by grind [zbs]) (zl_k (rfl)))))))
            · skip
              refine lv_aload hx hb dX3_best_45 (lv_at hl 1 rfl) ?_
              refine va_get (D := (dC, dI)) (ci := 2) (v := .ref (had 2 11)) (C := RX2) (T := TX2) (N := 4) hx hb hts hiX2 hown hK hP 15 rfl rfl 3 (by decide) l118 (fun _ h9 => h9) rfl dX3_best_47 ?_
              refine lv_iload hx hb dX3_best_50 (lv_at hl 0 rfl) ?_
              refine z_iald hx hb hK hP 19 rfl (zlat_ix c_42) dX3_best_52 ?_
              refine z_tv (v := sS2 (((zlat sT2 sW2 sS2 w 20).1).toNatClampNeg)) (rfl) ?_
              refine lv_iload_n hx hb dX3_best_53 rfl (lv_at hl 6 rfl) ?_
              refine lv_icmp_le (tgt := 75) hx hb dX3_best_54 (by decide) (fun c_54 => ?_) (fun c_54 => ?_)
              · skip
                exact J75_3 _ (lv_cg (lv_sub (l' := [(0, .ref x0), (1, .int w), (2, .int ((zbs (zbs (-1, -1) (zlat sT0 sW0 sS0 w 20) sS0 0) (zlat sT1 sW1 sS1 w 20) sS1 1).1)), (3, .int ((zbs (zbs (-1, -1) (zlat sT0 sW0 sS0 w 20) sS0 0) (zlat sT1 sW1 sS1 w 20) sS1 1).2)), (4, .int 2)]) hl [3, 4, 5, 6, 2] rfl) (zl_k (zl_k (zl_c (by grind [zbs]) (zl_c (by grind [zbs]) (zl_k (rfl)))))))
              · skip
                refine lv_bipush (v := 100) hx hb dX3_best_57 (by decide) ?_
                refine lv_iload hx hb dX3_best_59 (lv_at hl 2 rfl) ?_
                refine lv_imul hx hb dX3_best_61 ?_
                refine lv_iload hx hb dX3_best_62 (lv_at hl 0 rfl) ?_
                refine lv_iadd hx hb dX3_best_64 ?_
                refine lv_istore_n (lv' := [(2, .int ((100 * 2) + ((zlat sT2 sW2 sS2 w 20).1))), (6, .int ((zlat sT2 sW2 sS2 w 20).1)), (5, .ref (had 2 2)), (4, .int 2), (0, .ref x0), (1, .int w), (3, .int ((zbs (zbs (-1, -1) (zlat sT0 sW0 sS0 w 20) sS0 0) (zlat sT1 sW1 sS1 w 20) sS1 1).2))]) hx hb dX3_best_65 rfl hl (by decide) rfl (fun ls hl => ?_)
                refine lv_aload hx hb dX3_best_66 (lv_at hl 2 rfl) ?_
                refine va_get (D := (dC, dI)) (ci := 2) (v := .ref (had 2 11)) (C := RX2) (T := TX2) (N := 4) hx hb hts hiX2 hown hK hP 15 rfl rfl 3 (by decide) l118 (fun _ h9 => h9) rfl dX3_best_68 ?_
                refine lv_iload hx hb dX3_best_71 (lv_at hl 1 rfl) ?_
                refine z_iald hx hb hK hP 19 rfl (zlat_ix c_42) dX3_best_73 ?_
                refine z_tv (v := sS2 (((zlat sT2 sW2 sS2 w 20).1).toNatClampNeg)) (rfl) ?_
                refine lv_istore_n (lv' := [(3, .int (sS2 (((zlat sT2 sW2 sS2 w 20).1).toNatClampNeg))), (2, .int ((100 * 2) + ((zlat sT2 sW2 sS2 w 20).1))), (6, .int ((zlat sT2 sW2 sS2 w 20).1)), (5, .ref (had 2 2)), (4, .int 2), (0, .ref x0), (1, .int w)]) hx hb dX3_best_74 rfl hl (by decide) rfl (fun ls hl => ?_)
                exact J75_3 _ (lv_cg (lv_sub (l' := [(0, .ref x0), (1, .int w), (2, .int ((100 * 2) + ((zlat sT2 sW2 sS2 w 20).1))), (3, .int (sS2 (((zlat sT2 sW2 sS2 w 20).1).toNatClampNeg))), (4, .int 2)]) hl [5, 6, 1, 0, 4] rfl) (zl_k (zl_k (zl_c (by grind [zbs]) (zl_c (by grind [zbs]) (zl_k (rfl)))))))
        refine lv_iload hx hb dX3_best_39 (lv_at hl 0 rfl) ?_
        refine lv_iconst (v := (-1)) hx hb dX3_best_41 (by decide) ?_
        refine lv_icmp_eq (tgt := 75) hx hb dX3_best_42 (by decide) (fun c_42 => ?_) (fun c_42 => ?_)
        · skip
          exact J75_2 _ (lv_cg (lv_sub (l' := [(0, .ref x0), (1, .int w), (2, .int ((zbs (-1, -1) (zlat sT0 sW0 sS0 w 20) sS0 0).1)), (3, .int ((zbs (-1, -1) (zlat sT0 sW0 sS0 w 20) sS0 0).2)), (4, .int 1)]) hl [3, 4, 5, 6, 2] rfl) (zl_k (zl_k (zl_c (by grind [zbs]) (zl_c (by grind [zbs]) (zl_k (rfl)))))))
        · skip
          refine lv_aload hx hb dX3_best_45 (lv_at hl 1 rfl) ?_
          refine va_get (D := (dC, dI)) (ci := 2) (v := .ref (had 1 11)) (C := RX2) (T := TX2) (N := 4) hx hb hts hiX2 hown hK hP 9 rfl rfl 3 (by decide) l118 (fun _ h9 => h9) rfl dX3_best_47 ?_
          refine lv_iload hx hb dX3_best_50 (lv_at hl 0 rfl) ?_
          refine z_iald hx hb hK hP 13 rfl (zlat_ix c_42) dX3_best_52 ?_
          refine z_tv (v := sS1 (((zlat sT1 sW1 sS1 w 20).1).toNatClampNeg)) (rfl) ?_
          refine lv_iload_n hx hb dX3_best_53 rfl (lv_at hl 6 rfl) ?_
          refine lv_icmp_le (tgt := 75) hx hb dX3_best_54 (by decide) (fun c_54 => ?_) (fun c_54 => ?_)
          · skip
            exact J75_2 _ (lv_cg (lv_sub (l' := [(0, .ref x0), (1, .int w), (2, .int ((zbs (-1, -1) (zlat sT0 sW0 sS0 w 20) sS0 0).1)), (3, .int ((zbs (-1, -1) (zlat sT0 sW0 sS0 w 20) sS0 0).2)), (4, .int 1)]) hl [3, 4, 5, 6, 2] rfl) (zl_k (zl_k (zl_c (by grind [zbs]) (zl_c (by grind [zbs]) (zl_k (rfl)))))))
          · skip
            refine lv_bipush (v := 100) hx hb dX3_best_57 (by decide) ?_
            refine lv_iload hx hb dX3_best_59 (lv_at hl 2 rfl) ?_
            refine lv_imul hx hb dX3_best_61 ?_
            refine lv_iload hx hb dX3_best_62 (lv_at hl 0 rfl) ?_
            refine lv_iadd hx hb dX3_best_64 ?_
            refine lv_istore_n (lv' := [(2, .int ((100 * 1) + ((zlat sT1 sW1 sS1 w 20).1))), (6, .int ((zlat sT1 sW1 sS1 w 20).1)), (5, .ref (had 1 2)), (4, .int 1), (0, .ref x0), (1, .int w), (3, .int ((zbs (-1, -1) (zlat sT0 sW0 sS0 w 20) sS0 0).2))]) hx hb dX3_best_65 rfl hl (by decide) rfl (fun ls hl => ?_)
            refine lv_aload hx hb dX3_best_66 (lv_at hl 2 rfl) ?_
            refine va_get (D := (dC, dI)) (ci := 2) (v := .ref (had 1 11)) (C := RX2) (T := TX2) (N := 4) hx hb hts hiX2 hown hK hP 9 rfl rfl 3 (by decide) l118 (fun _ h9 => h9) rfl dX3_best_68 ?_
            refine lv_iload hx hb dX3_best_71 (lv_at hl 1 rfl) ?_
            refine z_iald hx hb hK hP 13 rfl (zlat_ix c_42) dX3_best_73 ?_
            refine z_tv (v := sS1 (((zlat sT1 sW1 sS1 w 20).1).toNatClampNeg)) (rfl) ?_
            refine lv_istore_n (lv' := [(3, .int (sS1 (((zlat sT1 sW1 sS1 w 20).1).toNatClampNeg))), (2, .int ((100 * 1) + ((zlat sT1 sW1 sS1 w 20).1))), (6, .int ((zlat sT1 sW1 sS1 w 20).1)), (5, .ref (had 1 2)), (4, .int 1), (0, .ref x0), (1, .int w)]) hx hb dX3_best_74 rfl hl (by decide) rfl (fun ls hl => ?_)
            exact J75_2 _ (lv_cg (lv_sub (l' := [(0, .ref x0), (1, .int w), (2, .int ((100 * 1) + ((zlat sT1 sW1 sS1 w 20).1))), (3, .int (sS1 (((zlat sT1 sW1 sS1 w 20).1).toNatClampNeg))), (4, .int 1)]) hl [5, 6, 1, 0, 4] rfl) (zl_k (zl_k (zl_c (by grind [zbs]) (zl_c (by grind [zbs]) (zl_k (rfl)))))))
    refine lv_iload hx hb dX3_best_39 (lv_at hl 0 rfl) ?_
    refine lv_iconst (v := (-1)) hx hb dX3_best_41 (by decide) ?_
    refine lv_icmp_eq (tgt := 75) hx hb dX3_best_42 (by decide) (fun c_42 => ?_) (fun c_42 => ?_)
    · skip
      exact J75_1 _ (lv_cg (lv_sub (l' := [(0, .ref x0), (1, .int w), (2, .int (-1)), (3, .int (-1)), (4, .int 0)]) hl [5, 6, 4, 3, 2] rfl) (zl_k (zl_k (zl_c (by grind [zbs]) (zl_c (by grind [zbs]) (zl_k (rfl)))))))
    · skip
      refine lv_aload hx hb dX3_best_45 (lv_at hl 1 rfl) ?_
      refine va_get (D := (dC, dI)) (ci := 2) (v := .ref (had 0 11)) (C := RX2) (T := TX2) (N := 4) hx hb hts hiX2 hown hK hP 3 rfl rfl 3 (by decide) l118 (fun _ h9 => h9) rfl dX3_best_47 ?_
      refine lv_iload hx hb dX3_best_50 (lv_at hl 0 rfl) ?_
      refine z_iald hx hb hK hP 7 rfl (zlat_ix c_42) dX3_best_52 ?_
      refine z_tv (v := sS0 (((zlat sT0 sW0 sS0 w 20).1).toNatClampNeg)) (rfl) ?_
      refine lv_iload_n hx hb dX3_best_53 rfl (lv_at hl 3 rfl) ?_
      refine lv_icmp_le (tgt := 75) hx hb dX3_best_54 (by decide) (fun c_54 => ?_) (fun c_54 => ?_)
      · skip
        exact J75_1 _ (lv_cg (lv_sub (l' := [(0, .ref x0), (1, .int w), (2, .int (-1)), (3, .int (-1)), (4, .int 0)]) hl [5, 6, 4, 3, 2] rfl) (zl_k (zl_k (zl_c (by grind [zbs]) (zl_c (by grind [zbs]) (zl_k (rfl)))))))
      · skip
        refine lv_bipush (v := 100) hx hb dX3_best_57 (by decide) ?_
        refine lv_iload hx hb dX3_best_59 (lv_at hl 2 rfl) ?_
        refine lv_imul hx hb dX3_best_61 ?_
        refine lv_iload hx hb dX3_best_62 (lv_at hl 0 rfl) ?_
        refine lv_iadd hx hb dX3_best_64 ?_
        refine lv_istore_n (lv' := [(2, .int ((100 * 0) + ((zlat sT0 sW0 sS0 w 20).1))), (6, .int ((zlat sT0 sW0 sS0 w 20).1)), (5, .ref (had 0 2)), (4, .int 0), (3, .int (-1)), (0, .ref x0), (1, .int w)]) hx hb dX3_best_65 rfl hl (by decide) rfl (fun ls hl => ?_)
        refine lv_aload hx hb dX3_best_66 (lv_at hl 2 rfl) ?_
        refine va_get (D := (dC, dI)) (ci := 2) (v := .ref (had 0 11)) (C := RX2) (T := TX2) (N := 4) hx hb hts hiX2 hown hK hP 3 rfl rfl 3 (by decide) l118 (fun _ h9 => h9) rfl dX3_best_68 ?_
        refine lv_iload hx hb dX3_best_71 (lv_at hl 1 rfl) ?_
        refine z_iald hx hb hK hP 7 rfl (zlat_ix c_42) dX3_best_73 ?_
        refine z_tv (v := sS0 (((zlat sT0 sW0 sS0 w 20).1).toNatClampNeg)) (rfl) ?_
        refine lv_istore_n (lv' := [(3, .int (sS0 (((zlat sT0 sW0 sS0 w 20).1).toNatClampNeg))), (2, .int ((100 * 0) + ((zlat sT0 sW0 sS0 w 20).1))), (6, .int ((zlat sT0 sW0 sS0 w 20).1)), (5, .ref (had 0 2)), (4, .int 0), (0, .ref x0), (1, .int w)]) hx hb dX3_best_74 rfl hl (by decide) rfl (fun ls hl => ?_)
        exact J75_1 _ (lv_cg (lv_sub (l' := [(0, .ref x0), (1, .int w), (2, .int ((100 * 0) + ((zlat sT0 sW0 sS0 w 20).1))), (3, .int (sS0 (((zlat sT0 sW0 sS0 w 20).1).toNatClampNeg))), (4, .int 0)]) hl [5, 6, 1, 0, 4] rfl) (zl_k (zl_k (zl_c (by grind [zbs]) (zl_c (by grind [zbs]) (zl_k (rfl)))))))
