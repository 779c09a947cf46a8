theorem zin_b4 {v : Int32} (h : ¬ zin v 0 3 = 1) (h1 : ¬ v < 0) (h2 : ¬ (4 : Int32) ≤ v) : False := by
  apply zin_bd h
  refine ⟨h1, ?_⟩
  rw [Int32.le_iff_toInt_le] at h2 ⊢
  have e4 : (4 : Int32).toInt = 4 := by decide
  have e3 : (3 : Int32).toInt = 3 := by decide
  omega
set_option maxHeartbeats 4000000 in
set_option maxRecDepth 100000 in
/-- refuseOutside, in range -/
theorem kX3_refuseOutside_ok (l : Launch) (v : Int32) (lo : Int32) (hi : Int32) (hz : zin v lo hi = 1) : Met l yX3_refuseOutside wsX3_refuseOutside ({ frames := 0, cells := 0, slots := 0, locals := 0 }) (zSc [.int v, .int lo, .int hi]) zSv 0 0 (fun _ => False) := by
  refine Met.ofW (cc := cX3_refuseOutside) (maxL := 3) (ret := none) (by decide) rfl ?_
  intro p e s m args below meth c s₁ B hml hv0
  obtain ⟨rfl, -⟩ := hv0
  have hx := B.exec
  have hb := B.bytes
  have hr := B.returns
  have hts := atoms_spec (ws := wsX3_refuseOutside) B.pre
  have hown : s.vm.findClass RX3 = some m.cls := findClass_of_methodNamed B.named
  have hlocks := B.notSynchronized
  have hl := lv_entry ([.int v, .int lo, .int hi]) (n := 3) (Nat.le_of_ble_eq_true rfl)
  rw [lg_entry_eq]
  generalize (lg_sl ([.int v, .int lo, .int hi]) ++ List.replicate (3 - (lg_sl ([.int v, .int lo, .int hi])).length) Slot.unset).toArray = ls at hl ⊢
  have hl : lv_has ls 3 [(0, .int v), (1, .int lo), (2, .int hi)] := hl
  refine lv_iload_n hx hb dX3_refuseOutside_0 rfl (lv_at hl 0 rfl) ?_
  refine lv_iload_n hx hb dX3_refuseOutside_1 rfl (lv_at hl 1 rfl) ?_
  refine lv_icmp_lt (tgt := 10) hx hb dX3_refuseOutside_2 (by decide) (fun c_2 => ?_) (fun c_2 => ?_)
  · exact absurd c_2 ((zin_ok hz).1)
  · skip
    refine lv_iload_n hx hb dX3_refuseOutside_5 rfl (lv_at hl 0 rfl) ?_
    refine lv_iload_n hx hb dX3_refuseOutside_6 rfl (lv_at hl 2 rfl) ?_
    refine lv_icmp_le (tgt := 20) hx hb dX3_refuseOutside_7 (by decide) (fun c_7 => ?_) (fun c_7 => ?_)
    · skip
      exact W.vret hx hb hr (fun t ht hW => ⟨rfl, ht⟩) (fun _ h => nomatch h) dX3_refuseOutside_20
    · exact absurd c_7 (fun q => q (zin_ok hz).2)
set_option maxHeartbeats 4000000 in
set_option maxRecDepth 100000 in
/-- refuseOutside, out of range -/
theorem kX3_refuseOutside_bad (l : Launch) (dC : Nat → ClassId) (dI : Nat → Nat → Nat) (cI cZ cH cJ : ClassId) (v : Int32) (lo : Int32) (hi : Int32) (hv : ¬ zin v lo hi = 1) (hst : l.stackTraces = false) : vx_Met l yX3_refuseOutside wsX3_refuseOutside ({ frames := 6, cells := 1, slots := 6, locals := 90 }) (zXc dC dI (zTy cI cZ cH cJ) [.int v, .int lo, .int hi] ([])) zXQ (zXC zIAE) 1 6 (fun _ => False) := by
  refine vx_ofW (cc := cX3_refuseOutside) (maxL := 3) (ret := none) (by decide) rfl ?_
  intro p e s m args below meth c s₁ B hml ht hv0
  obtain ⟨rfl, hT, hP, hK⟩ := hv0
  have hx := B.exec
  have hb := B.bytes
  have hr := B.returns
  have hts := atoms_spec (ws := wsX3_refuseOutside) B.pre
  have hown : s.vm.findClass RX3 = some m.cls := findClass_of_methodNamed B.named
  have hlocks := B.notSynchronized
  have hl := lv_entry ([.int v, .int lo, .int hi]) (n := 3) (Nat.le_of_ble_eq_true rfl)
  rw [lg_entry_eq]
  generalize (lg_sl ([.int v, .int lo, .int hi]) ++ List.replicate (3 - (lg_sl ([.int v, .int lo, .int hi])).length) Slot.unset).toArray = ls at hl ⊢
  have hl : lv_has ls 3 [(0, .int v), (1, .int lo), (2, .int hi)] := hl
  refine lv_iload_n hx hb dX3_refuseOutside_0 rfl (lv_at hl 0 rfl) ?_
  refine lv_iload_n hx hb dX3_refuseOutside_1 rfl (lv_at hl 1 rfl) ?_
  refine lv_icmp_lt (tgt := 10) hx hb dX3_refuseOutside_2 (by decide) (fun c_2 => ?_) (fun c_2 => ?_)
  · skip
    exact z_throw (ik := 121) (ic := 125) (is := 126) (text := "an argument is out of range") hx hb hst hown zf_IAE (hts (.classLink RX3 121 zIAE) (by decide +kernel)) (hts (.initialized zIAE) (by decide +kernel)) hT hT.2.2.2.2.1 (fun w h => hts w (List.mem_cons_of_mem _ (List.mem_append_right _ h))) zb_IAE zg_IAE hml hl.1 dX3_refuseOutside_10 dX3_refuseOutside_13 dX3_refuseOutside_14 dX3_refuseOutside_16 dX3_refuseOutside_19 ht hlocks (by decide) (by decide) (by decide) (by decide) (by decide) (by decide)
  · skip
    refine lv_iload_n hx hb dX3_refuseOutside_5 rfl (lv_at hl 0 rfl) ?_
    refine lv_iload_n hx hb dX3_refuseOutside_6 rfl (lv_at hl 2 rfl) ?_
    refine lv_icmp_le (tgt := 20) hx hb dX3_refuseOutside_7 (by decide) (fun c_7 => ?_) (fun c_7 => ?_)
    · exact absurd c_7 (fun q => zin_bd hv ⟨c_2, q⟩)
    · skip
      exact z_throw (ik := 121) (ic := 125) (is := 126) (text := "an argument is out of range") hx hb hst hown zf_IAE (hts (.classLink RX3 121 zIAE) (by decide +kernel)) (hts (.initialized zIAE) (by decide +kernel)) hT hT.2.2.2.2.1 (fun w h => hts w (List.mem_cons_of_mem _ (List.mem_append_right _ h))) zb_IAE zg_IAE hml hl.1 dX3_refuseOutside_10 dX3_refuseOutside_13 dX3_refuseOutside_14 dX3_refuseOutside_16 dX3_refuseOutside_19 ht hlocks (by decide) (by decide) (by decide) (by decide) (by decide) (by decide)
set_option maxHeartbeats 4000000 in
set_option maxRecDepth 100000 in
/-- refuseRecord -/
theorem kX3_refuseRecord_ok (l : Launch) (r : Nat) (hrr : r < 20) : Met l yX3_refuseRecord wsX3_refuseRecord ({ frames := 1, cells := 0, slots := 0, locals := 22 }) (zSc [.int (nI r)]) zSv 0 0 (fun _ => False) := by
  refine Met.ofW (cc := cX3_refuseRecord) (maxL := 1) (ret := none) (by decide) rfl ?_
  intro p e s m args below meth c s₁ B hml hv0
  obtain ⟨rfl, -⟩ := hv0
  have hx := B.exec
  have hb := B.bytes
  have hr := B.returns
  have hts := atoms_spec (ws := wsX3_refuseRecord) B.pre
  have hown : s.vm.findClass RX3 = some m.cls := findClass_of_methodNamed B.named
  have hlocks := B.notSynchronized
  have hl := lv_entry ([.int (nI r)]) (n := 1) (Nat.le_of_ble_eq_true rfl)
  rw [lg_entry_eq]
  generalize (lg_sl ([.int (nI r)]) ++ List.replicate (1 - (lg_sl ([.int (nI r)])).length) Slot.unset).toArray = ls at hl ⊢
  have hl : lv_has ls 1 [(0, .int (nI r))] := hl
  refine lv_iload_n hx hb dX3_refuseRecord_0 rfl (lv_at hl 0 rfl) ?_
  refine lv_iconst (v := 0) hx hb dX3_refuseRecord_1 (by decide) ?_
  refine lv_bipush (v := 19) hx hb dX3_refuseRecord_2 (by decide) ?_
  refine z_cRv (va_runS (As := [.int (nI r), .int 0, .int 19]) (rest := []) ⟨hx, hb, hml, hown, hts⟩ (kX3_refuseOutside_ok l (nI r) 0 19 (zin_r _ hrr)) (va_cwS 3 hts gX3_refuseRecord_X3_refuseOutside rfl rfl rfl (by decide +kernel) ⟨Nat.le_of_ble_eq_true rfl, Nat.le_of_ble_eq_true rfl⟩) (zPre0) rfl rfl hl.1 rfl (lv_room (Nat.le_of_ble_eq_true rfl)) dX3_refuseRecord_4 ⟨Nat.le_of_ble_eq_true rfl, Nat.le_of_ble_eq_true rfl⟩) ?_
  exact W.vret hx hb hr (fun t ht hW => ⟨rfl, ht⟩) (fun _ h => nomatch h) dX3_refuseRecord_7
set_option maxHeartbeats 4000000 in
set_option maxRecDepth 100000 in
/-- refuseRecord, out of range -/
theorem kX3_refuseRecord_bad (l : Launch) (dC : Nat → ClassId) (dI : Nat → Nat → Nat) (cI cZ cH cJ : ClassId) (v : Int32) (hv : ¬ zin v 0 19 = 1) (hst : l.stackTraces = false) : vx_Met l yX3_refuseRecord wsX3_refuseRecord ({ frames := 7, cells := 1, slots := 6, locals := 112 }) (zXc dC dI (zTy cI cZ cH cJ) [.int v] ([])) zXQ (zXC zIAE) 1 6 (fun _ => False) := by
  refine vx_ofW (cc := cX3_refuseRecord) (maxL := 1) (ret := none) (by decide) rfl ?_
  intro p e s m args below meth c s₁ B hml ht hv0
  obtain ⟨rfl, hT, hP, hK⟩ := hv0
  have hx := B.exec
  have hb := B.bytes
  have hr := B.returns
  have hts := atoms_spec (ws := wsX3_refuseRecord) B.pre
  have hown : s.vm.findClass RX3 = some m.cls := findClass_of_methodNamed B.named
  have hlocks := B.notSynchronized
  have hl := lv_entry ([.int v]) (n := 1) (Nat.le_of_ble_eq_true rfl)
  rw [lg_entry_eq]
  generalize (lg_sl ([.int v]) ++ List.replicate (1 - (lg_sl ([.int v])).length) Slot.unset).toArray = ls at hl ⊢
  have hl : lv_has ls 1 [(0, .int v)] := hl
  refine lv_iload_n hx hb dX3_refuseRecord_0 rfl (lv_at hl 0 rfl) ?_
  refine lv_iconst (v := 0) hx hb dX3_refuseRecord_1 (by decide) ?_
  refine lv_bipush (v := 19) hx hb dX3_refuseRecord_2 (by decide) ?_
  exact z_cX (vx_runS (As := [.int v, .int 0, .int 19]) (rest := []) ⟨hx, hb, hml, hown, hts⟩ (kX3_refuseOutside_bad l dC dI cI cZ cH cJ v 0 19 (hv) hst) (va_cwS 3 hts gX3_refuseRecord_X3_refuseOutside rfl rfl rfl (by decide +kernel) ⟨Nat.le_of_ble_eq_true rfl, Nat.le_of_ble_eq_true rfl⟩) (zPreXS (is := []) hT hK hP rfl) rfl rfl hl.1 rfl (lv_room (Nat.le_of_ble_eq_true rfl)) dX3_refuseRecord_4 ⟨Nat.le_of_ble_eq_true rfl, Nat.le_of_ble_eq_true rfl⟩) hlocks ht (by decide) (by decide)
set_option maxHeartbeats 4000000 in
set_option maxRecDepth 100000 in
/-- harvestOf, in range -/
theorem kX3_harvestOf_ok (l : Launch) (dC : Nat → ClassId) (dI : Nat → Nat → Nat) (cI cZ cH cJ : ClassId) (x0 : Nat) (xq : Nat) (now : Int32) (xg : Nat → Option Nat) (hq : Nat) (ca : Nat) (hca : ca < 4) (hg : xg ca = some hq) : Met l yX3_harvestOf wsX3_harvestOf ({ frames := 0, cells := 0, slots := 0, locals := 0 }) (zRc dC dI (zTy cI cZ cH cJ) [.ref x0, .int (nI ca)] ([(x0, .inr (3, [.ref xq, .int now])), (xq, .inl (cH, 4, .inr (.inr (.inr (.inr xg)))))])) (zSr hq) 0 0 (fun _ => False) := by
  refine Met.ofW (cc := cX3_harvestOf) (maxL := 3) (ret := (some (.object "CatalogueHarvester$Harvest"))) (by decide) rfl ?_
  intro p e s m args below meth c s₁ B hml hv0
  obtain ⟨rfl, hP, hK⟩ := hv0
  have hx := B.exec
  have hb := B.bytes
  have hr := B.returns
  have hts := atoms_spec (ws := wsX3_harvestOf) B.pre
  have hown : s.vm.findClass RX3 = some m.cls := findClass_of_methodNamed B.named
  have hlocks := B.notSynchronized
  have hl := lv_entry ([.ref x0, .int (nI ca)]) (n := 3) (Nat.le_of_ble_eq_true rfl)
  rw [lg_entry_eq]
  generalize (lg_sl ([.ref x0, .int (nI ca)]) ++ List.replicate (3 - (lg_sl ([.ref x0, .int (nI ca)])).length) Slot.unset).toArray = ls at hl ⊢
  have hl : lv_has ls 3 [(0, .ref x0), (1, .int (nI ca))] := hl
  have hiX3 : ∀ w ∈ wsX30, w ∈ wsX3_harvestOf := by decide +kernel
  have l11 := hts (.fieldLink RX3 11 "CatalogueHarvester" "harvests" "[LCatalogueHarvester$Harvest;") (by decide +kernel)
  refine lv_iload_n hx hb dX3_harvestOf_0 rfl (lv_at hl 1 rfl) ?_
  refine lv_if_lt (tgt := 18) hx hb dX3_harvestOf_1 (by decide) (fun c_1 => ?_) (fun c_1 => ?_)
  · exact absurd c_1 (nI_pos (by omega))
  · skip
    refine lv_iload_n hx hb dX3_harvestOf_4 rfl (lv_at hl 1 rfl) ?_
    refine lv_iconst (v := 4) hx hb dX3_harvestOf_5 (by decide) ?_
    refine lv_icmp_ge (tgt := 18) hx hb dX3_harvestOf_6 (by decide) (fun c_6 => ?_) (fun c_6 => ?_)
    · exact absurd c_6 (nI_ge (b := 4) hca (by decide))
    · skip
      refine lv_aload_n hx hb dX3_harvestOf_9 rfl (lv_at hl 0 rfl) ?_
      refine va_get (D := (dC, dI)) (ci := 3) (v := .ref xq) (C := RX3) (T := TX3) (N := 2) hx hb hts hiX3 hown hK hP 0 rfl rfl 0 (by decide) l11 (fun _ h9 => h9) rfl dX3_harvestOf_10 ?_
      refine lv_iload_n hx hb dX3_harvestOf_13 rfl (lv_at hl 1 rfl) ?_
      refine z_aldq (v := .ref hq) hx hb hK hP 1 rfl (zix_nI (by first | assumption | omega) (by decide)) (by rw [hg]; rfl) dX3_harvestOf_14 ?_
      refine lv_goto (tgt := 19) hx hb dX3_harvestOf_15 (by decide) ?_
      refine lv_astore_n (lv' := [(2, .ref hq), (0, .ref x0), (1, .int (nI ca))]) hx hb dX3_harvestOf_19 rfl hl (by decide) rfl (fun ls hl => ?_)
      refine lv_aload_n hx hb dX3_harvestOf_20 rfl (lv_at hl 0 rfl) ?_
      refine lv_ifnonnull (tgt := 34) hx hb dX3_harvestOf_21 (by decide) ?_
      refine lv_aload_n hx hb dX3_harvestOf_34 rfl (lv_at hl 0 rfl) ?_
      exact W.aret hx hb hr (Or.inl ⟨_, rfl⟩) (Or.inr ⟨_, rfl⟩) (fun t ht hW => ⟨rfl, ht⟩) (fun _ h => nomatch h) dX3_harvestOf_35
set_option maxHeartbeats 4000000 in
set_option maxRecDepth 100000 in
/-- harvestOf, out of range -/
theorem kX3_harvestOf_bad (l : Launch) (dC : Nat → ClassId) (dI : Nat → Nat → Nat) (cI cZ cH cJ : ClassId) (x0 : Nat) (xq : Nat) (now : Int32) (xg : Nat → Option Nat) (v : Int32) (hv : ¬ zin v 0 3 = 1) (hst : l.stackTraces = false) : vx_Met l yX3_harvestOf wsX3_harvestOf ({ frames := 6, cells := 1, slots := 6, locals := 90 }) (zXc dC dI (zTy cI cZ cH cJ) [.ref x0, .int v] ([(x0, .inr (3, [.ref xq, .int now])), (xq, .inl (cH, 4, .inr (.inr (.inr (.inr xg)))))])) zXQ (zXC zIAE) 1 6 (fun _ => False) := by
  refine vx_ofW (cc := cX3_harvestOf) (maxL := 3) (ret := (some (.object "CatalogueHarvester$Harvest"))) (by decide) rfl ?_
  intro p e s m args below meth c s₁ B hml ht hv0
  obtain ⟨rfl, hT, hP, hK⟩ := hv0
  have hx := B.exec
  have hb := B.bytes
  have hr := B.returns
  have hts := atoms_spec (ws := wsX3_harvestOf) B.pre
  have hown : s.vm.findClass RX3 = some m.cls := findClass_of_methodNamed B.named
  have hlocks := B.notSynchronized
  have hl := lv_entry ([.ref x0, .int v]) (n := 3) (Nat.le_of_ble_eq_true rfl)
  rw [lg_entry_eq]
  generalize (lg_sl ([.ref x0, .int v]) ++ List.replicate (3 - (lg_sl ([.ref x0, .int v])).length) Slot.unset).toArray = ls at hl ⊢
  have hl : lv_has ls 3 [(0, .ref x0), (1, .int v)] := hl
  refine lv_iload_n hx hb dX3_harvestOf_0 rfl (lv_at hl 1 rfl) ?_
  refine lv_if_lt (tgt := 18) hx hb dX3_harvestOf_1 (by decide) (fun c_1 => ?_) (fun c_1 => ?_)
  · skip
    refine lv_null hx hb dX3_harvestOf_18 ?_
    refine lv_astore_nN (lv' := [(2, .null), (0, .ref x0), (1, .int v)]) hx hb dX3_harvestOf_19 rfl hl (by decide) rfl (fun ls hl => ?_)
    refine lv_aload_nN hx hb dX3_harvestOf_20 rfl (lv_at hl 0 rfl) ?_
    refine lv_ifnonnullN hx hb dX3_harvestOf_21 ?_
    exact z_throw (ik := 121) (ic := 125) (is := 123) (text := "there are the catalogues 0 to 3") hx hb hst hown zf_IAE (hts (.classLink RX3 121 zIAE) (by decide +kernel)) (hts (.initialized zIAE) (by decide +kernel)) hT hT.2.2.2.1 (fun w h => hts w (List.mem_cons_of_mem _ (List.mem_append_right _ h))) zb_IAE zg_IAE hml hl.1 dX3_harvestOf_24 dX3_harvestOf_27 dX3_harvestOf_28 dX3_harvestOf_30 dX3_harvestOf_33 ht hlocks (by decide) (by decide) (by decide) (by decide) (by decide) (by decide)
  · skip
    refine lv_iload_n hx hb dX3_harvestOf_4 rfl (lv_at hl 1 rfl) ?_
    refine lv_iconst (v := 4) hx hb dX3_harvestOf_5 (by decide) ?_
    refine lv_icmp_ge (tgt := 18) hx hb dX3_harvestOf_6 (by decide) (fun c_6 => ?_) (fun c_6 => ?_)
    · skip
      refine lv_null hx hb dX3_harvestOf_18 ?_
      refine lv_astore_nN (lv' := [(2, .null), (0, .ref x0), (1, .int v)]) hx hb dX3_harvestOf_19 rfl hl (by decide) rfl (fun ls hl => ?_)
      refine lv_aload_nN hx hb dX3_harvestOf_20 rfl (lv_at hl 0 rfl) ?_
      refine lv_ifnonnullN hx hb dX3_harvestOf_21 ?_
      exact z_throw (ik := 121) (ic := 125) (is := 123) (text := "there are the catalogues 0 to 3") hx hb hst hown zf_IAE (hts (.classLink RX3 121 zIAE) (by decide +kernel)) (hts (.initialized zIAE) (by decide +kernel)) hT hT.2.2.2.1 (fun w h => hts w (List.mem_cons_of_mem _ (List.mem_append_right _ h))) zb_IAE zg_IAE hml hl.1 dX3_harvestOf_24 dX3_harvestOf_27 dX3_harvestOf_28 dX3_harvestOf_30 dX3_harvestOf_33 ht hlocks (by decide) (by decide) (by decide) (by decide) (by decide) (by decide)
    · exact absurd c_6 (fun q => zin_b4 hv c_1 q)
set_option maxHeartbeats 4000000 in
set_option maxRecDepth 100000 in
/-- CatalogueHarvester.setCatalogue_ok -/
theorem kX3_setCatalogue_ok (l : Launch) (dC : Nat → ClassId) (dI : Nat → Nat → Nat) (cI cZ cH cJ : ClassId) (x0 : Nat) (xq : Nat) (now : Int32) (xg : Nat → Option Nat) (ca : Nat) (hca : ca < 4) (ha : Nat → Nat) (hg : xg ca = some (ha 0)) (mk : Int32) (ho : Int32) (fl : Int32) (od : Int32) (td : Int32) (ps : Int32) (pr : Int32) (un : Int32) (de : Int32) (iT : zI) (rD : zI) (b : Int32) (w : Int32) (hb1 : zin b 1 30 = 1) (hw1 : zin w 0 2 = 1) (sz : Nat) : Met l yX3_setCatalogue wsX3_setCatalogue ({ frames := 1, cells := 0, slots := 0, locals := 23 }) (zPc dC dI (zTy cI cZ cH cJ) [.ref x0, .int (nI ca), .int b, .int w] sz ([(x0, .inr (3, [.ref xq, .int now])), (xq, .inl (cH, 4, .inr (.inr (.inr (.inr xg))))), (ha 0, .inr (1, [.ref (ha 1), .ref (ha 2), .int mk, .int ho, .int fl, .int od, .int td, .int ps, .int pr, .ref (ha 3)])), (ha 1, .inr (0, [.ref (ha 4), .ref (ha 5), .ref (ha 6), .ref (ha 7), .int un, .int de])), (ha 5, .inl (cZ, 20, .inl iT)), (ha 7, .inl (cI, 20, .inl rD))])) (zQi dC dI un ([(x0, .inr (3, [.ref xq, .int now])), (xq, .inl (cH, 4, .inr (.inr (.inr (.inr xg))))), (ha 0, .inr (1, [.ref (ha 1), .ref (ha 2), .int mk, .int ho, .int fl, .int od, .int td, .int ps, .int pr, .ref (ha 3)])), (ha 1, .inr (0, [.ref (ha 4), .ref (ha 5), .ref (ha 6), .ref (ha 7), .int b, .int w])), (ha 5, .inl (cZ, 20, .inl (zfg iT rD w now 20))), (ha 7, .inl (cI, 20, .inl rD))]) (va_A ([(x0, .inr (3, [.ref xq, .int now])), (xq, .inl (cH, 4, .inr (.inr (.inr (.inr xg))))), (ha 0, .inr (1, [.ref (ha 1), .ref (ha 2), .int mk, .int ho, .int fl, .int od, .int td, .int ps, .int pr, .ref (ha 3)])), (ha 1, .inr (0, [.ref (ha 4), .ref (ha 5), .ref (ha 6), .ref (ha 7), .int un, .int de])), (ha 5, .inl (cZ, 20, .inl iT)), (ha 7, .inl (cI, 20, .inl rD))]) sz)) 0 0 (va_A ([(x0, .inr (3, [.ref xq, .int now])), (xq, .inl (cH, 4, .inr (.inr (.inr (.inr xg))))), (ha 0, .inr (1, [.ref (ha 1), .ref (ha 2), .int mk, .int ho, .int fl, .int od, .int td, .int ps, .int pr, .ref (ha 3)])), (ha 1, .inr (0, [.ref (ha 4), .ref (ha 5), .ref (ha 6), .ref (ha 7), .int un, .int de])), (ha 5, .inl (cZ, 20, .inl iT)), (ha 7, .inl (cI, 20, .inl rD))]) sz) := by
  refine Met.ofW (cc := cX3_setCatalogue) (maxL := 6) (ret := (some .int)) (by decide) rfl ?_
  intro p e s m args below meth c s₁ B hml hv0
  obtain ⟨rfl, hsz, hP, hK, hD0⟩ := hv0
  have hx := B.exec
  have hb := B.bytes
  have hr := B.returns
  have hts := atoms_spec (ws := wsX3_setCatalogue) B.pre
  have hown : s.vm.findClass RX3 = some m.cls := findClass_of_methodNamed B.named
  have hlocks := B.notSynchronized
  subst hsz
  have hD := hD0.self (sz := s.heap.size)
  generalize hAe : va_A ([(x0, .inr (3, [.ref xq, .int now])), (xq, .inl (cH, 4, .inr (.inr (.inr (.inr xg))))), (ha 0, .inr (1, [.ref (ha 1), .ref (ha 2), .int mk, .int ho, .int fl, .int od, .int td, .int ps, .int pr, .ref (ha 3)])), (ha 1, .inr (0, [.ref (ha 4), .ref (ha 5), .ref (ha 6), .ref (ha 7), .int un, .int de])), (ha 5, .inl (cZ, 20, .inl iT)), (ha 7, .inl (cI, 20, .inl rD))]) s.heap.size = A at hD ⊢
  have hA : ∀ q : Nat, s.heap.size ≤ q → A q := fun q h => by rw [← hAe]; exact Or.inr h
  have hS : va_S A s.heap s.heap [] := va_S.rf
  have hl := lv_entry ([.ref x0, .int (nI ca), .int b, .int w]) (n := 6) (Nat.le_of_ble_eq_true rfl)
  rw [lg_entry_eq]
  generalize (lg_sl ([.ref x0, .int (nI ca), .int b, .int w]) ++ List.replicate (6 - (lg_sl ([.ref x0, .int (nI ca), .int b, .int w])).length) Slot.unset).toArray = ls at hl ⊢
  have hl : lv_has ls 6 [(0, .ref x0), (1, .int (nI ca)), (2, .int b), (3, .int w)] := hl
  have hiX0 : ∀ w ∈ wsX00, w ∈ wsX3_setCatalogue := by decide +kernel
  have hiX1 : ∀ w ∈ wsX10, w ∈ wsX3_setCatalogue := by decide +kernel
  have hiX3 : ∀ w ∈ wsX30, w ∈ wsX3_setCatalogue := by decide +kernel
  have l16 := hts (.fieldLink RX3 16 "CatalogueHarvester" "today" "I") (by decide +kernel)
  have l28 := hts (.fieldLink RX3 28 "CatalogueHarvester$Harvest" "far" "LCatalogueHarvester$FarCatalogue;") (by decide +kernel)
  have l32 := hts (.fieldLink RX3 32 "CatalogueHarvester$FarCatalogue" "unit" "I") (by decide +kernel)
  have l37 := hts (.fieldLink RX3 37 "CatalogueHarvester$FarCatalogue" "deletes" "I") (by decide +kernel)
  refine lv_aload_n hx hb dX3_setCatalogue_0 rfl (lv_at hl 0 rfl) ?_
  refine lv_iload_n hx hb dX3_setCatalogue_1 rfl (lv_at hl 1 rfl) ?_
  refine z_cRr (va_runV (As := [.int (nI ca)]) (rest := []) ⟨hx, hb, hml, hown, hts⟩ (kX3_harvestOf_ok l dC dI cI cZ cH cJ x0 xq now xg (ha 0) ca (by first | assumption | omega) hg) (cwV 1 hts gX3_setCatalogue_X3_harvestOf rfl rfl rfl (by decide +kernel) ⟨Nat.le_of_ble_eq_true rfl, Nat.le_of_ble_eq_true rfl⟩) (zPreR (is := [0, 1]) hK hP rfl (va_recv hK hP (ci := 3) (q0 := 0) rfl rfl)) rfl rfl hl.1 rfl (lv_room (Nat.le_of_ble_eq_true rfl)) dX3_setCatalogue_2 ⟨Nat.le_of_ble_eq_true rfl, Nat.le_of_ble_eq_true rfl⟩) ?_
  refine lv_astore (lv' := [(4, .ref (ha 0)), (0, .ref x0), (1, .int (nI ca)), (2, .int b), (3, .int w)]) hx hb dX3_setCatalogue_5 hl (by decide) rfl (fun ls hl => ?_)
  refine lv_iload_n hx hb dX3_setCatalogue_7 rfl (lv_at hl 3 rfl) ?_
  refine lv_iconst (v := 1) hx hb dX3_setCatalogue_8 (by decide) ?_
  refine lv_bipush (v := 30) hx hb dX3_setCatalogue_9 (by decide) ?_
  refine z_cRv (va_runS (As := [.int b, .int 1, .int 30]) (rest := []) ⟨hx, hb, hml, hown, hts⟩ (kX3_refuseOutside_ok l b 1 30 (hb1)) (va_cwS 3 hts gX3_setCatalogue_X3_refuseOutside rfl rfl rfl (by decide +kernel) ⟨Nat.le_of_ble_eq_true rfl, Nat.le_of_ble_eq_true rfl⟩) (zPre0) rfl rfl hl.1 rfl (lv_room (Nat.le_of_ble_eq_true rfl)) dX3_setCatalogue_11 ⟨Nat.le_of_ble_eq_true rfl, Nat.le_of_ble_eq_true rfl⟩) ?_
  refine lv_iload_n hx hb dX3_setCatalogue_14 rfl (lv_at hl 4 rfl) ?_
  refine lv_iconst (v := 0) hx hb dX3_setCatalogue_15 (by decide) ?_
  refine lv_iconst (v := 2) hx hb dX3_setCatalogue_16 (by decide) ?_
  refine z_cRv (va_runS (As := [.int w, .int 0, .int 2]) (rest := []) ⟨hx, hb, hml, hown, hts⟩ (kX3_refuseOutside_ok l w 0 2 (hw1)) (va_cwS 3 hts gX3_setCatalogue_X3_refuseOutside rfl rfl rfl (by decide +kernel) ⟨Nat.le_of_ble_eq_true rfl, Nat.le_of_ble_eq_true rfl⟩) (zPre0) rfl rfl hl.1 rfl (lv_room (Nat.le_of_ble_eq_true rfl)) dX3_setCatalogue_17 ⟨Nat.le_of_ble_eq_true rfl, Nat.le_of_ble_eq_true rfl⟩) ?_
  refine lv_aload hx hb dX3_setCatalogue_20 (lv_at hl 0 rfl) ?_
  refine va_get (D := (dC, dI)) (ci := 1) (v := .ref (ha 1)) (C := RX1) (T := TX1) (N := 10) hx hb hts hiX1 hown hK hP 2 rfl rfl 0 (by decide) l28 (fun _ h9 => h9) rfl dX3_setCatalogue_22 ?_
  refine va_get (D := (dC, dI)) (ci := 0) (v := .int un) (C := RX0) (T := TX0) (N := 6) hx hb hts hiX0 hown hK hP 3 rfl rfl 4 (by decide) l32 (fun _ h9 => h9) rfl dX3_setCatalogue_25 ?_
  refine lv_istore (lv' := [(5, .int un), (4, .ref (ha 0)), (0, .ref x0), (1, .int (nI ca)), (2, .int b), (3, .int w)]) hx hb dX3_setCatalogue_28 hl (by decide) rfl (fun ls hl => ?_)
  refine lv_aload hx hb dX3_setCatalogue_30 (lv_at hl 1 rfl) ?_
  refine va_get (D := (dC, dI)) (ci := 1) (v := .ref (ha 1)) (C := RX1) (T := TX1) (N := 10) hx hb hts hiX1 hown hK hP 2 rfl rfl 0 (by decide) l28 (fun _ h9 => h9) rfl dX3_setCatalogue_32 ?_
  refine lv_iload_n hx hb dX3_setCatalogue_35 rfl (lv_at hl 4 rfl) ?_
  refine va_put (D := (dC, dI)) (ci := 0) (v := .int b) (ty := .int) (C := RX0) (T := TX0) (N := 6) hx hb hts hiX0 tyX0 tyX0_ok nmX0 hown hK hP hD hS 3 rfl rfl 4 (by decide) l32 (fun _ h9 => h9) rfl (by decide +kernel) (rfl) (rfl) (Nat.le_of_ble_eq_true rfl) dX3_setCatalogue_36 (fun H locs hP hD hS => ?_)
  have hP : va_P (dC, dI) vwCl ([(x0, .inr (3, [.ref xq, .int now])), (xq, .inl (cH, 4, .inr (.inr (.inr (.inr xg))))), (ha 0, .inr (1, [.ref (ha 1), .ref (ha 2), .int mk, .int ho, .int fl, .int od, .int td, .int ps, .int pr, .ref (ha 3)])), (ha 1, .inr (0, [.ref (ha 4), .ref (ha 5), .ref (ha 6), .ref (ha 7), .int b, .int de])), (ha 5, .inl (cZ, 20, .inl iT)), (ha 7, .inl (cI, 20, .inl rD))]) H := hP
  have hD : va_D A ([(x0, .inr (3, [.ref xq, .int now])), (xq, .inl (cH, 4, .inr (.inr (.inr (.inr xg))))), (ha 0, .inr (1, [.ref (ha 1), .ref (ha 2), .int mk, .int ho, .int fl, .int od, .int td, .int ps, .int pr, .ref (ha 3)])), (ha 1, .inr (0, [.ref (ha 4), .ref (ha 5), .ref (ha 6), .ref (ha 7), .int b, .int de])), (ha 5, .inl (cZ, 20, .inl iT)), (ha 7, .inl (cI, 20, .inl rD))]) := hD
  refine lv_aload hx hb dX3_setCatalogue_39 (lv_at hl 1 rfl) ?_
  refine va_get (D := (dC, dI)) (ci := 1) (v := .ref (ha 1)) (C := RX1) (T := TX1) (N := 10) hx hb hts hiX1 hown hK hP 2 rfl rfl 0 (by decide) l28 (fun _ h9 => h9) rfl dX3_setCatalogue_41 ?_
  refine lv_iload_n hx hb dX3_setCatalogue_44 rfl (lv_at hl 5 rfl) ?_
  refine va_put (D := (dC, dI)) (ci := 0) (v := .int w) (ty := .int) (C := RX0) (T := TX0) (N := 6) hx hb hts hiX0 tyX0 tyX0_ok nmX0 hown hK hP hD hS 3 rfl rfl 5 (by decide) l37 (fun _ h9 => h9) rfl (by decide +kernel) (rfl) (rfl) (Nat.le_of_ble_eq_true rfl) dX3_setCatalogue_45 (fun H locs hP hD hS => ?_)
  have hP : va_P (dC, dI) vwCl ([(x0, .inr (3, [.ref xq, .int now])), (xq, .inl (cH, 4, .inr (.inr (.inr (.inr xg))))), (ha 0, .inr (1, [.ref (ha 1), .ref (ha 2), .int mk, .int ho, .int fl, .int od, .int td, .int ps, .int pr, .ref (ha 3)])), (ha 1, .inr (0, [.ref (ha 4), .ref (ha 5), .ref (ha 6), .ref (ha 7), .int b, .int w])), (ha 5, .inl (cZ, 20, .inl iT)), (ha 7, .inl (cI, 20, .inl rD))]) H := hP
  have hD : va_D A ([(x0, .inr (3, [.ref xq, .int now])), (xq, .inl (cH, 4, .inr (.inr (.inr (.inr xg))))), (ha 0, .inr (1, [.ref (ha 1), .ref (ha 2), .int mk, .int ho, .int fl, .int od, .int td, .int ps, .int pr, .ref (ha 3)])), (ha 1, .inr (0, [.ref (ha 4), .ref (ha 5), .ref (ha 6), .ref (ha 7), .int b, .int w])), (ha 5, .inl (cZ, 20, .inl iT)), (ha 7, .inl (cI, 20, .inl rD))]) := hD
  refine lv_aload hx hb dX3_setCatalogue_48 (lv_at hl 1 rfl) ?_
  refine va_get (D := (dC, dI)) (ci := 1) (v := .ref (ha 1)) (C := RX1) (T := TX1) (N := 10) hx hb hts hiX1 hown hK hP 2 rfl rfl 0 (by decide) l28 (fun _ h9 => h9) rfl dX3_setCatalogue_50 ?_
  refine lv_aload_n hx hb dX3_setCatalogue_53 rfl (lv_at hl 2 rfl) ?_
  refine va_get (D := (dC, dI)) (ci := 3) (v := .int now) (C := RX3) (T := TX3) (N := 2) hx hb hts hiX3 hown hK hP 0 rfl rfl 1 (by decide) l16 (fun _ h9 => h9) rfl dX3_setCatalogue_54 ?_
  refine z_cMv (is := [3, 4, 5]) (va_runV (As := [.int now]) (rest := []) ⟨hx, hb, hml, hown, hts⟩ (kX0_forgetToldDeletes l dC dI cI cZ cH cJ (ha 1) (ha 4) (ha 5) (ha 6) (ha 7) b w iT rD now H.size) (cwV 1 hts gX3_setCatalogue_X0_forgetToldDeletes rfl rfl rfl (by decide +kernel) ⟨Nat.le_of_ble_eq_true rfl, Nat.le_of_ble_eq_true rfl⟩) (zPreV (is := [3, 4, 5]) hK hP hD (by decide) rfl (va_recv hK hP (ci := 0) (q0 := 3) rfl rfl)) rfl rfl hl.1 rfl (lv_room (Nat.le_of_ble_eq_true rfl)) dX3_setCatalogue_57 ⟨Nat.le_of_ble_eq_true rfl, Nat.le_of_ble_eq_true rfl⟩) hP hD hS hA rfl (by decide) rfl (fun H locs hP hD hS => ?_)
  have hP : va_P (dC, dI) vwCl ([(x0, .inr (3, [.ref xq, .int now])), (xq, .inl (cH, 4, .inr (.inr (.inr (.inr xg))))), (ha 0, .inr (1, [.ref (ha 1), .ref (ha 2), .int mk, .int ho, .int fl, .int od, .int td, .int ps, .int pr, .ref (ha 3)])), (ha 1, .inr (0, [.ref (ha 4), .ref (ha 5), .ref (ha 6), .ref (ha 7), .int b, .int w])), (ha 5, .inl (cZ, 20, .inl (zfg iT rD w now 20))), (ha 7, .inl (cI, 20, .inl rD))]) H := hP
  have hD : va_D A ([(x0, .inr (3, [.ref xq, .int now])), (xq, .inl (cH, 4, .inr (.inr (.inr (.inr xg))))), (ha 0, .inr (1, [.ref (ha 1), .ref (ha 2), .int mk, .int ho, .int fl, .int od, .int td, .int ps, .int pr, .ref (ha 3)])), (ha 1, .inr (0, [.ref (ha 4), .ref (ha 5), .ref (ha 6), .ref (ha 7), .int b, .int w])), (ha 5, .inl (cZ, 20, .inl (zfg iT rD w now 20))), (ha 7, .inl (cI, 20, .inl rD))]) := hD
  refine lv_iload hx hb dX3_setCatalogue_60 (lv_at hl 0 rfl) ?_
  exact W.iret hx hb hr (fun t ht hW => ⟨rfl, ⟨by rw [ht]; exact hP, hD⟩, hS.F ht⟩) hS.2.2 dX3_setCatalogue_62
set_option maxHeartbeats 4000000 in
set_option maxRecDepth 100000 in
/-- CatalogueHarvester.setCatalogue_bad -/
theorem kX3_setCatalogue_bad (l : Launch) (dC : Nat → ClassId) (dI : Nat → Nat → Nat) (cI cZ cH cJ : ClassId) (x0 : Nat) (xq : Nat) (now : Int32) (xg : Nat → Option Nat) (had : Nat → Nat → Nat) (hg : ∀ i, i < 4 → xg i = some (had i 0)) (a : Int32) (b : Int32) (w : Int32) (hv : ¬ (zin a 0 3 = 1 ∧ zin b 1 30 = 1 ∧ zin w 0 2 = 1)) (hst : l.stackTraces = false) : vx_Met l yX3_setCatalogue wsX3_setCatalogue ({ frames := 7, cells := 1, slots := 6, locals := 112 }) (zXc dC dI (zTy cI cZ cH cJ) [.ref x0, .int a, .int b, .int w] ([(x0, .inr (3, [.ref xq, .int now])), (xq, .inl (cH, 4, .inr (.inr (.inr (.inr xg)))))])) zXQ (zXC zIAE) 1 6 (fun _ => False) := by
  refine vx_ofW (cc := cX3_setCatalogue) (maxL := 6) (ret := (some .int)) (by decide) rfl ?_
  intro p e s m args below meth c s₁ B hml ht hv0
  obtain ⟨rfl, hT, hP, hK⟩ := hv0
  have hx := B.exec
  have hb := B.bytes
  have hr := B.returns
  have hts := atoms_spec (ws := wsX3_setCatalogue) B.pre
  have hown : s.vm.findClass RX3 = some m.cls := findClass_of_methodNamed B.named
  have hlocks := B.notSynchronized
  have hl := lv_entry ([.ref x0, .int a, .int b, .int w]) (n := 6) (Nat.le_of_ble_eq_true rfl)
  rw [lg_entry_eq]
  generalize (lg_sl ([.ref x0, .int a, .int b, .int w]) ++ List.replicate (6 - (lg_sl ([.ref x0, .int a, .int b, .int w])).length) Slot.unset).toArray = ls at hl ⊢
  have hl : lv_has ls 6 [(0, .ref x0), (1, .int a), (2, .int b), (3, .int w)] := hl
  refine lv_aload_n hx hb dX3_setCatalogue_0 rfl (lv_at hl 0 rfl) ?_
  refine lv_iload_n hx hb dX3_setCatalogue_1 rfl (lv_at hl 1 rfl) ?_
  rcases Classical.em (zin a 0 3 = 1) with hc_2 | hc_2
  · skip
    obtain ⟨ca, hca, ea⟩ := zin_nat (n := 3) (by decide) hc_2
    subst ea
    refine z_cRr (va_runV (As := [.int (nI ca)]) (rest := []) ⟨hx, hb, hml, hown, hts⟩ (kX3_harvestOf_ok l dC dI cI cZ cH cJ x0 xq now xg (had ca 0) ca (by first | assumption | omega) (hg ca hca)) (cwV 1 hts gX3_setCatalogue_X3_harvestOf rfl rfl rfl (by decide +kernel) ⟨Nat.le_of_ble_eq_true rfl, Nat.le_of_ble_eq_true rfl⟩) (zPreR (is := [0, 1]) hK hP rfl (va_recv hK hP (ci := 3) (q0 := 0) rfl rfl)) rfl rfl hl.1 rfl (lv_room (Nat.le_of_ble_eq_true rfl)) dX3_setCatalogue_2 ⟨Nat.le_of_ble_eq_true rfl, Nat.le_of_ble_eq_true rfl⟩) ?_
    refine lv_astore (lv' := [(4, .ref (had ca 0)), (0, .ref x0), (1, .int (nI ca)), (2, .int b), (3, .int w)]) hx hb dX3_setCatalogue_5 hl (by decide) rfl (fun ls hl => ?_)
    refine lv_iload_n hx hb dX3_setCatalogue_7 rfl (lv_at hl 3 rfl) ?_
    refine lv_iconst (v := 1) hx hb dX3_setCatalogue_8 (by decide) ?_
    refine lv_bipush (v := 30) hx hb dX3_setCatalogue_9 (by decide) ?_
    rcases Classical.em (zin b 1 30 = 1) with hc_11 | hc_11
    · skip
      refine z_cRv (va_runS (As := [.int b, .int 1, .int 30]) (rest := []) ⟨hx, hb, hml, hown, hts⟩ (kX3_refuseOutside_ok l b 1 30 (hc_11)) (va_cwS 3 hts gX3_setCatalogue_X3_refuseOutside rfl rfl rfl (by decide +kernel) ⟨Nat.le_of_ble_eq_true rfl, Nat.le_of_ble_eq_true rfl⟩) (zPre0) rfl rfl hl.1 rfl (lv_room (Nat.le_of_ble_eq_true rfl)) dX3_setCatalogue_11 ⟨Nat.le_of_ble_eq_true rfl, Nat.le_of_ble_eq_true rfl⟩) ?_
      refine lv_iload_n hx hb dX3_setCatalogue_14 rfl (lv_at hl 4 rfl) ?_
      refine lv_iconst (v := 0) hx hb dX3_setCatalogue_15 (by decide) ?_
      refine lv_iconst (v := 2) hx hb dX3_setCatalogue_16 (by decide) ?_
      rcases Classical.em (zin w 0 2 = 1) with hc_17 | hc_17
      · skip
        exact absurd (⟨zin_c _ hca, hc_11, hc_17⟩) hv
      · skip
        exact z_cX (vx_runS (As := [.int w, .int 0, .int 2]) (rest := []) ⟨hx, hb, hml, hown, hts⟩ (kX3_refuseOutside_bad l dC dI cI cZ cH cJ w 0 2 (hc_17) hst) (va_cwS 3 hts gX3_setCatalogue_X3_refuseOutside rfl rfl rfl (by decide +kernel) ⟨Nat.le_of_ble_eq_true rfl, Nat.le_of_ble_eq_true rfl⟩) (zPreXS (is := []) hT hK hP rfl) rfl rfl hl.1 rfl (lv_room (Nat.le_of_ble_eq_true rfl)) dX3_setCatalogue_17 ⟨Nat.le_of_ble_eq_true rfl, Nat.le_of_ble_eq_true rfl⟩) hlocks ht (by decide) (by decide)
    · skip
      exact z_cX (vx_runS (As := [.int b, .int 1, .int 30]) (rest := []) ⟨hx, hb, hml, hown, hts⟩ (kX3_refuseOutside_bad l dC dI cI cZ cH cJ b 1 30 (hc_11) hst) (va_cwS 3 hts gX3_setCatalogue_X3_refuseOutside rfl rfl rfl (by decide +kernel) ⟨Nat.le_of_ble_eq_true rfl, Nat.le_of_ble_eq_true rfl⟩) (zPreXS (is := []) hT hK hP rfl) rfl rfl hl.1 rfl (lv_room (Nat.le_of_ble_eq_true rfl)) dX3_setCatalogue_11 ⟨Nat.le_of_ble_eq_true rfl, Nat.le_of_ble_eq_true rfl⟩) hlocks ht (by decide) (by decide)
  · skip
    exact z_cX (vx_runV (As := [.int a]) (rest := []) ⟨hx, hb, hml, hown, hts⟩ (kX3_harvestOf_bad l dC dI cI cZ cH cJ x0 xq now xg a (by first | assumption | omega) hst) (cwV 1 hts gX3_setCatalogue_X3_harvestOf rfl rfl rfl (by decide +kernel) ⟨Nat.le_of_ble_eq_true rfl, Nat.le_of_ble_eq_true rfl⟩) (zPreX (is := [0, 1]) hT hK hP rfl (va_recv hK hP (ci := 3) (q0 := 0) rfl rfl)) rfl rfl hl.1 rfl (lv_room (Nat.le_of_ble_eq_true rfl)) dX3_setCatalogue_2 ⟨Nat.le_of_ble_eq_true rfl, Nat.le_of_ble_eq_true rfl⟩) hlocks ht (by decide) (by decide)
set_option maxHeartbeats 4000000 in
set_option maxRecDepth 100000 in
/-- CatalogueHarvester.put_ok -/
theorem kX3_put_ok (l : Launch) (dC : Nat → ClassId) (dI : Nat → Nat → Nat) (cI cZ cH cJ : ClassId) (x0 : Nat) (xq : Nat) (now : Int32) (xg : Nat → Option Nat) (ca : Nat) (hca : ca < 4) (ha : Nat → Nat) (hg : xg ca = some (ha 0)) (mk : Int32) (ho : Int32) (fl : Int32) (od : Int32) (td : Int32) (ps : Int32) (pr : Int32) (un : Int32) (de : Int32) (fT : zI) (fW : zI) (fV : zI) (fS : zI) (iT : zI) (r : Nat) (hrr : r < 20) (w : Int32) (v : Int32) (hw1 : zin w 0 9 = 1) (hv1 : zin v 0 1000 = 1) (sz : Nat) : Met l yX3_put wsX3_put ({ frames := 2, cells := 0, slots := 0, locals := 49 }) (zPc dC dI (zTy cI cZ cH cJ) [.ref x0, .int (nI ca), .int (nI r), .int w, .int v] sz ([(x0, .inr (3, [.ref xq, .int now])), (xq, .inl (cH, 4, .inr (.inr (.inr (.inr xg))))), (ha 0, .inr (1, [.ref (ha 1), .ref (ha 2), .int mk, .int ho, .int fl, .int od, .int td, .int ps, .int pr, .ref (ha 3)])), (ha 1, .inr (0, [.ref (ha 4), .ref (ha 5), .ref (ha 6), .ref (ha 7), .int un, .int de])), (ha 4, .inr (2, [.ref (ha 12), .ref (ha 13), .ref (ha 14), .ref (ha 15)])), (ha 12, .inl (cZ, 20, .inl fT)), (ha 13, .inl (cI, 20, .inl fW)), (ha 14, .inl (cI, 20, .inl fV)), (ha 15, .inl (cI, 20, .inl fS)), (ha 5, .inl (cZ, 20, .inl iT))])) (zQi dC dI (zst un now) ([(x0, .inr (3, [.ref xq, .int now])), (xq, .inl (cH, 4, .inr (.inr (.inr (.inr xg))))), (ha 0, .inr (1, [.ref (ha 1), .ref (ha 2), .int mk, .int ho, .int fl, .int od, .int td, .int ps, .int pr, .ref (ha 3)])), (ha 1, .inr (0, [.ref (ha 4), .ref (ha 5), .ref (ha 6), .ref (ha 7), .int un, .int de])), (ha 4, .inr (2, [.ref (ha 12), .ref (ha 13), .ref (ha 14), .ref (ha 15)])), (ha 12, .inl (cZ, 20, .inl (upd fT r 1))), (ha 13, .inl (cI, 20, .inl (upd fW r w))), (ha 14, .inl (cI, 20, .inl (upd fV r v))), (ha 15, .inl (cI, 20, .inl (upd fS r (zst un now)))), (ha 5, .inl (cZ, 20, .inl (upd iT r 0)))]) (va_A ([(x0, .inr (3, [.ref xq, .int now])), (xq, .inl (cH, 4, .inr (.inr (.inr (.inr xg))))), (ha 0, .inr (1, [.ref (ha 1), .ref (ha 2), .int mk, .int ho, .int fl, .int od, .int td, .int ps, .int pr, .ref (ha 3)])), (ha 1, .inr (0, [.ref (ha 4), .ref (ha 5), .ref (ha 6), .ref (ha 7), .int un, .int de])), (ha 4, .inr (2, [.ref (ha 12), .ref (ha 13), .ref (ha 14), .ref (ha 15)])), (ha 12, .inl (cZ, 20, .inl fT)), (ha 13, .inl (cI, 20, .inl fW)), (ha 14, .inl (cI, 20, .inl fV)), (ha 15, .inl (cI, 20, .inl fS)), (ha 5, .inl (cZ, 20, .inl iT))]) sz)) 0 0 (va_A ([(x0, .inr (3, [.ref xq, .int now])), (xq, .inl (cH, 4, .inr (.inr (.inr (.inr xg))))), (ha 0, .inr (1, [.ref (ha 1), .ref (ha 2), .int mk, .int ho, .int fl, .int od, .int td, .int ps, .int pr, .ref (ha 3)])), (ha 1, .inr (0, [.ref (ha 4), .ref (ha 5), .ref (ha 6), .ref (ha 7), .int un, .int de])), (ha 4, .inr (2, [.ref (ha 12), .ref (ha 13), .ref (ha 14), .ref (ha 15)])), (ha 12, .inl (cZ, 20, .inl fT)), (ha 13, .inl (cI, 20, .inl fW)), (ha 14, .inl (cI, 20, .inl fV)), (ha 15, .inl (cI, 20, .inl fS)), (ha 5, .inl (cZ, 20, .inl iT))]) sz) := by
  refine Met.ofW (cc := cX3_put) (maxL := 6) (ret := (some .int)) (by decide) rfl ?_
  intro p e s m args below meth c s₁ B hml hv0
  obtain ⟨rfl, hsz, hP, hK, hD0⟩ := hv0
  have hx := B.exec
  have hb := B.bytes
  have hr := B.returns
  have hts := atoms_spec (ws := wsX3_put) B.pre
  have hown : s.vm.findClass RX3 = some m.cls := findClass_of_methodNamed B.named
  have hlocks := B.notSynchronized
  subst hsz
  have hD := hD0.self (sz := s.heap.size)
  generalize hAe : va_A ([(x0, .inr (3, [.ref xq, .int now])), (xq, .inl (cH, 4, .inr (.inr (.inr (.inr xg))))), (ha 0, .inr (1, [.ref (ha 1), .ref (ha 2), .int mk, .int ho, .int fl, .int od, .int td, .int ps, .int pr, .ref (ha 3)])), (ha 1, .inr (0, [.ref (ha 4), .ref (ha 5), .ref (ha 6), .ref (ha 7), .int un, .int de])), (ha 4, .inr (2, [.ref (ha 12), .ref (ha 13), .ref (ha 14), .ref (ha 15)])), (ha 12, .inl (cZ, 20, .inl fT)), (ha 13, .inl (cI, 20, .inl fW)), (ha 14, .inl (cI, 20, .inl fV)), (ha 15, .inl (cI, 20, .inl fS)), (ha 5, .inl (cZ, 20, .inl iT))]) s.heap.size = A at hD ⊢
  have hA : ∀ q : Nat, s.heap.size ≤ q → A q := fun q h => by rw [← hAe]; exact Or.inr h
  have hS : va_S A s.heap s.heap [] := va_S.rf
  have hl := lv_entry ([.ref x0, .int (nI ca), .int (nI r), .int w, .int v]) (n := 6) (Nat.le_of_ble_eq_true rfl)
  rw [lg_entry_eq]
  generalize (lg_sl ([.ref x0, .int (nI ca), .int (nI r), .int w, .int v]) ++ List.replicate (6 - (lg_sl ([.ref x0, .int (nI ca), .int (nI r), .int w, .int v])).length) Slot.unset).toArray = ls at hl ⊢
  have hl : lv_has ls 6 [(0, .ref x0), (1, .int (nI ca)), (2, .int (nI r)), (3, .int w), (4, .int v)] := hl
  have hiX1 : ∀ w ∈ wsX10, w ∈ wsX3_put := by decide +kernel
  have hiX3 : ∀ w ∈ wsX30, w ∈ wsX3_put := by decide +kernel
  have l16 := hts (.fieldLink RX3 16 "CatalogueHarvester" "today" "I") (by decide +kernel)
  have l28 := hts (.fieldLink RX3 28 "CatalogueHarvester$Harvest" "far" "LCatalogueHarvester$FarCatalogue;") (by decide +kernel)
  refine lv_aload_n hx hb dX3_put_0 rfl (lv_at hl 0 rfl) ?_
  refine lv_iload_n hx hb dX3_put_1 rfl (lv_at hl 1 rfl) ?_
  refine z_cRr (va_runV (As := [.int (nI ca)]) (rest := []) ⟨hx, hb, hml, hown, hts⟩ (kX3_harvestOf_ok l dC dI cI cZ cH cJ x0 xq now xg (ha 0) ca (by first | assumption | omega) hg) (cwV 1 hts gX3_put_X3_harvestOf rfl rfl rfl (by decide +kernel) ⟨Nat.le_of_ble_eq_true rfl, Nat.le_of_ble_eq_true rfl⟩) (zPreR (is := [0, 1]) hK hP rfl (va_recv hK hP (ci := 3) (q0 := 0) rfl rfl)) rfl rfl hl.1 rfl (lv_room (Nat.le_of_ble_eq_true rfl)) dX3_put_2 ⟨Nat.le_of_ble_eq_true rfl, Nat.le_of_ble_eq_true rfl⟩) ?_
  refine lv_astore (lv' := [(5, .ref (ha 0)), (0, .ref x0), (1, .int (nI ca)), (2, .int (nI r)), (3, .int w), (4, .int v)]) hx hb dX3_put_5 hl (by decide) rfl (fun ls hl => ?_)
  refine lv_iload_n hx hb dX3_put_7 rfl (lv_at hl 3 rfl) ?_
  refine z_cRv (va_runS (As := [.int (nI r)]) (rest := []) ⟨hx, hb, hml, hown, hts⟩ (kX3_refuseRecord_ok l r (by first | assumption | omega)) (va_cwS 1 hts gX3_put_X3_refuseRecord rfl rfl rfl (by decide +kernel) ⟨Nat.le_of_ble_eq_true rfl, Nat.le_of_ble_eq_true rfl⟩) (zPre0) rfl rfl hl.1 rfl (lv_room (Nat.le_of_ble_eq_true rfl)) dX3_put_8 ⟨Nat.le_of_ble_eq_true rfl, Nat.le_of_ble_eq_true rfl⟩) ?_
  refine lv_iload_n hx hb dX3_put_11 rfl (lv_at hl 4 rfl) ?_
  refine lv_iconst (v := 0) hx hb dX3_put_12 (by decide) ?_
  refine lv_bipush (v := 9) hx hb dX3_put_13 (by decide) ?_
  refine z_cRv (va_runS (As := [.int w, .int 0, .int 9]) (rest := []) ⟨hx, hb, hml, hown, hts⟩ (kX3_refuseOutside_ok l w 0 9 (hw1)) (va_cwS 3 hts gX3_put_X3_refuseOutside rfl rfl rfl (by decide +kernel) ⟨Nat.le_of_ble_eq_true rfl, Nat.le_of_ble_eq_true rfl⟩) (zPre0) rfl rfl hl.1 rfl (lv_room (Nat.le_of_ble_eq_true rfl)) dX3_put_15 ⟨Nat.le_of_ble_eq_true rfl, Nat.le_of_ble_eq_true rfl⟩) ?_
  refine lv_iload hx hb dX3_put_18 (lv_at hl 5 rfl) ?_
  refine lv_iconst (v := 0) hx hb dX3_put_20 (by decide) ?_
  refine lv_sipush (v := 1000) hx hb dX3_put_21 (by decide) ?_
  refine z_cRv (va_runS (As := [.int v, .int 0, .int 1000]) (rest := []) ⟨hx, hb, hml, hown, hts⟩ (kX3_refuseOutside_ok l v 0 1000 (hv1)) (va_cwS 3 hts gX3_put_X3_refuseOutside rfl rfl rfl (by decide +kernel) ⟨Nat.le_of_ble_eq_true rfl, Nat.le_of_ble_eq_true rfl⟩) (zPre0) rfl rfl hl.1 rfl (lv_room (Nat.le_of_ble_eq_true rfl)) dX3_put_24 ⟨Nat.le_of_ble_eq_true rfl, Nat.le_of_ble_eq_true rfl⟩) ?_
  refine lv_aload hx hb dX3_put_27 (lv_at hl 0 rfl) ?_
  refine va_get (D := (dC, dI)) (ci := 1) (v := .ref (ha 1)) (C := RX1) (T := TX1) (N := 10) hx hb hts hiX1 hown hK hP 2 rfl rfl 0 (by decide) l28 (fun _ h9 => h9) rfl dX3_put_29 ?_
  refine lv_iload_n hx hb dX3_put_32 rfl (lv_at hl 3 rfl) ?_
  refine lv_iload_n hx hb dX3_put_33 rfl (lv_at hl 4 rfl) ?_
  refine lv_iload hx hb dX3_put_34 (lv_at hl 5 rfl) ?_
  refine lv_aload_n hx hb dX3_put_36 rfl (lv_at hl 1 rfl) ?_
  refine va_get (D := (dC, dI)) (ci := 3) (v := .int now) (C := RX3) (T := TX3) (N := 2) hx hb hts hiX3 hown hK hP 0 rfl rfl 1 (by decide) l16 (fun _ h9 => h9) rfl dX3_put_37 ?_
  refine z_cMi (is := [3, 4, 5, 6, 7, 8, 9]) (va_runV (As := [.int (nI r), .int w, .int v, .int now]) (rest := []) ⟨hx, hb, hml, hown, hts⟩ (kX0_change l dC dI cI cZ cH cJ (ha 1) (ha 4) (ha 5) (ha 6) (ha 7) (ha 12) (ha 13) (ha 14) (ha 15) un de fT fW fV fS iT r (by first | assumption | omega) w v now s.heap.size) (cwV 4 hts gX3_put_X0_change rfl rfl rfl (by decide +kernel) ⟨Nat.le_of_ble_eq_true rfl, Nat.le_of_ble_eq_true rfl⟩) (zPreV (is := [3, 4, 5, 6, 7, 8, 9]) hK hP hD (by decide) rfl (va_recv hK hP (ci := 0) (q0 := 3) rfl rfl)) rfl rfl hl.1 rfl (lv_room (Nat.le_of_ble_eq_true rfl)) dX3_put_40 ⟨Nat.le_of_ble_eq_true rfl, Nat.le_of_ble_eq_true rfl⟩) hP hD hS hA rfl (by decide) rfl (fun H locs hP hD hS => ?_)
  have hP : va_P (dC, dI) vwCl ([(x0, .inr (3, [.ref xq, .int now])), (xq, .inl (cH, 4, .inr (.inr (.inr (.inr xg))))), (ha 0, .inr (1, [.ref (ha 1), .ref (ha 2), .int mk, .int ho, .int fl, .int od, .int td, .int ps, .int pr, .ref (ha 3)])), (ha 1, .inr (0, [.ref (ha 4), .ref (ha 5), .ref (ha 6), .ref (ha 7), .int un, .int de])), (ha 4, .inr (2, [.ref (ha 12), .ref (ha 13), .ref (ha 14), .ref (ha 15)])), (ha 12, .inl (cZ, 20, .inl (upd fT r 1))), (ha 13, .inl (cI, 20, .inl (upd fW r w))), (ha 14, .inl (cI, 20, .inl (upd fV r v))), (ha 15, .inl (cI, 20, .inl (upd fS r (zst un now)))), (ha 5, .inl (cZ, 20, .inl (upd iT r 0)))]) H := hP
  have hD : va_D A ([(x0, .inr (3, [.ref xq, .int now])), (xq, .inl (cH, 4, .inr (.inr (.inr (.inr xg))))), (ha 0, .inr (1, [.ref (ha 1), .ref (ha 2), .int mk, .int ho, .int fl, .int od, .int td, .int ps, .int pr, .ref (ha 3)])), (ha 1, .inr (0, [.ref (ha 4), .ref (ha 5), .ref (ha 6), .ref (ha 7), .int un, .int de])), (ha 4, .inr (2, [.ref (ha 12), .ref (ha 13), .ref (ha 14), .ref (ha 15)])), (ha 12, .inl (cZ, 20, .inl (upd fT r 1))), (ha 13, .inl (cI, 20, .inl (upd fW r w))), (ha 14, .inl (cI, 20, .inl (upd fV r v))), (ha 15, .inl (cI, 20, .inl (upd fS r (zst un now)))), (ha 5, .inl (cZ, 20, .inl (upd iT r 0)))]) := hD
  refine z_tv (v := zst un now) rfl ?_
  exact W.iret hx hb hr (fun t ht hW => ⟨rfl, ⟨by rw [ht]; exact hP, hD⟩, hS.F ht⟩) hS.2.2 dX3_put_43
set_option maxHeartbeats 4000000 in
set_option maxRecDepth 100000 in
/-- CatalogueHarvester.put_bad -/
theorem kX3_put_bad (l : Launch) (dC : Nat → ClassId) (dI : Nat → Nat → Nat) (cI cZ cH cJ : ClassId) (x0 : Nat) (xq : Nat) (now : Int32) (xg : Nat → Option Nat) (had : Nat → Nat → Nat) (hg : ∀ i, i < 4 → xg i = some (had i 0)) (a : Int32) (b : Int32) (w : Int32) (v : Int32) (hv : ¬ (zin a 0 3 = 1 ∧ zin b 0 19 = 1 ∧ zin w 0 9 = 1 ∧ zin v 0 1000 = 1)) (hst : l.stackTraces = false) : vx_Met l yX3_put wsX3_put ({ frames := 8, cells := 1, slots := 6, locals := 132 }) (zXc dC dI (zTy cI cZ cH cJ) [.ref x0, .int a, .int b, .int w, .int v] ([(x0, .inr (3, [.ref xq, .int now])), (xq, .inl (cH, 4, .inr (.inr (.inr (.inr xg)))))])) zXQ (zXC zIAE) 1 6 (fun _ => False) := by
  refine vx_ofW (cc := cX3_put) (maxL := 6) (ret := (some .int)) (by decide) rfl ?_
  intro p e s m args below meth c s₁ B hml ht hv0
  obtain ⟨rfl, hT, hP, hK⟩ := hv0
  have hx := B.exec
  have hb := B.bytes
  have hr := B.returns
  have hts := atoms_spec (ws := wsX3_put) B.pre
  have hown : s.vm.findClass RX3 = some m.cls := findClass_of_methodNamed B.named
  have hlocks := B.notSynchronized
  have hl := lv_entry ([.ref x0, .int a, .int b, .int w, .int v]) (n := 6) (Nat.le_of_ble_eq_true rfl)
  rw [lg_entry_eq]
  generalize (lg_sl ([.ref x0, .int a, .int b, .int w, .int v]) ++ List.replicate (6 - (lg_sl ([.ref x0, .int a, .int b, .int w, .int v])).length) Slot.unset).toArray = ls at hl ⊢
  have hl : lv_has ls 6 [(0, .ref x0), (1, .int a), (2, .int b), (3, .int w), (4, .int v)] := hl
  refine lv_aload_n hx hb dX3_put_0 rfl (lv_at hl 0 rfl) ?_
  refine lv_iload_n hx hb dX3_put_1 rfl (lv_at hl 1 rfl) ?_
  rcases Classical.em (zin a 0 3 = 1) with hc_2 | hc_2
  · skip
    obtain ⟨ca, hca, ea⟩ := zin_nat (n := 3) (by decide) hc_2
    subst ea
    refine z_cRr (va_runV (As := [.int (nI ca)]) (rest := []) ⟨hx, hb, hml, hown, hts⟩ (kX3_harvestOf_ok l dC dI cI cZ cH cJ x0 xq now xg (had ca 0) ca (by first | assumption | omega) (hg ca hca)) (cwV 1 hts gX3_put_X3_harvestOf rfl rfl rfl (by decide +kernel) ⟨Nat.le_of_ble_eq_true rfl, Nat.le_of_ble_eq_true rfl⟩) (zPreR (is := [0, 1]) hK hP rfl (va_recv hK hP (ci := 3) (q0 := 0) rfl rfl)) rfl rfl hl.1 rfl (lv_room (Nat.le_of_ble_eq_true rfl)) dX3_put_2 ⟨Nat.le_of_ble_eq_true rfl, Nat.le_of_ble_eq_true rfl⟩) ?_
    refine lv_astore (lv' := [(5, .ref (had ca 0)), (0, .ref x0), (1, .int (nI ca)), (2, .int b), (3, .int w), (4, .int v)]) hx hb dX3_put_5 hl (by decide) rfl (fun ls hl => ?_)
    refine lv_iload_n hx hb dX3_put_7 rfl (lv_at hl 3 rfl) ?_
    rcases Classical.em (zin b 0 19 = 1) with hc_8 | hc_8
    · skip
      obtain ⟨r, hrr, er⟩ := zin_nat (n := 19) (by decide) hc_8
      subst er
      refine z_cRv (va_runS (As := [.int (nI r)]) (rest := []) ⟨hx, hb, hml, hown, hts⟩ (kX3_refuseRecord_ok l r (by first | assumption | omega)) (va_cwS 1 hts gX3_put_X3_refuseRecord rfl rfl rfl (by decide +kernel) ⟨Nat.le_of_ble_eq_true rfl, Nat.le_of_ble_eq_true rfl⟩) (zPre0) rfl rfl hl.1 rfl (lv_room (Nat.le_of_ble_eq_true rfl)) dX3_put_8 ⟨Nat.le_of_ble_eq_true rfl, Nat.le_of_ble_eq_true rfl⟩) ?_
      refine lv_iload_n hx hb dX3_put_11 rfl (lv_at hl 4 rfl) ?_
      refine lv_iconst (v := 0) hx hb dX3_put_12 (by decide) ?_
      refine lv_bipush (v := 9) hx hb dX3_put_13 (by decide) ?_
      rcases Classical.em (zin w 0 9 = 1) with hc_15 | hc_15
      · skip
        refine z_cRv (va_runS (As := [.int w, .int 0, .int 9]) (rest := []) ⟨hx, hb, hml, hown, hts⟩ (kX3_refuseOutside_ok l w 0 9 (hc_15)) (va_cwS 3 hts gX3_put_X3_refuseOutside rfl rfl rfl (by decide +kernel) ⟨Nat.le_of_ble_eq_true rfl, Nat.le_of_ble_eq_true rfl⟩) (zPre0) rfl rfl hl.1 rfl (lv_room (Nat.le_of_ble_eq_true rfl)) dX3_put_15 ⟨Nat.le_of_ble_eq_true rfl, Nat.le_of_ble_eq_true rfl⟩) ?_
        refine lv_iload hx hb dX3_put_18 (lv_at hl 5 rfl) ?_
        refine lv_iconst (v := 0) hx hb dX3_put_20 (by decide) ?_
        refine lv_sipush (v := 1000) hx hb dX3_put_21 (by decide) ?_
        rcases Classical.em (zin v 0 1000 = 1) with hc_24 | hc_24
        · skip
          exact absurd (⟨zin_c _ hca, zin_r _ hrr, hc_15, hc_24⟩) hv
        · skip
          exact z_cX (vx_runS (As := [.int v, .int 0, .int 1000]) (rest := []) ⟨hx, hb, hml, hown, hts⟩ (kX3_refuseOutside_bad l dC dI cI cZ cH cJ v 0 1000 (hc_24) hst) (va_cwS 3 hts gX3_put_X3_refuseOutside rfl rfl rfl (by decide +kernel) ⟨Nat.le_of_ble_eq_true rfl, Nat.le_of_ble_eq_true rfl⟩) (zPreXS (is := []) hT hK hP rfl) rfl rfl hl.1 rfl (lv_room (Nat.le_of_ble_eq_true rfl)) dX3_put_24 ⟨Nat.le_of_ble_eq_true rfl, Nat.le_of_ble_eq_true rfl⟩) hlocks ht (by decide) (by decide)
      · skip
        exact z_cX (vx_runS (As := [.int w, .int 0, .int 9]) (rest := []) ⟨hx, hb, hml, hown, hts⟩ (kX3_refuseOutside_bad l dC dI cI cZ cH cJ w 0 9 (hc_15) hst) (va_cwS 3 hts gX3_put_X3_refuseOutside rfl rfl rfl (by decide +kernel) ⟨Nat.le_of_ble_eq_true rfl, Nat.le_of_ble_eq_true rfl⟩) (zPreXS (is := []) hT hK hP rfl) rfl rfl hl.1 rfl (lv_room (Nat.le_of_ble_eq_true rfl)) dX3_put_15 ⟨Nat.le_of_ble_eq_true rfl, Nat.le_of_ble_eq_true rfl⟩) hlocks ht (by decide) (by decide)
    · skip
      exact z_cX (vx_runS (As := [.int b]) (rest := []) ⟨hx, hb, hml, hown, hts⟩ (kX3_refuseRecord_bad l dC dI cI cZ cH cJ b (by first | assumption | omega) hst) (va_cwS 1 hts gX3_put_X3_refuseRecord rfl rfl rfl (by decide +kernel) ⟨Nat.le_of_ble_eq_true rfl, Nat.le_of_ble_eq_true rfl⟩) (zPreXS (is := []) hT hK hP rfl) rfl rfl hl.1 rfl (lv_room (Nat.le_of_ble_eq_true rfl)) dX3_put_8 ⟨Nat.le_of_ble_eq_true rfl, Nat.le_of_ble_eq_true rfl⟩) hlocks ht (by decide) (by decide)
  · skip
    exact z_cX (vx_runV (As := [.int a]) (rest := []) ⟨hx, hb, hml, hown, hts⟩ (kX3_harvestOf_bad l dC dI cI cZ cH cJ x0 xq now xg a (by first | assumption | omega) hst) (cwV 1 hts gX3_put_X3_harvestOf rfl rfl rfl (by decide +kernel) ⟨Nat.le_of_ble_eq_true rfl, Nat.le_of_ble_eq_true rfl⟩) (zPreX (is := [0, 1]) hT hK hP rfl (va_recv hK hP (ci := 3) (q0 := 0) rfl rfl)) rfl rfl hl.1 rfl (lv_room (Nat.le_of_ble_eq_true rfl)) dX3_put_2 ⟨Nat.le_of_ble_eq_true rfl, Nat.le_of_ble_eq_true rfl⟩) hlocks ht (by decide) (by decide)
set_option maxHeartbeats 4000000 in
set_option maxRecDepth 100000 in
/-- CatalogueHarvester.remove_ok -/
theorem kX3_remove_ok (l : Launch) (dC : Nat → ClassId) (dI : Nat → Nat → Nat) (cI cZ cH cJ : ClassId) (x0 : Nat) (xq : Nat) (now : Int32) (xg : Nat → Option Nat) (ca : Nat) (hca : ca < 4) (ha : Nat → Nat) (hg : xg ca = some (ha 0)) (mk : Int32) (ho : Int32) (fl : Int32) (od : Int32) (td : Int32) (ps : Int32) (pr : Int32) (un : Int32) (de : Int32) (fT : zI) (iT : zI) (tS : zI) (rD : zI) (r : Nat) (hrr : r < 20) (hk1 : ¬ fT r = 0) (sz : Nat) : Met l yX3_remove wsX3_remove ({ frames := 2, cells := 0, slots := 0, locals := 43 }) (zPc dC dI (zTy cI cZ cH cJ) [.ref x0, .int (nI ca), .int (nI r)] sz ([(x0, .inr (3, [.ref xq, .int now])), (xq, .inl (cH, 4, .inr (.inr (.inr (.inr xg))))), (ha 0, .inr (1, [.ref (ha 1), .ref (ha 2), .int mk, .int ho, .int fl, .int od, .int td, .int ps, .int pr, .ref (ha 3)])), (ha 1, .inr (0, [.ref (ha 4), .ref (ha 5), .ref (ha 6), .ref (ha 7), .int un, .int de])), (ha 4, .inr (2, [.ref (ha 12), .ref (ha 13), .ref (ha 14), .ref (ha 15)])), (ha 12, .inl (cZ, 20, .inl fT)), (ha 5, .inl (cZ, 20, .inl iT)), (ha 6, .inl (cI, 20, .inl tS)), (ha 7, .inl (cI, 20, .inl rD))])) (zQi dC dI (if de ≠ 2 then (1 : Int32) else 0) ([(x0, .inr (3, [.ref xq, .int now])), (xq, .inl (cH, 4, .inr (.inr (.inr (.inr xg))))), (ha 0, .inr (1, [.ref (ha 1), .ref (ha 2), .int mk, .int ho, .int fl, .int od, .int td, .int ps, .int pr, .ref (ha 3)])), (ha 1, .inr (0, [.ref (ha 4), .ref (ha 5), .ref (ha 6), .ref (ha 7), .int un, .int de])), (ha 4, .inr (2, [.ref (ha 12), .ref (ha 13), .ref (ha 14), .ref (ha 15)])), (ha 12, .inl (cZ, 20, .inl (upd fT r 0))), (ha 5, .inl (cZ, 20, .inl (upd iT r (if de ≠ 2 then (1 : Int32) else 0)))), (ha 6, .inl (cI, 20, .inl (upd tS r (zst un now)))), (ha 7, .inl (cI, 20, .inl (upd rD r now)))]) (va_A ([(x0, .inr (3, [.ref xq, .int now])), (xq, .inl (cH, 4, .inr (.inr (.inr (.inr xg))))), (ha 0, .inr (1, [.ref (ha 1), .ref (ha 2), .int mk, .int ho, .int fl, .int od, .int td, .int ps, .int pr, .ref (ha 3)])), (ha 1, .inr (0, [.ref (ha 4), .ref (ha 5), .ref (ha 6), .ref (ha 7), .int un, .int de])), (ha 4, .inr (2, [.ref (ha 12), .ref (ha 13), .ref (ha 14), .ref (ha 15)])), (ha 12, .inl (cZ, 20, .inl fT)), (ha 5, .inl (cZ, 20, .inl iT)), (ha 6, .inl (cI, 20, .inl tS)), (ha 7, .inl (cI, 20, .inl rD))]) sz)) 0 0 (va_A ([(x0, .inr (3, [.ref xq, .int now])), (xq, .inl (cH, 4, .inr (.inr (.inr (.inr xg))))), (ha 0, .inr (1, [.ref (ha 1), .ref (ha 2), .int mk, .int ho, .int fl, .int od, .int td, .int ps, .int pr, .ref (ha 3)])), (ha 1, .inr (0, [.ref (ha 4), .ref (ha 5), .ref (ha 6), .ref (ha 7), .int un, .int de])), (ha 4, .inr (2, [.ref (ha 12), .ref (ha 13), .ref (ha 14), .ref (ha 15)])), (ha 12, .inl (cZ, 20, .inl fT)), (ha 5, .inl (cZ, 20, .inl iT)), (ha 6, .inl (cI, 20, .inl tS)), (ha 7, .inl (cI, 20, .inl rD))]) sz) := by
  refine Met.ofW (cc := cX3_remove) (maxL := 4) (ret := (some .boolean)) (by decide) rfl ?_
  intro p e s m args below meth c s₁ B hml hv0
  obtain ⟨rfl, hsz, hP, hK, hD0⟩ := hv0
  have hx := B.exec
  have hb := B.bytes
  have hr := B.returns
  have hts := atoms_spec (ws := wsX3_remove) B.pre
  have hown : s.vm.findClass RX3 = some m.cls := findClass_of_methodNamed B.named
  have hlocks := B.notSynchronized
  subst hsz
  have hD := hD0.self (sz := s.heap.size)
  generalize hAe : va_A ([(x0, .inr (3, [.ref xq, .int now])), (xq, .inl (cH, 4, .inr (.inr (.inr (.inr xg))))), (ha 0, .inr (1, [.ref (ha 1), .ref (ha 2), .int mk, .int ho, .int fl, .int od, .int td, .int ps, .int pr, .ref (ha 3)])), (ha 1, .inr (0, [.ref (ha 4), .ref (ha 5), .ref (ha 6), .ref (ha 7), .int un, .int de])), (ha 4, .inr (2, [.ref (ha 12), .ref (ha 13), .ref (ha 14), .ref (ha 15)])), (ha 12, .inl (cZ, 20, .inl fT)), (ha 5, .inl (cZ, 20, .inl iT)), (ha 6, .inl (cI, 20, .inl tS)), (ha 7, .inl (cI, 20, .inl rD))]) s.heap.size = A at hD ⊢
  have hA : ∀ q : Nat, s.heap.size ≤ q → A q := fun q h => by rw [← hAe]; exact Or.inr h
  have hS : va_S A s.heap s.heap [] := va_S.rf
  have hl := lv_entry ([.ref x0, .int (nI ca), .int (nI r)]) (n := 4) (Nat.le_of_ble_eq_true rfl)
  rw [lg_entry_eq]
  generalize (lg_sl ([.ref x0, .int (nI ca), .int (nI r)]) ++ List.replicate (4 - (lg_sl ([.ref x0, .int (nI ca), .int (nI r)])).length) Slot.unset).toArray = ls at hl ⊢
  have hl : lv_has ls 4 [(0, .ref x0), (1, .int (nI ca)), (2, .int (nI r))] := hl
  have hiX0 : ∀ w ∈ wsX00, w ∈ wsX3_remove := by decide +kernel
  have hiX1 : ∀ w ∈ wsX10, w ∈ wsX3_remove := by decide +kernel
  have hiX2 : ∀ w ∈ wsX20, w ∈ wsX3_remove := by decide +kernel
  have hiX3 : ∀ w ∈ wsX30, w ∈ wsX3_remove := by decide +kernel
  have l16 := hts (.fieldLink RX3 16 "CatalogueHarvester" "today" "I") (by decide +kernel)
  have l28 := hts (.fieldLink RX3 28 "CatalogueHarvester$Harvest" "far" "LCatalogueHarvester$FarCatalogue;") (by decide +kernel)
  have l51 := hts (.fieldLink RX3 51 "CatalogueHarvester$FarCatalogue" "records" "LCatalogueHarvester$Records;") (by decide +kernel)
  have l55 := hts (.fieldLink RX3 55 "CatalogueHarvester$Records" "isThere" "[Z") (by decide +kernel)
  refine lv_aload_n hx hb dX3_remove_0 rfl (lv_at hl 0 rfl) ?_
  refine lv_iload_n hx hb dX3_remove_1 rfl (lv_at hl 1 rfl) ?_
  refine z_cRr (va_runV (As := [.int (nI ca)]) (rest := []) ⟨hx, hb, hml, hown, hts⟩ (kX3_harvestOf_ok l dC dI cI cZ cH cJ x0 xq now xg (ha 0) ca (by first | assumption | omega) hg) (cwV 1 hts gX3_remove_X3_harvestOf rfl rfl rfl (by decide +kernel) ⟨Nat.le_of_ble_eq_true rfl, Nat.le_of_ble_eq_true rfl⟩) (zPreR (is := [0, 1]) hK hP rfl (va_recv hK hP (ci := 3) (q0 := 0) rfl rfl)) rfl rfl hl.1 rfl (lv_room (Nat.le_of_ble_eq_true rfl)) dX3_remove_2 ⟨Nat.le_of_ble_eq_true rfl, Nat.le_of_ble_eq_true rfl⟩) ?_
  refine lv_astore_n (lv' := [(3, .ref (ha 0)), (0, .ref x0), (1, .int (nI ca)), (2, .int (nI r))]) hx hb dX3_remove_5 rfl hl (by decide) rfl (fun ls hl => ?_)
  refine lv_iload_n hx hb dX3_remove_6 rfl (lv_at hl 3 rfl) ?_
  refine z_cRv (va_runS (As := [.int (nI r)]) (rest := []) ⟨hx, hb, hml, hown, hts⟩ (kX3_refuseRecord_ok l r (by first | assumption | omega)) (va_cwS 1 hts gX3_remove_X3_refuseRecord rfl rfl rfl (by decide +kernel) ⟨Nat.le_of_ble_eq_true rfl, Nat.le_of_ble_eq_true rfl⟩) (zPre0) rfl rfl hl.1 rfl (lv_room (Nat.le_of_ble_eq_true rfl)) dX3_remove_7 ⟨Nat.le_of_ble_eq_true rfl, Nat.le_of_ble_eq_true rfl⟩) ?_
  refine lv_aload_n hx hb dX3_remove_10 rfl (lv_at hl 0 rfl) ?_
  refine va_get (D := (dC, dI)) (ci := 1) (v := .ref (ha 1)) (C := RX1) (T := TX1) (N := 10) hx hb hts hiX1 hown hK hP 2 rfl rfl 0 (by decide) l28 (fun _ h9 => h9) rfl dX3_remove_11 ?_
  refine va_get (D := (dC, dI)) (ci := 0) (v := .ref (ha 4)) (C := RX0) (T := TX0) (N := 6) hx hb hts hiX0 hown hK hP 3 rfl rfl 0 (by decide) l51 (fun _ h9 => h9) rfl dX3_remove_14 ?_
  refine va_get (D := (dC, dI)) (ci := 2) (v := .ref (ha 12)) (C := RX2) (T := TX2) (N := 4) hx hb hts hiX2 hown hK hP 4 rfl rfl 0 (by decide) l55 (fun _ h9 => h9) rfl dX3_remove_17 ?_
  refine lv_iload_n hx hb dX3_remove_20 rfl (lv_at hl 3 rfl) ?_
  refine z_zald hx hb hK hP 5 rfl (zix_nI (by first | assumption | omega) (by decide)) dX3_remove_21 ?_
  refine z_tv (v := fT r) (rfl) ?_
  refine lv_if_ne (tgt := 35) hx hb dX3_remove_22 (by decide) (fun c_22 => ?_) (fun c_22 => ?_)
  · skip
    refine lv_aload_n hx hb dX3_remove_35 rfl (lv_at hl 0 rfl) ?_
    refine va_get (D := (dC, dI)) (ci := 1) (v := .ref (ha 1)) (C := RX1) (T := TX1) (N := 10) hx hb hts hiX1 hown hK hP 2 rfl rfl 0 (by decide) l28 (fun _ h9 => h9) rfl dX3_remove_36 ?_
    refine lv_iload_n hx hb dX3_remove_39 rfl (lv_at hl 3 rfl) ?_
    refine lv_aload_n hx hb dX3_remove_40 rfl (lv_at hl 1 rfl) ?_
    refine va_get (D := (dC, dI)) (ci := 3) (v := .int now) (C := RX3) (T := TX3) (N := 2) hx hb hts hiX3 hown hK hP 0 rfl rfl 1 (by decide) l16 (fun _ h9 => h9) rfl dX3_remove_41 ?_
    refine z_cMi (is := [3, 4, 5, 6, 7, 8]) (va_runV (As := [.int (nI r), .int now]) (rest := []) ⟨hx, hb, hml, hown, hts⟩ (kX0_delete l dC dI cI cZ cH cJ (ha 1) (ha 4) (ha 5) (ha 6) (ha 7) (ha 12) (ha 13) (ha 14) (ha 15) un de fT iT tS rD r (by first | assumption | omega) now s.heap.size) (cwV 2 hts gX3_remove_X0_delete rfl rfl rfl (by decide +kernel) ⟨Nat.le_of_ble_eq_true rfl, Nat.le_of_ble_eq_true rfl⟩) (zPreV (is := [3, 4, 5, 6, 7, 8]) hK hP hD (by decide) rfl (va_recv hK hP (ci := 0) (q0 := 3) rfl rfl)) rfl rfl hl.1 rfl (lv_room (Nat.le_of_ble_eq_true rfl)) dX3_remove_44 ⟨Nat.le_of_ble_eq_true rfl, Nat.le_of_ble_eq_true rfl⟩) hP hD hS hA rfl (by decide) rfl (fun H locs hP hD hS => ?_)
    have hP : va_P (dC, dI) vwCl ([(x0, .inr (3, [.ref xq, .int now])), (xq, .inl (cH, 4, .inr (.inr (.inr (.inr xg))))), (ha 0, .inr (1, [.ref (ha 1), .ref (ha 2), .int mk, .int ho, .int fl, .int od, .int td, .int ps, .int pr, .ref (ha 3)])), (ha 1, .inr (0, [.ref (ha 4), .ref (ha 5), .ref (ha 6), .ref (ha 7), .int un, .int de])), (ha 4, .inr (2, [.ref (ha 12), .ref (ha 13), .ref (ha 14), .ref (ha 15)])), (ha 12, .inl (cZ, 20, .inl (upd fT r 0))), (ha 5, .inl (cZ, 20, .inl (upd iT r (if de ≠ 2 then (1 : Int32) else 0)))), (ha 6, .inl (cI, 20, .inl (upd tS r (zst un now)))), (ha 7, .inl (cI, 20, .inl (upd rD r now)))]) H := hP
    have hD : va_D A ([(x0, .inr (3, [.ref xq, .int now])), (xq, .inl (cH, 4, .inr (.inr (.inr (.inr xg))))), (ha 0, .inr (1, [.ref (ha 1), .ref (ha 2), .int mk, .int ho, .int fl, .int od, .int td, .int ps, .int pr, .ref (ha 3)])), (ha 1, .inr (0, [.ref (ha 4), .ref (ha 5), .ref (ha 6), .ref (ha 7), .int un, .int de])), (ha 4, .inr (2, [.ref (ha 12), .ref (ha 13), .ref (ha 14), .ref (ha 15)])), (ha 12, .inl (cZ, 20, .inl (upd fT r 0))), (ha 5, .inl (cZ, 20, .inl (upd iT r (if de ≠ 2 then (1 : Int32) else 0)))), (ha 6, .inl (cI, 20, .inl (upd tS r (zst un now)))), (ha 7, .inl (cI, 20, .inl (upd rD r now)))]) := hD
    refine z_tv (v := if de ≠ 2 then (1 : Int32) else 0) rfl ?_
    exact W.zret (ty := .boolean) hx hb hr (z_nb _) (fun t ht hW => ⟨rfl, ⟨by rw [ht]; exact hP, hD⟩, hS.F ht⟩) hS.2.2 dX3_remove_47
  · exact absurd c_22 hk1
set_option maxHeartbeats 4000000 in
set_option maxRecDepth 100000 in
/-- CatalogueHarvester.remove_no -/
theorem kX3_remove_no (l : Launch) (dC : Nat → ClassId) (dI : Nat → Nat → Nat) (cI cZ cH cJ : ClassId) (x0 : Nat) (xq : Nat) (now : Int32) (xg : Nat → Option Nat) (ca : Nat) (hca : ca < 4) (ha : Nat → Nat) (hg : xg ca = some (ha 0)) (mk : Int32) (ho : Int32) (fl : Int32) (od : Int32) (td : Int32) (ps : Int32) (pr : Int32) (un : Int32) (de : Int32) (fT : zI) (r : Nat) (hrr : r < 20) (hk1 : fT r = 0) (hst : l.stackTraces = false) : vx_Met l yX3_remove wsX3_remove ({ frames := 8, cells := 1, slots := 6, locals := 132 }) (zXc dC dI (zTy cI cZ cH cJ) [.ref x0, .int (nI ca), .int (nI r)] ([(x0, .inr (3, [.ref xq, .int now])), (xq, .inl (cH, 4, .inr (.inr (.inr (.inr xg))))), (ha 0, .inr (1, [.ref (ha 1), .ref (ha 2), .int mk, .int ho, .int fl, .int od, .int td, .int ps, .int pr, .ref (ha 3)])), (ha 1, .inr (0, [.ref (ha 4), .ref (ha 5), .ref (ha 6), .ref (ha 7), .int un, .int de])), (ha 4, .inr (2, [.ref (ha 12), .ref (ha 13), .ref (ha 14), .ref (ha 15)])), (ha 12, .inl (cZ, 20, .inl fT))])) zXQ (zXC zISE) 1 6 (fun _ => False) := by
  refine vx_ofW (cc := cX3_remove) (maxL := 4) (ret := (some .boolean)) (by decide) rfl ?_
  intro p e s m args below meth c s₁ B hml ht hv0
  obtain ⟨rfl, hT, hP, hK⟩ := hv0
  have hx := B.exec
  have hb := B.bytes
  have hr := B.returns
  have hts := atoms_spec (ws := wsX3_remove) B.pre
  have hown : s.vm.findClass RX3 = some m.cls := findClass_of_methodNamed B.named
  have hlocks := B.notSynchronized
  have hl := lv_entry ([.ref x0, .int (nI ca), .int (nI r)]) (n := 4) (Nat.le_of_ble_eq_true rfl)
  rw [lg_entry_eq]
  generalize (lg_sl ([.ref x0, .int (nI ca), .int (nI r)]) ++ List.replicate (4 - (lg_sl ([.ref x0, .int (nI ca), .int (nI r)])).length) Slot.unset).toArray = ls at hl ⊢
  have hl : lv_has ls 4 [(0, .ref x0), (1, .int (nI ca)), (2, .int (nI r))] := hl
  have hiX0 : ∀ w ∈ wsX00, w ∈ wsX3_remove := by decide +kernel
  have hiX1 : ∀ w ∈ wsX10, w ∈ wsX3_remove := by decide +kernel
  have hiX2 : ∀ w ∈ wsX20, w ∈ wsX3_remove := by decide +kernel
  have l28 := hts (.fieldLink RX3 28 "CatalogueHarvester$Harvest" "far" "LCatalogueHarvester$FarCatalogue;") (by decide +kernel)
  have l51 := hts (.fieldLink RX3 51 "CatalogueHarvester$FarCatalogue" "records" "LCatalogueHarvester$Records;") (by decide +kernel)
  have l55 := hts (.fieldLink RX3 55 "CatalogueHarvester$Records" "isThere" "[Z") (by decide +kernel)
  refine lv_aload_n hx hb dX3_remove_0 rfl (lv_at hl 0 rfl) ?_
  refine lv_iload_n hx hb dX3_remove_1 rfl (lv_at hl 1 rfl) ?_
  refine z_cRr (va_runV (As := [.int (nI ca)]) (rest := []) ⟨hx, hb, hml, hown, hts⟩ (kX3_harvestOf_ok l dC dI cI cZ cH cJ x0 xq now xg (ha 0) ca (by first | assumption | omega) hg) (cwV 1 hts gX3_remove_X3_harvestOf rfl rfl rfl (by decide +kernel) ⟨Nat.le_of_ble_eq_true rfl, Nat.le_of_ble_eq_true rfl⟩) (zPreR (is := [0, 1]) hK hP rfl (va_recv hK hP (ci := 3) (q0 := 0) rfl rfl)) rfl rfl hl.1 rfl (lv_room (Nat.le_of_ble_eq_true rfl)) dX3_remove_2 ⟨Nat.le_of_ble_eq_true rfl, Nat.le_of_ble_eq_true rfl⟩) ?_
  refine lv_astore_n (lv' := [(3, .ref (ha 0)), (0, .ref x0), (1, .int (nI ca)), (2, .int (nI r))]) hx hb dX3_remove_5 rfl hl (by decide) rfl (fun ls hl => ?_)
  refine lv_iload_n hx hb dX3_remove_6 rfl (lv_at hl 3 rfl) ?_
  refine z_cRv (va_runS (As := [.int (nI r)]) (rest := []) ⟨hx, hb, hml, hown, hts⟩ (kX3_refuseRecord_ok l r (by first | assumption | omega)) (va_cwS 1 hts gX3_remove_X3_refuseRecord rfl rfl rfl (by decide +kernel) ⟨Nat.le_of_ble_eq_true rfl, Nat.le_of_ble_eq_true rfl⟩) (zPre0) rfl rfl hl.1 rfl (lv_room (Nat.le_of_ble_eq_true rfl)) dX3_remove_7 ⟨Nat.le_of_ble_eq_true rfl, Nat.le_of_ble_eq_true rfl⟩) ?_
  refine lv_aload_n hx hb dX3_remove_10 rfl (lv_at hl 0 rfl) ?_
  refine va_get (D := (dC, dI)) (ci := 1) (v := .ref (ha 1)) (C := RX1) (T := TX1) (N := 10) hx hb hts hiX1 hown hK hP 2 rfl rfl 0 (by decide) l28 (fun _ h9 => h9) rfl dX3_remove_11 ?_
  refine va_get (D := (dC, dI)) (ci := 0) (v := .ref (ha 4)) (C := RX0) (T := TX0) (N := 6) hx hb hts hiX0 hown hK hP 3 rfl rfl 0 (by decide) l51 (fun _ h9 => h9) rfl dX3_remove_14 ?_
  refine va_get (D := (dC, dI)) (ci := 2) (v := .ref (ha 12)) (C := RX2) (T := TX2) (N := 4) hx hb hts hiX2 hown hK hP 4 rfl rfl 0 (by decide) l55 (fun _ h9 => h9) rfl dX3_remove_17 ?_
  refine lv_iload_n hx hb dX3_remove_20 rfl (lv_at hl 3 rfl) ?_
  refine z_zald hx hb hK hP 5 rfl (zix_nI (by first | assumption | omega) (by decide)) dX3_remove_21 ?_
  refine z_tv (v := fT r) (rfl) ?_
  refine lv_if_ne (tgt := 35) hx hb dX3_remove_22 (by decide) (fun c_22 => ?_) (fun c_22 => ?_)
  · exact absurd hk1 c_22
  · skip
    exact z_throw (ik := 61) (ic := 65) (is := 63) (text := "the record is not there") hx hb hst hown zf_ISE (hts (.classLink RX3 61 zISE) (by decide +kernel)) (hts (.initialized zISE) (by decide +kernel)) hT hT.2.2.2.2.2.1 (fun w h => hts w (List.mem_cons_of_mem _ (List.mem_append_left _ (List.mem_append_right _ h)))) zb_ISE zg_ISE hml hl.1 dX3_remove_25 dX3_remove_28 dX3_remove_29 dX3_remove_31 dX3_remove_34 ht hlocks (by decide) (by decide) (by decide) (by decide) (by decide) (by decide)
set_option maxHeartbeats 4000000 in
set_option maxRecDepth 100000 in
/-- CatalogueHarvester.remove_bad -/
theorem kX3_remove_bad (l : Launch) (dC : Nat → ClassId) (dI : Nat → Nat → Nat) (cI cZ cH cJ : ClassId) (x0 : Nat) (xq : Nat) (now : Int32) (xg : Nat → Option Nat) (had : Nat → Nat → Nat) (hg : ∀ i, i < 4 → xg i = some (had i 0)) (a : Int32) (b : Int32) (hv : ¬ (zin a 0 3 = 1 ∧ zin b 0 19 = 1)) (hst : l.stackTraces = false) : vx_Met l yX3_remove wsX3_remove ({ frames := 8, cells := 1, slots := 6, locals := 132 }) (zXc dC dI (zTy cI cZ cH cJ) [.ref x0, .int a, .int b] ([(x0, .inr (3, [.ref xq, .int now])), (xq, .inl (cH, 4, .inr (.inr (.inr (.inr xg)))))])) zXQ (zXC zIAE) 1 6 (fun _ => False) := by
  refine vx_ofW (cc := cX3_remove) (maxL := 4) (ret := (some .boolean)) (by decide) rfl ?_
  intro p e s m args below meth c s₁ B hml ht hv0
  obtain ⟨rfl, hT, hP, hK⟩ := hv0
  have hx := B.exec
  have hb := B.bytes
  have hr := B.returns
  have hts := atoms_spec (ws := wsX3_remove) B.pre
  have hown : s.vm.findClass RX3 = some m.cls := findClass_of_methodNamed B.named
  have hlocks := B.notSynchronized
  have hl := lv_entry ([.ref x0, .int a, .int b]) (n := 4) (Nat.le_of_ble_eq_true rfl)
  rw [lg_entry_eq]
  generalize (lg_sl ([.ref x0, .int a, .int b]) ++ List.replicate (4 - (lg_sl ([.ref x0, .int a, .int b])).length) Slot.unset).toArray = ls at hl ⊢
  have hl : lv_has ls 4 [(0, .ref x0), (1, .int a), (2, .int b)] := hl
  refine lv_aload_n hx hb dX3_remove_0 rfl (lv_at hl 0 rfl) ?_
  refine lv_iload_n hx hb dX3_remove_1 rfl (lv_at hl 1 rfl) ?_
  rcases Classical.em (zin a 0 3 = 1) with hc_2 | hc_2
  · skip
    obtain ⟨ca, hca, ea⟩ := zin_nat (n := 3) (by decide) hc_2
    subst ea
    refine z_cRr (va_runV (As := [.int (nI ca)]) (rest := []) ⟨hx, hb, hml, hown, hts⟩ (kX3_harvestOf_ok l dC dI cI cZ cH cJ x0 xq now xg (had ca 0) ca (by first | assumption | omega) (hg ca hca)) (cwV 1 hts gX3_remove_X3_harvestOf rfl rfl rfl (by decide +kernel) ⟨Nat.le_of_ble_eq_true rfl, Nat.le_of_ble_eq_true rfl⟩) (zPreR (is := [0, 1]) hK hP rfl (va_recv hK hP (ci := 3) (q0 := 0) rfl rfl)) rfl rfl hl.1 rfl (lv_room (Nat.le_of_ble_eq_true rfl)) dX3_remove_2 ⟨Nat.le_of_ble_eq_true rfl, Nat.le_of_ble_eq_true rfl⟩) ?_
    refine lv_astore_n (lv' := [(3, .ref (had ca 0)), (0, .ref x0), (1, .int (nI ca)), (2, .int b)]) hx hb dX3_remove_5 rfl hl (by decide) rfl (fun ls hl => ?_)
    refine lv_iload_n hx hb dX3_remove_6 rfl (lv_at hl 3 rfl) ?_
    rcases Classical.em (zin b 0 19 = 1) with hc_7 | hc_7
    · skip
      exact absurd (⟨zin_c _ hca, hc_7⟩) hv
    · skip
      exact z_cX (vx_runS (As := [.int b]) (rest := []) ⟨hx, hb, hml, hown, hts⟩ (kX3_refuseRecord_bad l dC dI cI cZ cH cJ b (by first | assumption | omega) hst) (va_cwS 1 hts gX3_remove_X3_refuseRecord rfl rfl rfl (by decide +kernel) ⟨Nat.le_of_ble_eq_true rfl, Nat.le_of_ble_eq_true rfl⟩) (zPreXS (is := []) hT hK hP rfl) rfl rfl hl.1 rfl (lv_room (Nat.le_of_ble_eq_true rfl)) dX3_remove_7 ⟨Nat.le_of_ble_eq_true rfl, Nat.le_of_ble_eq_true rfl⟩) hlocks ht (by decide) (by decide)
  · skip
    exact z_cX (vx_runV (As := [.int a]) (rest := []) ⟨hx, hb, hml, hown, hts⟩ (kX3_harvestOf_bad l dC dI cI cZ cH cJ x0 xq now xg a (by first | assumption | omega) hst) (cwV 1 hts gX3_remove_X3_harvestOf rfl rfl rfl (by decide +kernel) ⟨Nat.le_of_ble_eq_true rfl, Nat.le_of_ble_eq_true rfl⟩) (zPreX (is := [0, 1]) hT hK hP rfl (va_recv hK hP (ci := 3) (q0 := 0) rfl rfl)) rfl rfl hl.1 rfl (lv_room (Nat.le_of_ble_eq_true rfl)) dX3_remove_2 ⟨Nat.le_of_ble_eq_true rfl, Nat.le_of_ble_eq_true rfl⟩) hlocks ht (by decide) (by decide)
set_option maxHeartbeats 4000000 in
set_option maxRecDepth 100000 in
/-- today -/
theorem kX3_today (l : Launch) (dC : Nat → ClassId) (dI : Nat → Nat → Nat) (cI cZ cH cJ : ClassId) (x0 : Nat) (xq : Nat) (now : Int32) : Met l yX3_today wsX3_today ({ frames := 0, cells := 0, slots := 0, locals := 0 }) (zRc dC dI (zTy cI cZ cH cJ) [.ref x0] ([(x0, .inr (3, [.ref xq, .int now]))])) (zSi now) 0 0 (fun _ => False) := by
  refine Met.ofW (cc := cX3_today) (maxL := 1) (ret := (some .int)) (by decide) rfl ?_
  intro p e s m args below meth c s₁ B hml hv0
  obtain ⟨rfl, hP, hK⟩ := hv0
  have hx := B.exec
  have hb := B.bytes
  have hr := B.returns
  have hts := atoms_spec (ws := wsX3_today) B.pre
  have hown : s.vm.findClass RX3 = some m.cls := findClass_of_methodNamed B.named
  have hlocks := B.notSynchronized
  have hl := lv_entry ([.ref x0]) (n := 1) (Nat.le_of_ble_eq_true rfl)
  rw [lg_entry_eq]
  generalize (lg_sl ([.ref x0]) ++ List.replicate (1 - (lg_sl ([.ref x0])).length) Slot.unset).toArray = ls at hl ⊢
  have hl : lv_has ls 1 [(0, .ref x0)] := hl
  have hiX3 : ∀ w ∈ wsX30, w ∈ wsX3_today := by decide +kernel
  have l16 := hts (.fieldLink RX3 16 "CatalogueHarvester" "today" "I") (by decide +kernel)
  refine lv_aload_n hx hb dX3_today_0 rfl (lv_at hl 0 rfl) ?_
  refine va_get (D := (dC, dI)) (ci := 3) (v := .int now) (C := RX3) (T := TX3) (N := 2) hx hb hts hiX3 hown hK hP 0 rfl rfl 1 (by decide) l16 (fun _ h9 => h9) rfl dX3_today_1 ?_
  exact W.iret hx hb hr (fun t ht hW => ⟨rfl, ht⟩) (fun _ h => nomatch h) dX3_today_4
set_option maxHeartbeats 4000000 in
set_option maxRecDepth 100000 in
/-- CatalogueHarvester.far_ok -/
theorem kX3_far_ok (l : Launch) (dC : Nat → ClassId) (dI : Nat → Nat → Nat) (cI cZ cH cJ : ClassId) (x0 : Nat) (xq : Nat) (now : Int32) (xg : Nat → Option Nat) (ca : Nat) (hca : ca < 4) (ha : Nat → Nat) (hg : xg ca = some (ha 0)) (mk : Int32) (ho : Int32) (fl : Int32) (od : Int32) (td : Int32) (ps : Int32) (pr : Int32) (un : Int32) (de : Int32) (fT : zI) : Met l yX3_far wsX3_far ({ frames := 1, cells := 0, slots := 0, locals := 22 }) (zRc dC dI (zTy cI cZ cH cJ) [.ref x0, .int (nI ca)] ([(x0, .inr (3, [.ref xq, .int now])), (xq, .inl (cH, 4, .inr (.inr (.inr (.inr xg))))), (ha 0, .inr (1, [.ref (ha 1), .ref (ha 2), .int mk, .int ho, .int fl, .int od, .int td, .int ps, .int pr, .ref (ha 3)])), (ha 1, .inr (0, [.ref (ha 4), .ref (ha 5), .ref (ha 6), .ref (ha 7), .int un, .int de])), (ha 4, .inr (2, [.ref (ha 12), .ref (ha 13), .ref (ha 14), .ref (ha 15)])), (ha 12, .inl (cZ, 20, .inl fT))])) (zSi (zcnt fT 20)) 0 0 (fun _ => False) := by
  refine Met.ofW (cc := cX3_far) (maxL := 2) (ret := (some .int)) (by decide) rfl ?_
  intro p e s m args below meth c s₁ B hml hv0
  obtain ⟨rfl, hP, hK⟩ := hv0
  have hx := B.exec
  have hb := B.bytes
  have hr := B.returns
  have hts := atoms_spec (ws := wsX3_far) B.pre
  have hown : s.vm.findClass RX3 = some m.cls := findClass_of_methodNamed B.named
  have hlocks := B.notSynchronized
  have hl := lv_entry ([.ref x0, .int (nI ca)]) (n := 2) (Nat.le_of_ble_eq_true rfl)
  rw [lg_entry_eq]
  generalize (lg_sl ([.ref x0, .int (nI ca)]) ++ List.replicate (2 - (lg_sl ([.ref x0, .int (nI ca)])).length) Slot.unset).toArray = ls at hl ⊢
  have hl : lv_has ls 2 [(0, .ref x0), (1, .int (nI ca))] := hl
  have hiX0 : ∀ w ∈ wsX00, w ∈ wsX3_far := by decide +kernel
  have hiX1 : ∀ w ∈ wsX10, w ∈ wsX3_far := by decide +kernel
  have l28 := hts (.fieldLink RX3 28 "CatalogueHarvester$Harvest" "far" "LCatalogueHarvester$FarCatalogue;") (by decide +kernel)
  have l51 := hts (.fieldLink RX3 51 "CatalogueHarvester$FarCatalogue" "records" "LCatalogueHarvester$Records;") (by decide +kernel)
  refine lv_aload_n hx hb dX3_far_0 rfl (lv_at hl 0 rfl) ?_
  refine lv_iload_n hx hb dX3_far_1 rfl (lv_at hl 1 rfl) ?_
  refine z_cRr (va_runV (As := [.int (nI ca)]) (rest := []) ⟨hx, hb, hml, hown, hts⟩ (kX3_harvestOf_ok l dC dI cI cZ cH cJ x0 xq now xg (ha 0) ca (by first | assumption | omega) hg) (cwV 1 hts gX3_far_X3_harvestOf rfl rfl rfl (by decide +kernel) ⟨Nat.le_of_ble_eq_true rfl, Nat.le_of_ble_eq_true rfl⟩) (zPreR (is := [0, 1]) hK hP rfl (va_recv hK hP (ci := 3) (q0 := 0) rfl rfl)) rfl rfl hl.1 rfl (lv_room (Nat.le_of_ble_eq_true rfl)) dX3_far_2 ⟨Nat.le_of_ble_eq_true rfl, Nat.le_of_ble_eq_true rfl⟩) ?_
  refine va_get (D := (dC, dI)) (ci := 1) (v := .ref (ha 1)) (C := RX1) (T := TX1) (N := 10) hx hb hts hiX1 hown hK hP 2 rfl rfl 0 (by decide) l28 (fun _ h9 => h9) rfl dX3_far_5 ?_
  refine va_get (D := (dC, dI)) (ci := 0) (v := .ref (ha 4)) (C := RX0) (T := TX0) (N := 6) hx hb hts hiX0 hown hK hP 3 rfl rfl 0 (by decide) l51 (fun _ h9 => h9) rfl dX3_far_8 ?_
  refine z_cRi (va_runV (As := []) (rest := []) ⟨hx, hb, hml, hown, hts⟩ (kX2_count l dC dI cI cZ cH cJ (ha 4) (ha 12) (ha 13) (ha 14) (ha 15) fT) (cwV 0 hts gX3_far_X2_count rfl rfl rfl (by decide +kernel) ⟨Nat.le_of_ble_eq_true rfl, Nat.le_of_ble_eq_true rfl⟩) (zPreR (is := [4, 5]) hK hP rfl (va_recv hK hP (ci := 2) (q0 := 4) rfl rfl)) rfl rfl hl.1 rfl (lv_room (Nat.le_of_ble_eq_true rfl)) dX3_far_11 ⟨Nat.le_of_ble_eq_true rfl, Nat.le_of_ble_eq_true rfl⟩) ?_
  refine z_tv (v := zcnt fT 20) rfl ?_
  exact W.iret hx hb hr (fun t ht hW => ⟨rfl, ht⟩) (fun _ h => nomatch h) dX3_far_14
set_option maxHeartbeats 4000000 in
set_option maxRecDepth 100000 in
/-- CatalogueHarvester.told_ok -/
theorem kX3_told_ok (l : Launch) (dC : Nat → ClassId) (dI : Nat → Nat → Nat) (cI cZ cH cJ : ClassId) (x0 : Nat) (xq : Nat) (now : Int32) (xg : Nat → Option Nat) (ca : Nat) (hca : ca < 4) (ha : Nat → Nat) (hg : xg ca = some (ha 0)) (mk : Int32) (ho : Int32) (fl : Int32) (od : Int32) (td : Int32) (ps : Int32) (pr : Int32) (un : Int32) (de : Int32) (iT : zI) : Met l yX3_told wsX3_told ({ frames := 1, cells := 0, slots := 0, locals := 22 }) (zRc dC dI (zTy cI cZ cH cJ) [.ref x0, .int (nI ca)] ([(x0, .inr (3, [.ref xq, .int now])), (xq, .inl (cH, 4, .inr (.inr (.inr (.inr xg))))), (ha 0, .inr (1, [.ref (ha 1), .ref (ha 2), .int mk, .int ho, .int fl, .int od, .int td, .int ps, .int pr, .ref (ha 3)])), (ha 1, .inr (0, [.ref (ha 4), .ref (ha 5), .ref (ha 6), .ref (ha 7), .int un, .int de])), (ha 5, .inl (cZ, 20, .inl iT))])) (zSi (zcnt iT 20)) 0 0 (fun _ => False) := by
  refine Met.ofW (cc := cX3_told) (maxL := 2) (ret := (some .int)) (by decide) rfl ?_
  intro p e s m args below meth c s₁ B hml hv0
  obtain ⟨rfl, hP, hK⟩ := hv0
  have hx := B.exec
  have hb := B.bytes
  have hr := B.returns
  have hts := atoms_spec (ws := wsX3_told) B.pre
  have hown : s.vm.findClass RX3 = some m.cls := findClass_of_methodNamed B.named
  have hlocks := B.notSynchronized
  have hl := lv_entry ([.ref x0, .int (nI ca)]) (n := 2) (Nat.le_of_ble_eq_true rfl)
  rw [lg_entry_eq]
  generalize (lg_sl ([.ref x0, .int (nI ca)]) ++ List.replicate (2 - (lg_sl ([.ref x0, .int (nI ca)])).length) Slot.unset).toArray = ls at hl ⊢
  have hl : lv_has ls 2 [(0, .ref x0), (1, .int (nI ca))] := hl
  have hiX1 : ∀ w ∈ wsX10, w ∈ wsX3_told := by decide +kernel
  have l28 := hts (.fieldLink RX3 28 "CatalogueHarvester$Harvest" "far" "LCatalogueHarvester$FarCatalogue;") (by decide +kernel)
  refine lv_aload_n hx hb dX3_told_0 rfl (lv_at hl 0 rfl) ?_
  refine lv_iload_n hx hb dX3_told_1 rfl (lv_at hl 1 rfl) ?_
  refine z_cRr (va_runV (As := [.int (nI ca)]) (rest := []) ⟨hx, hb, hml, hown, hts⟩ (kX3_harvestOf_ok l dC dI cI cZ cH cJ x0 xq now xg (ha 0) ca (by first | assumption | omega) hg) (cwV 1 hts gX3_told_X3_harvestOf rfl rfl rfl (by decide +kernel) ⟨Nat.le_of_ble_eq_true rfl, Nat.le_of_ble_eq_true rfl⟩) (zPreR (is := [0, 1]) hK hP rfl (va_recv hK hP (ci := 3) (q0 := 0) rfl rfl)) rfl rfl hl.1 rfl (lv_room (Nat.le_of_ble_eq_true rfl)) dX3_told_2 ⟨Nat.le_of_ble_eq_true rfl, Nat.le_of_ble_eq_true rfl⟩) ?_
  refine va_get (D := (dC, dI)) (ci := 1) (v := .ref (ha 1)) (C := RX1) (T := TX1) (N := 10) hx hb hts hiX1 hown hK hP 2 rfl rfl 0 (by decide) l28 (fun _ h9 => h9) rfl dX3_told_5 ?_
  refine z_cRi (va_runV (As := []) (rest := []) ⟨hx, hb, hml, hown, hts⟩ (kX0_countTold l dC dI cI cZ cH cJ (ha 1) (ha 4) (ha 5) (ha 6) (ha 7) un de iT) (cwV 0 hts gX3_told_X0_countTold rfl rfl rfl (by decide +kernel) ⟨Nat.le_of_ble_eq_true rfl, Nat.le_of_ble_eq_true rfl⟩) (zPreR (is := [3, 4]) hK hP rfl (va_recv hK hP (ci := 0) (q0 := 3) rfl rfl)) rfl rfl hl.1 rfl (lv_room (Nat.le_of_ble_eq_true rfl)) dX3_told_8 ⟨Nat.le_of_ble_eq_true rfl, Nat.le_of_ble_eq_true rfl⟩) ?_
  refine z_tv (v := zcnt iT 20) rfl ?_
  exact W.iret hx hb hr (fun t ht hW => ⟨rfl, ht⟩) (fun _ h => nomatch h) dX3_told_11
set_option maxHeartbeats 4000000 in
set_option maxRecDepth 100000 in
/-- CatalogueHarvester.open_ok -/
theorem kX3_open_ok (l : Launch) (dC : Nat → ClassId) (dI : Nat → Nat → Nat) (cI cZ cH cJ : ClassId) (x0 : Nat) (xq : Nat) (now : Int32) (xg : Nat → Option Nat) (ca : Nat) (hca : ca < 4) (ha : Nat → Nat) (hg : xg ca = some (ha 0)) (mk : Int32) (ho : Int32) (fl : Int32) (od : Int32) (td : Int32) (ps : Int32) (pr : Int32) (tk : zI) (full : Int32) (hff : full = 0 ∨ full = 1) (sz : Nat) : Met l yX3_open wsX3_open ({ frames := 1, cells := 0, slots := 0, locals := 23 }) (zPc dC dI (zTy cI cZ cH cJ) [.ref x0, .int (nI ca), .int full] sz ([(x0, .inr (3, [.ref xq, .int now])), (xq, .inl (cH, 4, .inr (.inr (.inr (.inr xg))))), (ha 0, .inr (1, [.ref (ha 1), .ref (ha 2), .int mk, .int ho, .int fl, .int od, .int td, .int ps, .int pr, .ref (ha 3)])), (ha 3, .inl (cZ, 20, .inl tk))])) (zQi dC dI (if full = 0 then mk else 0) ([(x0, .inr (3, [.ref xq, .int now])), (xq, .inl (cH, 4, .inr (.inr (.inr (.inr xg))))), (ha 0, .inr (1, [.ref (ha 1), .ref (ha 2), .int mk, .int 1, .int full, .int now, .int now, .int (-1), .int (-1), .ref (ha 3)])), (ha 3, .inl (cZ, 20, .inl (zclr tk 20)))]) (va_A ([(x0, .inr (3, [.ref xq, .int now])), (xq, .inl (cH, 4, .inr (.inr (.inr (.inr xg))))), (ha 0, .inr (1, [.ref (ha 1), .ref (ha 2), .int mk, .int ho, .int fl, .int od, .int td, .int ps, .int pr, .ref (ha 3)])), (ha 3, .inl (cZ, 20, .inl tk))]) sz)) 0 0 (va_A ([(x0, .inr (3, [.ref xq, .int now])), (xq, .inl (cH, 4, .inr (.inr (.inr (.inr xg))))), (ha 0, .inr (1, [.ref (ha 1), .ref (ha 2), .int mk, .int ho, .int fl, .int od, .int td, .int ps, .int pr, .ref (ha 3)])), (ha 3, .inl (cZ, 20, .inl tk))]) sz) := by
  refine Met.ofW (cc := cX3_open) (maxL := 4) (ret := (some .int)) (by decide) rfl ?_
  intro p e s m args below meth c s₁ B hml hv0
  obtain ⟨rfl, hsz, hP, hK, hD0⟩ := hv0
  have hx := B.exec
  have hb := B.bytes
  have hr := B.returns
  have hts := atoms_spec (ws := wsX3_open) B.pre
  have hown : s.vm.findClass RX3 = some m.cls := findClass_of_methodNamed B.named
  have hlocks := B.notSynchronized
  subst hsz
  have hD := hD0.self (sz := s.heap.size)
  generalize hAe : va_A ([(x0, .inr (3, [.ref xq, .int now])), (xq, .inl (cH, 4, .inr (.inr (.inr (.inr xg))))), (ha 0, .inr (1, [.ref (ha 1), .ref (ha 2), .int mk, .int ho, .int fl, .int od, .int td, .int ps, .int pr, .ref (ha 3)])), (ha 3, .inl (cZ, 20, .inl tk))]) s.heap.size = A at hD ⊢
  have hA : ∀ q : Nat, s.heap.size ≤ q → A q := fun q h => by rw [← hAe]; exact Or.inr h
  have hS : va_S A s.heap s.heap [] := va_S.rf
  have hl := lv_entry ([.ref x0, .int (nI ca), .int full]) (n := 4) (Nat.le_of_ble_eq_true rfl)
  rw [lg_entry_eq]
  generalize (lg_sl ([.ref x0, .int (nI ca), .int full]) ++ List.replicate (4 - (lg_sl ([.ref x0, .int (nI ca), .int full])).length) Slot.unset).toArray = ls at hl ⊢
  have hl : lv_has ls 4 [(0, .ref x0), (1, .int (nI ca)), (2, .int full)] := hl
  have hiX3 : ∀ w ∈ wsX30, w ∈ wsX3_open := by decide +kernel
  have l16 := hts (.fieldLink RX3 16 "CatalogueHarvester" "today" "I") (by decide +kernel)
  refine lv_aload_n hx hb dX3_open_0 rfl (lv_at hl 0 rfl) ?_
  refine lv_iload_n hx hb dX3_open_1 rfl (lv_at hl 1 rfl) ?_
  refine z_cRr (va_runV (As := [.int (nI ca)]) (rest := []) ⟨hx, hb, hml, hown, hts⟩ (kX3_harvestOf_ok l dC dI cI cZ cH cJ x0 xq now xg (ha 0) ca (by first | assumption | omega) hg) (cwV 1 hts gX3_open_X3_harvestOf rfl rfl rfl (by decide +kernel) ⟨Nat.le_of_ble_eq_true rfl, Nat.le_of_ble_eq_true rfl⟩) (zPreR (is := [0, 1]) hK hP rfl (va_recv hK hP (ci := 3) (q0 := 0) rfl rfl)) rfl rfl hl.1 rfl (lv_room (Nat.le_of_ble_eq_true rfl)) dX3_open_2 ⟨Nat.le_of_ble_eq_true rfl, Nat.le_of_ble_eq_true rfl⟩) ?_
  refine lv_astore_n (lv' := [(3, .ref (ha 0)), (0, .ref x0), (1, .int (nI ca)), (2, .int full)]) hx hb dX3_open_5 rfl hl (by decide) rfl (fun ls hl => ?_)
  refine lv_aload_n hx hb dX3_open_6 rfl (lv_at hl 0 rfl) ?_
  refine lv_iload_n hx hb dX3_open_7 rfl (lv_at hl 3 rfl) ?_
  refine lv_aload_n hx hb dX3_open_8 rfl (lv_at hl 1 rfl) ?_
  refine va_get (D := (dC, dI)) (ci := 3) (v := .int now) (C := RX3) (T := TX3) (N := 2) hx hb hts hiX3 hown hK hP 0 rfl rfl 1 (by decide) l16 (fun _ h9 => h9) rfl dX3_open_9 ?_
  refine z_cMv (is := [2, 3]) (va_runV (As := [.int full, .int now]) (rest := []) ⟨hx, hb, hml, hown, hts⟩ (kX1_begin l dC dI cI cZ cH cJ (ha 0) (ha 1) (ha 2) (ha 3) mk ho fl od td ps pr tk full (by first | assumption | omega) now s.heap.size) (cwV 2 hts gX3_open_X1_begin rfl rfl rfl (by decide +kernel) ⟨Nat.le_of_ble_eq_true rfl, Nat.le_of_ble_eq_true rfl⟩) (zPreV (is := [2, 3]) hK hP hD (by decide) rfl (va_recv hK hP (ci := 1) (q0 := 2) rfl rfl)) rfl rfl hl.1 rfl (lv_room (Nat.le_of_ble_eq_true rfl)) dX3_open_12 ⟨Nat.le_of_ble_eq_true rfl, Nat.le_of_ble_eq_true rfl⟩) hP hD hS hA rfl (by decide) rfl (fun H locs hP hD hS => ?_)
  have hP : va_P (dC, dI) vwCl ([(x0, .inr (3, [.ref xq, .int now])), (xq, .inl (cH, 4, .inr (.inr (.inr (.inr xg))))), (ha 0, .inr (1, [.ref (ha 1), .ref (ha 2), .int mk, .int 1, .int full, .int now, .int now, .int (-1), .int (-1), .ref (ha 3)])), (ha 3, .inl (cZ, 20, .inl (zclr tk 20)))]) H := hP
  have hD : va_D A ([(x0, .inr (3, [.ref xq, .int now])), (xq, .inl (cH, 4, .inr (.inr (.inr (.inr xg))))), (ha 0, .inr (1, [.ref (ha 1), .ref (ha 2), .int mk, .int 1, .int full, .int now, .int now, .int (-1), .int (-1), .ref (ha 3)])), (ha 3, .inl (cZ, 20, .inl (zclr tk 20)))]) := hD
  refine lv_aload_n hx hb dX3_open_15 rfl (lv_at hl 0 rfl) ?_
  refine z_cRi (va_runV (As := []) (rest := []) ⟨hx, hb, hml, hown, hts⟩ (kX1_firstStamp l dC dI cI cZ cH cJ (ha 0) (ha 1) (ha 2) (ha 3) mk 1 full now now (-1) (-1)) (cwV 0 hts gX3_open_X1_firstStamp rfl rfl rfl (by decide +kernel) ⟨Nat.le_of_ble_eq_true rfl, Nat.le_of_ble_eq_true rfl⟩) (zPreR (is := [2]) hK hP rfl (va_recv hK hP (ci := 1) (q0 := 2) rfl rfl)) rfl rfl hl.1 rfl (lv_room (Nat.le_of_ble_eq_true rfl)) dX3_open_16 ⟨Nat.le_of_ble_eq_true rfl, Nat.le_of_ble_eq_true rfl⟩) ?_
  refine z_tv (v := if full = 0 then mk else 0) rfl ?_
  exact W.iret hx hb hr (fun t ht hW => ⟨rfl, ⟨by rw [ht]; exact hP, hD⟩, hS.F ht⟩) hS.2.2 dX3_open_19
set_option maxHeartbeats 4000000 in
set_option maxRecDepth 100000 in
/-- CatalogueHarvester.read_ok -/
theorem kX3_read_ok (l : Launch) (dC : Nat → ClassId) (dI : Nat → Nat → Nat) (cI cZ cH cJ : ClassId) (x0 : Nat) (xq : Nat) (now : Int32) (xg : Nat → Option Nat) (ca : Nat) (hca : ca < 4) (ha : Nat → Nat) (hg : xg ca = some (ha 0)) (mk : Int32) (ho : Int32) (fl : Int32) (od : Int32) (td : Int32) (ps : Int32) (pr : Int32) (un : Int32) (de : Int32) (fT : zI) (fW : zI) (fV : zI) (fS : zI) (iT : zI) (tS : zI) (sT : zI) (sW : zI) (sV : zI) (sS : zI) (tk : zI) (res' : Int32) (mk' : Int32) (ho' : Int32) (od' : Int32) (ps' : Int32) (pr' : Int32) (sT' : zI) (sW' : zI) (sV' : zI) (sS' : zI) (tk' : zI) (hop : ¬ ho = 0) (hff : fl = 0 ∨ fl = 1) (hsp : ztp fT fW fV fS (zls fT fS iT tS) un now mk ho fl od td (ps, pr, sT, sW, sV, sS, tk) = (res', mk', ho', od', ps', pr', sT', sW', sV', sS', tk')) (sz : Nat) : Met l yX3_read wsX3_read ({ frames := 4, cells := 0, slots := 0, locals := 93 }) (zPc dC dI (zTy cI cZ cH cJ) [.ref x0, .int (nI ca)] sz ([(x0, .inr (3, [.ref xq, .int now])), (xq, .inl (cH, 4, .inr (.inr (.inr (.inr xg))))), (ha 0, .inr (1, [.ref (ha 1), .ref (ha 2), .int mk, .int ho, .int fl, .int od, .int td, .int ps, .int pr, .ref (ha 3)])), (ha 1, .inr (0, [.ref (ha 4), .ref (ha 5), .ref (ha 6), .ref (ha 7), .int un, .int de])), (ha 4, .inr (2, [.ref (ha 12), .ref (ha 13), .ref (ha 14), .ref (ha 15)])), (ha 12, .inl (cZ, 20, .inl fT)), (ha 13, .inl (cI, 20, .inl fW)), (ha 14, .inl (cI, 20, .inl fV)), (ha 15, .inl (cI, 20, .inl fS)), (ha 5, .inl (cZ, 20, .inl iT)), (ha 6, .inl (cI, 20, .inl tS)), (ha 2, .inr (2, [.ref (ha 8), .ref (ha 9), .ref (ha 10), .ref (ha 11)])), (ha 8, .inl (cZ, 20, .inl sT)), (ha 9, .inl (cI, 20, .inl sW)), (ha 10, .inl (cI, 20, .inl sV)), (ha 11, .inl (cI, 20, .inl sS)), (ha 3, .inl (cZ, 20, .inl tk))])) (zQi dC dI res' ([(x0, .inr (3, [.ref xq, .int now])), (xq, .inl (cH, 4, .inr (.inr (.inr (.inr xg))))), (ha 0, .inr (1, [.ref (ha 1), .ref (ha 2), .int mk', .int ho', .int fl, .int od', .int now, .int ps', .int pr', .ref (ha 3)])), (ha 1, .inr (0, [.ref (ha 4), .ref (ha 5), .ref (ha 6), .ref (ha 7), .int un, .int de])), (ha 4, .inr (2, [.ref (ha 12), .ref (ha 13), .ref (ha 14), .ref (ha 15)])), (ha 12, .inl (cZ, 20, .inl fT)), (ha 13, .inl (cI, 20, .inl fW)), (ha 14, .inl (cI, 20, .inl fV)), (ha 15, .inl (cI, 20, .inl fS)), (ha 5, .inl (cZ, 20, .inl iT)), (ha 6, .inl (cI, 20, .inl tS)), (ha 2, .inr (2, [.ref (ha 8), .ref (ha 9), .ref (ha 10), .ref (ha 11)])), (ha 8, .inl (cZ, 20, .inl sT')), (ha 9, .inl (cI, 20, .inl sW')), (ha 10, .inl (cI, 20, .inl sV')), (ha 11, .inl (cI, 20, .inl sS')), (ha 3, .inl (cZ, 20, .inl tk'))]) (va_A ([(x0, .inr (3, [.ref xq, .int now])), (xq, .inl (cH, 4, .inr (.inr (.inr (.inr xg))))), (ha 0, .inr (1, [.ref (ha 1), .ref (ha 2), .int mk, .int ho, .int fl, .int od, .int td, .int ps, .int pr, .ref (ha 3)])), (ha 1, .inr (0, [.ref (ha 4), .ref (ha 5), .ref (ha 6), .ref (ha 7), .int un, .int de])), (ha 4, .inr (2, [.ref (ha 12), .ref (ha 13), .ref (ha 14), .ref (ha 15)])), (ha 12, .inl (cZ, 20, .inl fT)), (ha 13, .inl (cI, 20, .inl fW)), (ha 14, .inl (cI, 20, .inl fV)), (ha 15, .inl (cI, 20, .inl fS)), (ha 5, .inl (cZ, 20, .inl iT)), (ha 6, .inl (cI, 20, .inl tS)), (ha 2, .inr (2, [.ref (ha 8), .ref (ha 9), .ref (ha 10), .ref (ha 11)])), (ha 8, .inl (cZ, 20, .inl sT)), (ha 9, .inl (cI, 20, .inl sW)), (ha 10, .inl (cI, 20, .inl sV)), (ha 11, .inl (cI, 20, .inl sS)), (ha 3, .inl (cZ, 20, .inl tk))]) sz)) 0 0 (va_A ([(x0, .inr (3, [.ref xq, .int now])), (xq, .inl (cH, 4, .inr (.inr (.inr (.inr xg))))), (ha 0, .inr (1, [.ref (ha 1), .ref (ha 2), .int mk, .int ho, .int fl, .int od, .int td, .int ps, .int pr, .ref (ha 3)])), (ha 1, .inr (0, [.ref (ha 4), .ref (ha 5), .ref (ha 6), .ref (ha 7), .int un, .int de])), (ha 4, .inr (2, [.ref (ha 12), .ref (ha 13), .ref (ha 14), .ref (ha 15)])), (ha 12, .inl (cZ, 20, .inl fT)), (ha 13, .inl (cI, 20, .inl fW)), (ha 14, .inl (cI, 20, .inl fV)), (ha 15, .inl (cI, 20, .inl fS)), (ha 5, .inl (cZ, 20, .inl iT)), (ha 6, .inl (cI, 20, .inl tS)), (ha 2, .inr (2, [.ref (ha 8), .ref (ha 9), .ref (ha 10), .ref (ha 11)])), (ha 8, .inl (cZ, 20, .inl sT)), (ha 9, .inl (cI, 20, .inl sW)), (ha 10, .inl (cI, 20, .inl sV)), (ha 11, .inl (cI, 20, .inl sS)), (ha 3, .inl (cZ, 20, .inl tk))]) sz) := by
  refine Met.ofW (cc := cX3_read) (maxL := 3) (ret := (some .int)) (by decide) rfl ?_
  intro p e s m args below meth c s₁ B hml hv0
  obtain ⟨rfl, hsz, hP, hK, hD0⟩ := hv0
  have hx := B.exec
  have hb := B.bytes
  have hr := B.returns
  have hts := atoms_spec (ws := wsX3_read) B.pre
  have hown : s.vm.findClass RX3 = some m.cls := findClass_of_methodNamed B.named
  have hlocks := B.notSynchronized
  subst hsz
  have hD := hD0.self (sz := s.heap.size)
  generalize hAe : va_A ([(x0, .inr (3, [.ref xq, .int now])), (xq, .inl (cH, 4, .inr (.inr (.inr (.inr xg))))), (ha 0, .inr (1, [.ref (ha 1), .ref (ha 2), .int mk, .int ho, .int fl, .int od, .int td, .int ps, .int pr, .ref (ha 3)])), (ha 1, .inr (0, [.ref (ha 4), .ref (ha 5), .ref (ha 6), .ref (ha 7), .int un, .int de])), (ha 4, .inr (2, [.ref (ha 12), .ref (ha 13), .ref (ha 14), .ref (ha 15)])), (ha 12, .inl (cZ, 20, .inl fT)), (ha 13, .inl (cI, 20, .inl fW)), (ha 14, .inl (cI, 20, .inl fV)), (ha 15, .inl (cI, 20, .inl fS)), (ha 5, .inl (cZ, 20, .inl iT)), (ha 6, .inl (cI, 20, .inl tS)), (ha 2, .inr (2, [.ref (ha 8), .ref (ha 9), .ref (ha 10), .ref (ha 11)])), (ha 8, .inl (cZ, 20, .inl sT)), (ha 9, .inl (cI, 20, .inl sW)), (ha 10, .inl (cI, 20, .inl sV)), (ha 11, .inl (cI, 20, .inl sS)), (ha 3, .inl (cZ, 20, .inl tk))]) s.heap.size = A at hD ⊢
  have hA : ∀ q : Nat, s.heap.size ≤ q → A q := fun q h => by rw [← hAe]; exact Or.inr h
  have hS : va_S A s.heap s.heap [] := va_S.rf
  have hl := lv_entry ([.ref x0, .int (nI ca)]) (n := 3) (Nat.le_of_ble_eq_true rfl)
  rw [lg_entry_eq]
  generalize (lg_sl ([.ref x0, .int (nI ca)]) ++ List.replicate (3 - (lg_sl ([.ref x0, .int (nI ca)])).length) Slot.unset).toArray = ls at hl ⊢
  have hl : lv_has ls 3 [(0, .ref x0), (1, .int (nI ca))] := hl
  have hiX1 : ∀ w ∈ wsX10, w ∈ wsX3_read := by decide +kernel
  have hiX3 : ∀ w ∈ wsX30, w ∈ wsX3_read := by decide +kernel
  have l16 := hts (.fieldLink RX3 16 "CatalogueHarvester" "today" "I") (by decide +kernel)
  have l88 := hts (.fieldLink RX3 88 "CatalogueHarvester$Harvest" "hasOpenList" "Z") (by decide +kernel)
  refine lv_aload_n hx hb dX3_read_0 rfl (lv_at hl 0 rfl) ?_
  refine lv_iload_n hx hb dX3_read_1 rfl (lv_at hl 1 rfl) ?_
  refine z_cRr (va_runV (As := [.int (nI ca)]) (rest := []) ⟨hx, hb, hml, hown, hts⟩ (kX3_harvestOf_ok l dC dI cI cZ cH cJ x0 xq now xg (ha 0) ca (by first | assumption | omega) hg) (cwV 1 hts gX3_read_X3_harvestOf rfl rfl rfl (by decide +kernel) ⟨Nat.le_of_ble_eq_true rfl, Nat.le_of_ble_eq_true rfl⟩) (zPreR (is := [0, 1]) hK hP rfl (va_recv hK hP (ci := 3) (q0 := 0) rfl rfl)) rfl rfl hl.1 rfl (lv_room (Nat.le_of_ble_eq_true rfl)) dX3_read_2 ⟨Nat.le_of_ble_eq_true rfl, Nat.le_of_ble_eq_true rfl⟩) ?_
  refine lv_astore_n (lv' := [(2, .ref (ha 0)), (0, .ref x0), (1, .int (nI ca))]) hx hb dX3_read_5 rfl hl (by decide) rfl (fun ls hl => ?_)
  refine lv_aload_n hx hb dX3_read_6 rfl (lv_at hl 0 rfl) ?_
  refine va_get (D := (dC, dI)) (ci := 1) (v := .int ho) (C := RX1) (T := TX1) (N := 10) hx hb hts hiX1 hown hK hP 2 rfl rfl 3 (by decide) l88 (fun _ h9 => h9) rfl dX3_read_7 ?_
  refine lv_if_ne (tgt := 23) hx hb dX3_read_10 (by decide) (fun c_10 => ?_) (fun c_10 => ?_)
  · skip
    refine lv_aload_n hx hb dX3_read_23 rfl (lv_at hl 0 rfl) ?_
    refine lv_aload_n hx hb dX3_read_24 rfl (lv_at hl 1 rfl) ?_
    refine va_get (D := (dC, dI)) (ci := 3) (v := .int now) (C := RX3) (T := TX3) (N := 2) hx hb hts hiX3 hown hK hP 0 rfl rfl 1 (by decide) l16 (fun _ h9 => h9) rfl dX3_read_25 ?_
    refine z_cMi (is := [2, 3, 4, 5, 6, 7, 8, 9, 10, 11, 12, 13, 14, 15, 16]) (va_runV (As := [.int now]) (rest := []) ⟨hx, hb, hml, hown, hts⟩ (kX1_takePage l dC dI cI cZ cH cJ (ha 0) (ha 1) (ha 2) (ha 3) mk ho fl od td ps pr (ha 4) (ha 5) (ha 6) (ha 7) (ha 12) (ha 13) (ha 14) (ha 15) (ha 8) (ha 9) (ha 10) (ha 11) un de fT fW fV fS iT tS sT sW sV sS tk now (by first | assumption | omega) (res') (mk') (ho') (od') (ps') (pr') (sT') (sW') (sV') (sS') (tk') (hsp) s.heap.size) (cwV 1 hts gX3_read_X1_takePage rfl rfl rfl (by decide +kernel) ⟨Nat.le_of_ble_eq_true rfl, Nat.le_of_ble_eq_true rfl⟩) (zPreV (is := [2, 3, 4, 5, 6, 7, 8, 9, 10, 11, 12, 13, 14, 15, 16]) hK hP hD (by decide) rfl (va_recv hK hP (ci := 1) (q0 := 2) rfl rfl)) rfl rfl hl.1 rfl (lv_room (Nat.le_of_ble_eq_true rfl)) dX3_read_28 ⟨Nat.le_of_ble_eq_true rfl, Nat.le_of_ble_eq_true rfl⟩) hP hD hS hA rfl (by decide) rfl (fun H locs hP hD hS => ?_)
    have hP : va_P (dC, dI) vwCl ([(x0, .inr (3, [.ref xq, .int now])), (xq, .inl (cH, 4, .inr (.inr (.inr (.inr xg))))), (ha 0, .inr (1, [.ref (ha 1), .ref (ha 2), .int mk', .int ho', .int fl, .int od', .int now, .int ps', .int pr', .ref (ha 3)])), (ha 1, .inr (0, [.ref (ha 4), .ref (ha 5), .ref (ha 6), .ref (ha 7), .int un, .int de])), (ha 4, .inr (2, [.ref (ha 12), .ref (ha 13), .ref (ha 14), .ref (ha 15)])), (ha 12, .inl (cZ, 20, .inl fT)), (ha 13, .inl (cI, 20, .inl fW)), (ha 14, .inl (cI, 20, .inl fV)), (ha 15, .inl (cI, 20, .inl fS)), (ha 5, .inl (cZ, 20, .inl iT)), (ha 6, .inl (cI, 20, .inl tS)), (ha 2, .inr (2, [.ref (ha 8), .ref (ha 9), .ref (ha 10), .ref (ha 11)])), (ha 8, .inl (cZ, 20, .inl sT')), (ha 9, .inl (cI, 20, .inl sW')), (ha 10, .inl (cI, 20, .inl sV')), (ha 11, .inl (cI, 20, .inl sS')), (ha 3, .inl (cZ, 20, .inl tk'))]) H := hP
    have hD : va_D A ([(x0, .inr (3, [.ref xq, .int now])), (xq, .inl (cH, 4, .inr (.inr (.inr (.inr xg))))), (ha 0, .inr (1, [.ref (ha 1), .ref (ha 2), .int mk', .int ho', .int fl, .int od', .int now, .int ps', .int pr', .ref (ha 3)])), (ha 1, .inr (0, [.ref (ha 4), .ref (ha 5), .ref (ha 6), .ref (ha 7), .int un, .int de])), (ha 4, .inr (2, [.ref (ha 12), .ref (ha 13), .ref (ha 14), .ref (ha 15)])), (ha 12, .inl (cZ, 20, .inl fT)), (ha 13, .inl (cI, 20, .inl fW)), (ha 14, .inl (cI, 20, .inl fV)), (ha 15, .inl (cI, 20, .inl fS)), (ha 5, .inl (cZ, 20, .inl iT)), (ha 6, .inl (cI, 20, .inl tS)), (ha 2, .inr (2, [.ref (ha 8), .ref (ha 9), .ref (ha 10), .ref (ha 11)])), (ha 8, .inl (cZ, 20, .inl sT')), (ha 9, .inl (cI, 20, .inl sW')), (ha 10, .inl (cI, 20, .inl sV')), (ha 11, .inl (cI, 20, .inl sS')), (ha 3, .inl (cZ, 20, .inl tk'))]) := hD
    refine z_tv (v := res') rfl ?_
    exact W.iret hx hb hr (fun t ht hW => ⟨rfl, ⟨by rw [ht]; exact hP, hD⟩, hS.F ht⟩) hS.2.2 dX3_read_31
  · exact absurd c_10 hop
set_option maxHeartbeats 4000000 in
set_option maxRecDepth 100000 in
/-- CatalogueHarvester.read_no -/
theorem kX3_read_no (l : Launch) (dC : Nat → ClassId) (dI : Nat → Nat → Nat) (cI cZ cH cJ : ClassId) (x0 : Nat) (xq : Nat) (now : Int32) (xg : Nat → Option Nat) (ca : Nat) (hca : ca < 4) (ha : Nat → Nat) (hg : xg ca = some (ha 0)) (mk : Int32) (ho : Int32) (fl : Int32) (od : Int32) (td : Int32) (ps : Int32) (pr : Int32) (hop : ho = 0) (hst : l.stackTraces = false) : vx_Met l yX3_read wsX3_read ({ frames := 7, cells := 1, slots := 6, locals := 112 }) (zXc dC dI (zTy cI cZ cH cJ) [.ref x0, .int (nI ca)] ([(x0, .inr (3, [.ref xq, .int now])), (xq, .inl (cH, 4, .inr (.inr (.inr (.inr xg))))), (ha 0, .inr (1, [.ref (ha 1), .ref (ha 2), .int mk, .int ho, .int fl, .int od, .int td, .int ps, .int pr, .ref (ha 3)]))])) zXQ (zXC zISE) 1 6 (fun _ => False) := by
  refine vx_ofW (cc := cX3_read) (maxL := 3) (ret := (some .int)) (by decide) rfl ?_
  intro p e s m args below meth c s₁ B hml ht hv0
  obtain ⟨rfl, hT, hP, hK⟩ := hv0
  have hx := B.exec
  have hb := B.bytes
  have hr := B.returns
  have hts := atoms_spec (ws := wsX3_read) B.pre
  have hown : s.vm.findClass RX3 = some m.cls := findClass_of_methodNamed B.named
  have hlocks := B.notSynchronized
  have hl := lv_entry ([.ref x0, .int (nI ca)]) (n := 3) (Nat.le_of_ble_eq_true rfl)
  rw [lg_entry_eq]
  generalize (lg_sl ([.ref x0, .int (nI ca)]) ++ List.replicate (3 - (lg_sl ([.ref x0, .int (nI ca)])).length) Slot.unset).toArray = ls at hl ⊢
  have hl : lv_has ls 3 [(0, .ref x0), (1, .int (nI ca))] := hl
  have hiX1 : ∀ w ∈ wsX10, w ∈ wsX3_read := by decide +kernel
  have l88 := hts (.fieldLink RX3 88 "CatalogueHarvester$Harvest" "hasOpenList" "Z") (by decide +kernel)
  refine lv_aload_n hx hb dX3_read_0 rfl (lv_at hl 0 rfl) ?_
  refine lv_iload_n hx hb dX3_read_1 rfl (lv_at hl 1 rfl) ?_
  refine z_cRr (va_runV (As := [.int (nI ca)]) (rest := []) ⟨hx, hb, hml, hown, hts⟩ (kX3_harvestOf_ok l dC dI cI cZ cH cJ x0 xq now xg (ha 0) ca (by first | assumption | omega) hg) (cwV 1 hts gX3_read_X3_harvestOf rfl rfl rfl (by decide +kernel) ⟨Nat.le_of_ble_eq_true rfl, Nat.le_of_ble_eq_true rfl⟩) (zPreR (is := [0, 1]) hK hP rfl (va_recv hK hP (ci := 3) (q0 := 0) rfl rfl)) rfl rfl hl.1 rfl (lv_room (Nat.le_of_ble_eq_true rfl)) dX3_read_2 ⟨Nat.le_of_ble_eq_true rfl, Nat.le_of_ble_eq_true rfl⟩) ?_
  refine lv_astore_n (lv' := [(2, .ref (ha 0)), (0, .ref x0), (1, .int (nI ca))]) hx hb dX3_read_5 rfl hl (by decide) rfl (fun ls hl => ?_)
  refine lv_aload_n hx hb dX3_read_6 rfl (lv_at hl 0 rfl) ?_
  refine va_get (D := (dC, dI)) (ci := 1) (v := .int ho) (C := RX1) (T := TX1) (N := 10) hx hb hts hiX1 hown hK hP 2 rfl rfl 3 (by decide) l88 (fun _ h9 => h9) rfl dX3_read_7 ?_
  refine lv_if_ne (tgt := 23) hx hb dX3_read_10 (by decide) (fun c_10 => ?_) (fun c_10 => ?_)
  · exact absurd hop c_10
  · skip
    exact z_throw (ik := 61) (ic := 65) (is := 92) (text := "no list is open") hx hb hst hown zf_ISE (hts (.classLink RX3 61 zISE) (by decide +kernel)) (hts (.initialized zISE) (by decide +kernel)) hT hT.2.2.2.2.2.2.2 (fun w h => hts w (List.mem_cons_of_mem _ (List.mem_append_left _ (List.mem_append_right _ h)))) zb_ISE zg_ISE hml hl.1 dX3_read_13 dX3_read_16 dX3_read_17 dX3_read_19 dX3_read_22 ht hlocks (by decide) (by decide) (by decide) (by decide) (by decide) (by decide)
set_option maxHeartbeats 4000000 in
set_option maxRecDepth 100000 in
/-- CatalogueHarvester.isOpen_ok -/
theorem kX3_isOpen_ok (l : Launch) (dC : Nat → ClassId) (dI : Nat → Nat → Nat) (cI cZ cH cJ : ClassId) (x0 : Nat) (xq : Nat) (now : Int32) (xg : Nat → Option Nat) (ca : Nat) (hca : ca < 4) (ha : Nat → Nat) (hg : xg ca = some (ha 0)) (mk : Int32) (ho : Int32) (fl : Int32) (od : Int32) (td : Int32) (ps : Int32) (pr : Int32) (hho : ho = 0 ∨ ho = 1) : Met l yX3_isOpen wsX3_isOpen ({ frames := 1, cells := 0, slots := 0, locals := 22 }) (zRc dC dI (zTy cI cZ cH cJ) [.ref x0, .int (nI ca)] ([(x0, .inr (3, [.ref xq, .int now])), (xq, .inl (cH, 4, .inr (.inr (.inr (.inr xg))))), (ha 0, .inr (1, [.ref (ha 1), .ref (ha 2), .int mk, .int ho, .int fl, .int od, .int td, .int ps, .int pr, .ref (ha 3)]))])) (zSi ho) 0 0 (fun _ => False) := by
  refine Met.ofW (cc := cX3_isOpen) (maxL := 2) (ret := (some .boolean)) (by decide) rfl ?_
  intro p e s m args below meth c s₁ B hml hv0
  obtain ⟨rfl, hP, hK⟩ := hv0
  have hx := B.exec
  have hb := B.bytes
  have hr := B.returns
  have hts := atoms_spec (ws := wsX3_isOpen) B.pre
  have hown : s.vm.findClass RX3 = some m.cls := findClass_of_methodNamed B.named
  have hlocks := B.notSynchronized
  have hl := lv_entry ([.ref x0, .int (nI ca)]) (n := 2) (Nat.le_of_ble_eq_true rfl)
  rw [lg_entry_eq]
  generalize (lg_sl ([.ref x0, .int (nI ca)]) ++ List.replicate (2 - (lg_sl ([.ref x0, .int (nI ca)])).length) Slot.unset).toArray = ls at hl ⊢
  have hl : lv_has ls 2 [(0, .ref x0), (1, .int (nI ca))] := hl
  have hiX1 : ∀ w ∈ wsX10, w ∈ wsX3_isOpen := by decide +kernel
  have l88 := hts (.fieldLink RX3 88 "CatalogueHarvester$Harvest" "hasOpenList" "Z") (by decide +kernel)
  refine lv_aload_n hx hb dX3_isOpen_0 rfl (lv_at hl 0 rfl) ?_
  refine lv_iload_n hx hb dX3_isOpen_1 rfl (lv_at hl 1 rfl) ?_
  refine z_cRr (va_runV (As := [.int (nI ca)]) (rest := []) ⟨hx, hb, hml, hown, hts⟩ (kX3_harvestOf_ok l dC dI cI cZ cH cJ x0 xq now xg (ha 0) ca (by first | assumption | omega) hg) (cwV 1 hts gX3_isOpen_X3_harvestOf rfl rfl rfl (by decide +kernel) ⟨Nat.le_of_ble_eq_true rfl, Nat.le_of_ble_eq_true rfl⟩) (zPreR (is := [0, 1]) hK hP rfl (va_recv hK hP (ci := 3) (q0 := 0) rfl rfl)) rfl rfl hl.1 rfl (lv_room (Nat.le_of_ble_eq_true rfl)) dX3_isOpen_2 ⟨Nat.le_of_ble_eq_true rfl, Nat.le_of_ble_eq_true rfl⟩) ?_
  refine va_get (D := (dC, dI)) (ci := 1) (v := .int ho) (C := RX1) (T := TX1) (N := 10) hx hb hts hiX1 hown hK hP 2 rfl rfl 3 (by decide) l88 (fun _ h9 => h9) rfl dX3_isOpen_5 ?_
  exact W.zret (ty := .boolean) hx hb hr (z_nf hho) (fun t ht hW => ⟨rfl, ht⟩) (fun _ h => nomatch h) dX3_isOpen_8
set_option maxHeartbeats 4000000 in
set_option maxRecDepth 100000 in
/-- CatalogueHarvester.mark_ok -/
theorem kX3_mark_ok (l : Launch) (dC : Nat → ClassId) (dI : Nat → Nat → Nat) (cI cZ cH cJ : ClassId) (x0 : Nat) (xq : Nat) (now : Int32) (xg : Nat → Option Nat) (ca : Nat) (hca : ca < 4) (ha : Nat → Nat) (hg : xg ca = some (ha 0)) (mk : Int32) (ho : Int32) (fl : Int32) (od : Int32) (td : Int32) (ps : Int32) (pr : Int32) : Met l yX3_mark wsX3_mark ({ frames := 1, cells := 0, slots := 0, locals := 22 }) (zRc dC dI (zTy cI cZ cH cJ) [.ref x0, .int (nI ca)] ([(x0, .inr (3, [.ref xq, .int now])), (xq, .inl (cH, 4, .inr (.inr (.inr (.inr xg))))), (ha 0, .inr (1, [.ref (ha 1), .ref (ha 2), .int mk, .int ho, .int fl, .int od, .int td, .int ps, .int pr, .ref (ha 3)]))])) (zSi mk) 0 0 (fun _ => False) := by
  refine Met.ofW (cc := cX3_mark) (maxL := 2) (ret := (some .int)) (by decide) rfl ?_
  intro p e s m args below meth c s₁ B hml hv0
  obtain ⟨rfl, hP, hK⟩ := hv0
  have hx := B.exec
  have hb := B.bytes
  have hr := B.returns
  have hts := atoms_spec (ws := wsX3_mark) B.pre
  have hown : s.vm.findClass RX3 = some m.cls := findClass_of_methodNamed B.named
  have hlocks := B.notSynchronized
  have hl := lv_entry ([.ref x0, .int (nI ca)]) (n := 2) (Nat.le_of_ble_eq_true rfl)
  rw [lg_entry_eq]
  generalize (lg_sl ([.ref x0, .int (nI ca)]) ++ List.replicate (2 - (lg_sl ([.ref x0, .int (nI ca)])).length) Slot.unset).toArray = ls at hl ⊢
  have hl : lv_has ls 2 [(0, .ref x0), (1, .int (nI ca))] := hl
  have hiX1 : ∀ w ∈ wsX10, w ∈ wsX3_mark := by decide +kernel
  have l98 := hts (.fieldLink RX3 98 "CatalogueHarvester$Harvest" "mark" "I") (by decide +kernel)
  refine lv_aload_n hx hb dX3_mark_0 rfl (lv_at hl 0 rfl) ?_
  refine lv_iload_n hx hb dX3_mark_1 rfl (lv_at hl 1 rfl) ?_
  refine z_cRr (va_runV (As := [.int (nI ca)]) (rest := []) ⟨hx, hb, hml, hown, hts⟩ (kX3_harvestOf_ok l dC dI cI cZ cH cJ x0 xq now xg (ha 0) ca (by first | assumption | omega) hg) (cwV 1 hts gX3_mark_X3_harvestOf rfl rfl rfl (by decide +kernel) ⟨Nat.le_of_ble_eq_true rfl, Nat.le_of_ble_eq_true rfl⟩) (zPreR (is := [0, 1]) hK hP rfl (va_recv hK hP (ci := 3) (q0 := 0) rfl rfl)) rfl rfl hl.1 rfl (lv_room (Nat.le_of_ble_eq_true rfl)) dX3_mark_2 ⟨Nat.le_of_ble_eq_true rfl, Nat.le_of_ble_eq_true rfl⟩) ?_
  refine va_get (D := (dC, dI)) (ci := 1) (v := .int mk) (C := RX1) (T := TX1) (N := 10) hx hb hts hiX1 hown hK hP 2 rfl rfl 2 (by decide) l98 (fun _ h9 => h9) rfl dX3_mark_5 ?_
  exact W.iret hx hb hr (fun t ht hW => ⟨rfl, ht⟩) (fun _ h => nomatch h) dX3_mark_8
set_option maxHeartbeats 4000000 in
set_option maxRecDepth 100000 in
/-- CatalogueHarvester.stored_ok -/
theorem kX3_stored_ok (l : Launch) (dC : Nat → ClassId) (dI : Nat → Nat → Nat) (cI cZ cH cJ : ClassId) (x0 : Nat) (xq : Nat) (now : Int32) (xg : Nat → Option Nat) (ca : Nat) (hca : ca < 4) (ha : Nat → Nat) (hg : xg ca = some (ha 0)) (mk : Int32) (ho : Int32) (fl : Int32) (od : Int32) (td : Int32) (ps : Int32) (pr : Int32) (sT : zI) (sV : zI) (r : Nat) (hrr : r < 20) : Met l yX3_stored wsX3_stored ({ frames := 2, cells := 0, slots := 0, locals := 42 }) (zRc dC dI (zTy cI cZ cH cJ) [.ref x0, .int (nI ca), .int (nI r)] ([(x0, .inr (3, [.ref xq, .int now])), (xq, .inl (cH, 4, .inr (.inr (.inr (.inr xg))))), (ha 0, .inr (1, [.ref (ha 1), .ref (ha 2), .int mk, .int ho, .int fl, .int od, .int td, .int ps, .int pr, .ref (ha 3)])), (ha 2, .inr (2, [.ref (ha 8), .ref (ha 9), .ref (ha 10), .ref (ha 11)])), (ha 8, .inl (cZ, 20, .inl sT)), (ha 10, .inl (cI, 20, .inl sV))])) (zSi (if sT r = 0 then (-1) else sV r)) 0 0 (fun _ => False) := by
  refine Met.ofW (cc := cX3_stored) (maxL := 4) (ret := (some .int)) (by decide) rfl ?_
  intro p e s m args below meth c s₁ B hml hv0
  obtain ⟨rfl, hP, hK⟩ := hv0
  have hx := B.exec
  have hb := B.bytes
  have hr := B.returns
  have hts := atoms_spec (ws := wsX3_stored) B.pre
  have hown : s.vm.findClass RX3 = some m.cls := findClass_of_methodNamed B.named
  have hlocks := B.notSynchronized
  have hl := lv_entry ([.ref x0, .int (nI ca), .int (nI r)]) (n := 4) (Nat.le_of_ble_eq_true rfl)
  rw [lg_entry_eq]
  generalize (lg_sl ([.ref x0, .int (nI ca), .int (nI r)]) ++ List.replicate (4 - (lg_sl ([.ref x0, .int (nI ca), .int (nI r)])).length) Slot.unset).toArray = ls at hl ⊢
  have hl : lv_has ls 4 [(0, .ref x0), (1, .int (nI ca)), (2, .int (nI r))] := hl
  have hiX1 : ∀ w ∈ wsX10, w ∈ wsX3_stored := by decide +kernel
  have hiX2 : ∀ w ∈ wsX20, w ∈ wsX3_stored := by decide +kernel
  have l55 := hts (.fieldLink RX3 55 "CatalogueHarvester$Records" "isThere" "[Z") (by decide +kernel)
  have l101 := hts (.fieldLink RX3 101 "CatalogueHarvester$Harvest" "store" "LCatalogueHarvester$Records;") (by decide +kernel)
  have l104 := hts (.fieldLink RX3 104 "CatalogueHarvester$Records" "values" "[I") (by decide +kernel)
  refine lv_aload_n hx hb dX3_stored_0 rfl (lv_at hl 0 rfl) ?_
  refine lv_iload_n hx hb dX3_stored_1 rfl (lv_at hl 1 rfl) ?_
  refine z_cRr (va_runV (As := [.int (nI ca)]) (rest := []) ⟨hx, hb, hml, hown, hts⟩ (kX3_harvestOf_ok l dC dI cI cZ cH cJ x0 xq now xg (ha 0) ca (by first | assumption | omega) hg) (cwV 1 hts gX3_stored_X3_harvestOf rfl rfl rfl (by decide +kernel) ⟨Nat.le_of_ble_eq_true rfl, Nat.le_of_ble_eq_true rfl⟩) (zPreR (is := [0, 1]) hK hP rfl (va_recv hK hP (ci := 3) (q0 := 0) rfl rfl)) rfl rfl hl.1 rfl (lv_room (Nat.le_of_ble_eq_true rfl)) dX3_stored_2 ⟨Nat.le_of_ble_eq_true rfl, Nat.le_of_ble_eq_true rfl⟩) ?_
  refine lv_astore_n (lv' := [(3, .ref (ha 0)), (0, .ref x0), (1, .int (nI ca)), (2, .int (nI r))]) hx hb dX3_stored_5 rfl hl (by decide) rfl (fun ls hl => ?_)
  refine lv_iload_n hx hb dX3_stored_6 rfl (lv_at hl 3 rfl) ?_
  refine z_cRv (va_runS (As := [.int (nI r)]) (rest := []) ⟨hx, hb, hml, hown, hts⟩ (kX3_refuseRecord_ok l r (by first | assumption | omega)) (va_cwS 1 hts gX3_stored_X3_refuseRecord rfl rfl rfl (by decide +kernel) ⟨Nat.le_of_ble_eq_true rfl, Nat.le_of_ble_eq_true rfl⟩) (zPre0) rfl rfl hl.1 rfl (lv_room (Nat.le_of_ble_eq_true rfl)) dX3_stored_7 ⟨Nat.le_of_ble_eq_true rfl, Nat.le_of_ble_eq_true rfl⟩) ?_
  refine lv_aload_n hx hb dX3_stored_10 rfl (lv_at hl 0 rfl) ?_
  refine va_get (D := (dC, dI)) (ci := 1) (v := .ref (ha 2)) (C := RX1) (T := TX1) (N := 10) hx hb hts hiX1 hown hK hP 2 rfl rfl 1 (by decide) l101 (fun _ h9 => h9) rfl dX3_stored_11 ?_
  refine va_get (D := (dC, dI)) (ci := 2) (v := .ref (ha 8)) (C := RX2) (T := TX2) (N := 4) hx hb hts hiX2 hown hK hP 3 rfl rfl 0 (by decide) l55 (fun _ h9 => h9) rfl dX3_stored_14 ?_
  refine lv_iload_n hx hb dX3_stored_17 rfl (lv_at hl 3 rfl) ?_
  refine z_zald hx hb hK hP 4 rfl (zix_nI (by first | assumption | omega) (by decide)) dX3_stored_18 ?_
  refine z_tv (v := sT r) (rfl) ?_
  refine lv_if_eq (tgt := 34) hx hb dX3_stored_19 (by decide) (fun c_19 => ?_) (fun c_19 => ?_)
  · skip
    refine lv_iconst (v := (-1)) hx hb dX3_stored_34 (by decide) ?_
    refine z_tv (v := if sT r = 0 then (-1) else sV r) (by simp [c_19]) ?_
    exact W.iret hx hb hr (fun t ht hW => ⟨rfl, ht⟩) (fun _ h => nomatch h) dX3_stored_35
  · skip
    refine lv_aload_n hx hb dX3_stored_22 rfl (lv_at hl 0 rfl) ?_
    refine va_get (D := (dC, dI)) (ci := 1) (v := .ref (ha 2)) (C := RX1) (T := TX1) (N := 10) hx hb hts hiX1 hown hK hP 2 rfl rfl 1 (by decide) l101 (fun _ h9 => h9) rfl dX3_stored_23 ?_
    refine va_get (D := (dC, dI)) (ci := 2) (v := .ref (ha 10)) (C := RX2) (T := TX2) (N := 4) hx hb hts hiX2 hown hK hP 3 rfl rfl 2 (by decide) l104 (fun _ h9 => h9) rfl dX3_stored_26 ?_
    refine lv_iload_n hx hb dX3_stored_29 rfl (lv_at hl 3 rfl) ?_
    refine z_iald hx hb hK hP 5 rfl (zix_nI (by first | assumption | omega) (by decide)) dX3_stored_30 ?_
    refine z_tv (v := sV r) (rfl) ?_
    refine lv_goto (tgt := 35) hx hb dX3_stored_31 (by decide) ?_
    refine z_tv (v := if sT r = 0 then (-1) else sV r) (by simp [c_19]) ?_
    exact W.iret hx hb hr (fun t ht hW => ⟨rfl, ht⟩) (fun _ h => nomatch h) dX3_stored_35
set_option maxHeartbeats 4000000 in
set_option maxRecDepth 100000 in
/-- CatalogueHarvester.stored_bad -/
theorem kX3_stored_bad (l : Launch) (dC : Nat → ClassId) (dI : Nat → Nat → Nat) (cI cZ cH cJ : ClassId) (x0 : Nat) (xq : Nat) (now : Int32) (xg : Nat → Option Nat) (had : Nat → Nat → Nat) (hg : ∀ i, i < 4 → xg i = some (had i 0)) (a : Int32) (b : Int32) (hv : ¬ (zin a 0 3 = 1 ∧ zin b 0 19 = 1)) (hst : l.stackTraces = false) : vx_Met l yX3_stored wsX3_stored ({ frames := 8, cells := 1, slots := 6, locals := 132 }) (zXc dC dI (zTy cI cZ cH cJ) [.ref x0, .int a, .int b] ([(x0, .inr (3, [.ref xq, .int now])), (xq, .inl (cH, 4, .inr (.inr (.inr (.inr xg)))))])) zXQ (zXC zIAE) 1 6 (fun _ => False) := by
  refine vx_ofW (cc := cX3_stored) (maxL := 4) (ret := (some .int)) (by decide) rfl ?_
  intro p e s m args below meth c s₁ B hml ht hv0
  obtain ⟨rfl, hT, hP, hK⟩ := hv0
  have hx := B.exec
  have hb := B.bytes
  have hr := B.returns
  have hts := atoms_spec (ws := wsX3_stored) B.pre
  have hown : s.vm.findClass RX3 = some m.cls := findClass_of_methodNamed B.named
  have hlocks := B.notSynchronized
  have hl := lv_entry ([.ref x0, .int a, .int b]) (n := 4) (Nat.le_of_ble_eq_true rfl)
  rw [lg_entry_eq]
  generalize (lg_sl ([.ref x0, .int a, .int b]) ++ List.replicate (4 - (lg_sl ([.ref x0, .int a, .int b])).length) Slot.unset).toArray = ls at hl ⊢
  have hl : lv_has ls 4 [(0, .ref x0), (1, .int a), (2, .int b)] := hl
  refine lv_aload_n hx hb dX3_stored_0 rfl (lv_at hl 0 rfl) ?_
  refine lv_iload_n hx hb dX3_stored_1 rfl (lv_at hl 1 rfl) ?_
  rcases Classical.em (zin a 0 3 = 1) with hc_2 | hc_2
  · skip
    obtain ⟨ca, hca, ea⟩ := zin_nat (n := 3) (by decide) hc_2
    subst ea
    refine z_cRr (va_runV (As := [.int (nI ca)]) (rest := []) ⟨hx, hb, hml, hown, hts⟩ (kX3_harvestOf_ok l dC dI cI cZ cH cJ x0 xq now xg (had ca 0) ca (by first | assumption | omega) (hg ca hca)) (cwV 1 hts gX3_stored_X3_harvestOf rfl rfl rfl (by decide +kernel) ⟨Nat.le_of_ble_eq_true rfl, Nat.le_of_ble_eq_true rfl⟩) (zPreR (is := [0, 1]) hK hP rfl (va_recv hK hP (ci := 3) (q0 := 0) rfl rfl)) rfl rfl hl.1 rfl (lv_room (Nat.le_of_ble_eq_true rfl)) dX3_stored_2 ⟨Nat.le_of_ble_eq_true rfl, Nat.le_of_ble_eq_true rfl⟩) ?_
    refine lv_astore_n (lv' := [(3, .ref (had ca 0)), (0, .ref x0), (1, .int (nI ca)), (2, .int b)]) hx hb dX3_stored_5 rfl hl (by decide) rfl (fun ls hl => ?_)
    refine lv_iload_n hx hb dX3_stored_6 rfl (lv_at hl 3 rfl) ?_
    rcases Classical.em (zin b 0 19 = 1) with hc_7 | hc_7
    · skip
      exact absurd (⟨zin_c _ hca, hc_7⟩) hv
    · skip
      exact z_cX (vx_runS (As := [.int b]) (rest := []) ⟨hx, hb, hml, hown, hts⟩ (kX3_refuseRecord_bad l dC dI cI cZ cH cJ b (by first | assumption | omega) hst) (va_cwS 1 hts gX3_stored_X3_refuseRecord rfl rfl rfl (by decide +kernel) ⟨Nat.le_of_ble_eq_true rfl, Nat.le_of_ble_eq_true rfl⟩) (zPreXS (is := []) hT hK hP rfl) rfl rfl hl.1 rfl (lv_room (Nat.le_of_ble_eq_true rfl)) dX3_stored_7 ⟨Nat.le_of_ble_eq_true rfl, Nat.le_of_ble_eq_true rfl⟩) hlocks ht (by decide) (by decide)
  · skip
    exact z_cX (vx_runV (As := [.int a]) (rest := []) ⟨hx, hb, hml, hown, hts⟩ (kX3_harvestOf_bad l dC dI cI cZ cH cJ x0 xq now xg a (by first | assumption | omega) hst) (cwV 1 hts gX3_stored_X3_harvestOf rfl rfl rfl (by decide +kernel) ⟨Nat.le_of_ble_eq_true rfl, Nat.le_of_ble_eq_true rfl⟩) (zPreX (is := [0, 1]) hT hK hP rfl (va_recv hK hP (ci := 3) (q0 := 0) rfl rfl)) rfl rfl hl.1 rfl (lv_room (Nat.le_of_ble_eq_true rfl)) dX3_stored_2 ⟨Nat.le_of_ble_eq_true rfl, Nat.le_of_ble_eq_true rfl⟩) hlocks ht (by decide) (by decide)
set_option maxHeartbeats 4000000 in
set_option maxRecDepth 100000 in
/-- CatalogueHarvester.held_ok -/
theorem kX3_held_ok (l : Launch) (dC : Nat → ClassId) (dI : Nat → Nat → Nat) (cI cZ cH cJ : ClassId) (x0 : Nat) (xq : Nat) (now : Int32) (xg : Nat → Option Nat) (ca : Nat) (hca : ca < 4) (ha : Nat → Nat) (hg : xg ca = some (ha 0)) (mk : Int32) (ho : Int32) (fl : Int32) (od : Int32) (td : Int32) (ps : Int32) (pr : Int32) (sT : zI) : Met l yX3_held wsX3_held ({ frames := 1, cells := 0, slots := 0, locals := 22 }) (zRc dC dI (zTy cI cZ cH cJ) [.ref x0, .int (nI ca)] ([(x0, .inr (3, [.ref xq, .int now])), (xq, .inl (cH, 4, .inr (.inr (.inr (.inr xg))))), (ha 0, .inr (1, [.ref (ha 1), .ref (ha 2), .int mk, .int ho, .int fl, .int od, .int td, .int ps, .int pr, .ref (ha 3)])), (ha 2, .inr (2, [.ref (ha 8), .ref (ha 9), .ref (ha 10), .ref (ha 11)])), (ha 8, .inl (cZ, 20, .inl sT))])) (zSi (zcnt sT 20)) 0 0 (fun _ => False) := by
  refine Met.ofW (cc := cX3_held) (maxL := 2) (ret := (some .int)) (by decide) rfl ?_
  intro p e s m args below meth c s₁ B hml hv0
  obtain ⟨rfl, hP, hK⟩ := hv0
  have hx := B.exec
  have hb := B.bytes
  have hr := B.returns
  have hts := atoms_spec (ws := wsX3_held) B.pre
  have hown : s.vm.findClass RX3 = some m.cls := findClass_of_methodNamed B.named
  have hlocks := B.notSynchronized
  have hl := lv_entry ([.ref x0, .int (nI ca)]) (n := 2) (Nat.le_of_ble_eq_true rfl)
  rw [lg_entry_eq]
  generalize (lg_sl ([.ref x0, .int (nI ca)]) ++ List.replicate (2 - (lg_sl ([.ref x0, .int (nI ca)])).length) Slot.unset).toArray = ls at hl ⊢
  have hl : lv_has ls 2 [(0, .ref x0), (1, .int (nI ca))] := hl
  have hiX1 : ∀ w ∈ wsX10, w ∈ wsX3_held := by decide +kernel
  have l101 := hts (.fieldLink RX3 101 "CatalogueHarvester$Harvest" "store" "LCatalogueHarvester$Records;") (by decide +kernel)
  refine lv_aload_n hx hb dX3_held_0 rfl (lv_at hl 0 rfl) ?_
  refine lv_iload_n hx hb dX3_held_1 rfl (lv_at hl 1 rfl) ?_
  refine z_cRr (va_runV (As := [.int (nI ca)]) (rest := []) ⟨hx, hb, hml, hown, hts⟩ (kX3_harvestOf_ok l dC dI cI cZ cH cJ x0 xq now xg (ha 0) ca (by first | assumption | omega) hg) (cwV 1 hts gX3_held_X3_harvestOf rfl rfl rfl (by decide +kernel) ⟨Nat.le_of_ble_eq_true rfl, Nat.le_of_ble_eq_true rfl⟩) (zPreR (is := [0, 1]) hK hP rfl (va_recv hK hP (ci := 3) (q0 := 0) rfl rfl)) rfl rfl hl.1 rfl (lv_room (Nat.le_of_ble_eq_true rfl)) dX3_held_2 ⟨Nat.le_of_ble_eq_true rfl, Nat.le_of_ble_eq_true rfl⟩) ?_
  refine va_get (D := (dC, dI)) (ci := 1) (v := .ref (ha 2)) (C := RX1) (T := TX1) (N := 10) hx hb hts hiX1 hown hK hP 2 rfl rfl 1 (by decide) l101 (fun _ h9 => h9) rfl dX3_held_5 ?_
  refine z_cRi (va_runV (As := []) (rest := []) ⟨hx, hb, hml, hown, hts⟩ (kX2_count l dC dI cI cZ cH cJ (ha 2) (ha 8) (ha 9) (ha 10) (ha 11) sT) (cwV 0 hts gX3_held_X2_count rfl rfl rfl (by decide +kernel) ⟨Nat.le_of_ble_eq_true rfl, Nat.le_of_ble_eq_true rfl⟩) (zPreR (is := [3, 4]) hK hP rfl (va_recv hK hP (ci := 2) (q0 := 3) rfl rfl)) rfl rfl hl.1 rfl (lv_room (Nat.le_of_ble_eq_true rfl)) dX3_held_8 ⟨Nat.le_of_ble_eq_true rfl, Nat.le_of_ble_eq_true rfl⟩) ?_
  refine z_tv (v := zcnt sT 20) rfl ?_
  exact W.iret hx hb hr (fun t ht hW => ⟨rfl, ht⟩) (fun _ h => nomatch h) dX3_held_11
set_option maxHeartbeats 4000000 in
set_option maxRecDepth 100000 in
/-- CatalogueHarvester.wrong_ok -/
theorem kX3_wrong_ok (l : Launch) (dC : Nat → ClassId) (dI : Nat → Nat → Nat) (cI cZ cH cJ : ClassId) (x0 : Nat) (xq : Nat) (now : Int32) (xg : Nat → Option Nat) (ca : Nat) (hca : ca < 4) (ha : Nat → Nat) (hg : xg ca = some (ha 0)) (mk : Int32) (ho : Int32) (fl : Int32) (od : Int32) (td : Int32) (ps : Int32) (pr : Int32) (un : Int32) (de : Int32) (sT : zI) (sW : zI) (sV : zI) (sS : zI) (fT : zI) (fW : zI) (fV : zI) (fS : zI) : Met l yX3_wrong wsX3_wrong ({ frames := 2, cells := 0, slots := 0, locals := 45 }) (zRc dC dI (zTy cI cZ cH cJ) [.ref x0, .int (nI ca)] ([(x0, .inr (3, [.ref xq, .int now])), (xq, .inl (cH, 4, .inr (.inr (.inr (.inr xg))))), (ha 0, .inr (1, [.ref (ha 1), .ref (ha 2), .int mk, .int ho, .int fl, .int od, .int td, .int ps, .int pr, .ref (ha 3)])), (ha 1, .inr (0, [.ref (ha 4), .ref (ha 5), .ref (ha 6), .ref (ha 7), .int un, .int de])), (ha 2, .inr (2, [.ref (ha 8), .ref (ha 9), .ref (ha 10), .ref (ha 11)])), (ha 4, .inr (2, [.ref (ha 12), .ref (ha 13), .ref (ha 14), .ref (ha 15)])), (ha 8, .inl (cZ, 20, .inl sT)), (ha 9, .inl (cI, 20, .inl sW)), (ha 10, .inl (cI, 20, .inl sV)), (ha 11, .inl (cI, 20, .inl sS)), (ha 12, .inl (cZ, 20, .inl fT)), (ha 13, .inl (cI, 20, .inl fW)), (ha 14, .inl (cI, 20, .inl fV)), (ha 15, .inl (cI, 20, .inl fS))])) (zSi (zcu sT sW sV sS fT fW fV fS 20)) 0 0 (fun _ => False) := by
  refine Met.ofW (cc := cX3_wrong) (maxL := 3) (ret := (some .int)) (by decide) rfl ?_
  intro p e s m args below meth c s₁ B hml hv0
  obtain ⟨rfl, hP, hK⟩ := hv0
  have hx := B.exec
  have hb := B.bytes
  have hr := B.returns
  have hts := atoms_spec (ws := wsX3_wrong) B.pre
  have hown : s.vm.findClass RX3 = some m.cls := findClass_of_methodNamed B.named
  have hlocks := B.notSynchronized
  have hl := lv_entry ([.ref x0, .int (nI ca)]) (n := 3) (Nat.le_of_ble_eq_true rfl)
  rw [lg_entry_eq]
  generalize (lg_sl ([.ref x0, .int (nI ca)]) ++ List.replicate (3 - (lg_sl ([.ref x0, .int (nI ca)])).length) Slot.unset).toArray = ls at hl ⊢
  have hl : lv_has ls 3 [(0, .ref x0), (1, .int (nI ca))] := hl
  have hiX0 : ∀ w ∈ wsX00, w ∈ wsX3_wrong := by decide +kernel
  have hiX1 : ∀ w ∈ wsX10, w ∈ wsX3_wrong := by decide +kernel
  have l28 := hts (.fieldLink RX3 28 "CatalogueHarvester$Harvest" "far" "LCatalogueHarvester$FarCatalogue;") (by decide +kernel)
  have l51 := hts (.fieldLink RX3 51 "CatalogueHarvester$FarCatalogue" "records" "LCatalogueHarvester$Records;") (by decide +kernel)
  have l101 := hts (.fieldLink RX3 101 "CatalogueHarvester$Harvest" "store" "LCatalogueHarvester$Records;") (by decide +kernel)
  refine lv_aload_n hx hb dX3_wrong_0 rfl (lv_at hl 0 rfl) ?_
  refine lv_iload_n hx hb dX3_wrong_1 rfl (lv_at hl 1 rfl) ?_
  refine z_cRr (va_runV (As := [.int (nI ca)]) (rest := []) ⟨hx, hb, hml, hown, hts⟩ (kX3_harvestOf_ok l dC dI cI cZ cH cJ x0 xq now xg (ha 0) ca (by first | assumption | omega) hg) (cwV 1 hts gX3_wrong_X3_harvestOf rfl rfl rfl (by decide +kernel) ⟨Nat.le_of_ble_eq_true rfl, Nat.le_of_ble_eq_true rfl⟩) (zPreR (is := [0, 1]) hK hP rfl (va_recv hK hP (ci := 3) (q0 := 0) rfl rfl)) rfl rfl hl.1 rfl (lv_room (Nat.le_of_ble_eq_true rfl)) dX3_wrong_2 ⟨Nat.le_of_ble_eq_true rfl, Nat.le_of_ble_eq_true rfl⟩) ?_
  refine lv_astore_n (lv' := [(2, .ref (ha 0)), (0, .ref x0), (1, .int (nI ca))]) hx hb dX3_wrong_5 rfl hl (by decide) rfl (fun ls hl => ?_)
  refine lv_aload_n hx hb dX3_wrong_6 rfl (lv_at hl 0 rfl) ?_
  refine va_get (D := (dC, dI)) (ci := 1) (v := .ref (ha 2)) (C := RX1) (T := TX1) (N := 10) hx hb hts hiX1 hown hK hP 2 rfl rfl 1 (by decide) l101 (fun _ h9 => h9) rfl dX3_wrong_7 ?_
  refine lv_aload_n hx hb dX3_wrong_10 rfl (lv_at hl 0 rfl) ?_
  refine va_get (D := (dC, dI)) (ci := 1) (v := .ref (ha 1)) (C := RX1) (T := TX1) (N := 10) hx hb hts hiX1 hown hK hP 2 rfl rfl 0 (by decide) l28 (fun _ h9 => h9) rfl dX3_wrong_11 ?_
  refine va_get (D := (dC, dI)) (ci := 0) (v := .ref (ha 4)) (C := RX0) (T := TX0) (N := 6) hx hb hts hiX0 hown hK hP 3 rfl rfl 0 (by decide) l51 (fun _ h9 => h9) rfl dX3_wrong_14 ?_
  refine z_cRi (va_runV (As := [.ref (ha 4)]) (rest := []) ⟨hx, hb, hml, hown, hts⟩ (kX2_countUnlike l dC dI cI cZ cH cJ (ha 2) (ha 8) (ha 9) (ha 10) (ha 11) (ha 4) (ha 12) (ha 13) (ha 14) (ha 15) sT sW sV sS fT fW fV fS) (cwV 1 hts gX3_wrong_X2_countUnlike rfl rfl rfl (by decide +kernel) ⟨Nat.le_of_ble_eq_true rfl, Nat.le_of_ble_eq_true rfl⟩) (zPreR (is := [4, 6, 7, 8, 9, 5, 10, 11, 12, 13]) hK hP rfl (va_recv hK hP (ci := 2) (q0 := 4) rfl rfl)) rfl rfl hl.1 rfl (lv_room (Nat.le_of_ble_eq_true rfl)) dX3_wrong_17 ⟨Nat.le_of_ble_eq_true rfl, Nat.le_of_ble_eq_true rfl⟩) ?_
  refine z_tv (v := zcu sT sW sV sS fT fW fV fS 20) rfl ?_
  exact W.iret hx hb hr (fun t ht hW => ⟨rfl, ht⟩) (fun _ h => nomatch h) dX3_wrong_20
set_option maxHeartbeats 4000000 in
set_option maxRecDepth 100000 in
/-- CatalogueHarvester.far_bad -/
theorem kX3_far_bad (l : Launch) (dC : Nat → ClassId) (dI : Nat → Nat → Nat) (cI cZ cH cJ : ClassId) (x0 : Nat) (xq : Nat) (now : Int32) (xg : Nat → Option Nat) (had : Nat → Nat → Nat) (hg : ∀ i, i < 4 → xg i = some (had i 0)) (v : Int32) (hv : ¬ zin v 0 3 = 1) (hst : l.stackTraces = false) : vx_Met l yX3_far wsX3_far ({ frames := 7, cells := 1, slots := 6, locals := 112 }) (zXc dC dI (zTy cI cZ cH cJ) [.ref x0, .int v] ([(x0, .inr (3, [.ref xq, .int now])), (xq, .inl (cH, 4, .inr (.inr (.inr (.inr xg)))))])) zXQ (zXC zIAE) 1 6 (fun _ => False) := by
  refine vx_ofW (cc := cX3_far) (maxL := 2) (ret := (some .int)) (by decide) rfl ?_
  intro p e s m args below meth c s₁ B hml ht hv0
  obtain ⟨rfl, hT, hP, hK⟩ := hv0
  have hx := B.exec
  have hb := B.bytes
  have hr := B.returns
  have hts := atoms_spec (ws := wsX3_far) B.pre
  have hown : s.vm.findClass RX3 = some m.cls := findClass_of_methodNamed B.named
  have hlocks := B.notSynchronized
  have hl := lv_entry ([.ref x0, .int v]) (n := 2) (Nat.le_of_ble_eq_true rfl)
  rw [lg_entry_eq]
  generalize (lg_sl ([.ref x0, .int v]) ++ List.replicate (2 - (lg_sl ([.ref x0, .int v])).length) Slot.unset).toArray = ls at hl ⊢
  have hl : lv_has ls 2 [(0, .ref x0), (1, .int v)] := hl
  refine lv_aload_n hx hb dX3_far_0 rfl (lv_at hl 0 rfl) ?_
  refine lv_iload_n hx hb dX3_far_1 rfl (lv_at hl 1 rfl) ?_
  exact z_cX (vx_runV (As := [.int v]) (rest := []) ⟨hx, hb, hml, hown, hts⟩ (kX3_harvestOf_bad l dC dI cI cZ cH cJ x0 xq now xg v (hv) hst) (cwV 1 hts gX3_far_X3_harvestOf rfl rfl rfl (by decide +kernel) ⟨Nat.le_of_ble_eq_true rfl, Nat.le_of_ble_eq_true rfl⟩) (zPreX (is := [0, 1]) hT hK hP rfl (va_recv hK hP (ci := 3) (q0 := 0) rfl rfl)) rfl rfl hl.1 rfl (lv_room (Nat.le_of_ble_eq_true rfl)) dX3_far_2 ⟨Nat.le_of_ble_eq_true rfl, Nat.le_of_ble_eq_true rfl⟩) hlocks ht (by decide) (by decide)
set_option maxHeartbeats 4000000 in
set_option maxRecDepth 100000 in
/-- CatalogueHarvester.told_bad -/
theorem kX3_told_bad (l : Launch) (dC : Nat → ClassId) (dI : Nat → Nat → Nat) (cI cZ cH cJ : ClassId) (x0 : Nat) (xq : Nat) (now : Int32) (xg : Nat → Option Nat) (had : Nat → Nat → Nat) (hg : ∀ i, i < 4 → xg i = some (had i 0)) (v : Int32) (hv : ¬ zin v 0 3 = 1) (hst : l.stackTraces = false) : vx_Met l yX3_told wsX3_told ({ frames := 7, cells := 1, slots := 6, locals := 112 }) (zXc dC dI (zTy cI cZ cH cJ) [.ref x0, .int v] ([(x0, .inr (3, [.ref xq, .int now])), (xq, .inl (cH, 4, .inr (.inr (.inr (.inr xg)))))])) zXQ (zXC zIAE) 1 6 (fun _ => False) := by
  refine vx_ofW (cc := cX3_told) (maxL := 2) (ret := (some .int)) (by decide) rfl ?_
  intro p e s m args below meth c s₁ B hml ht hv0
  obtain ⟨rfl, hT, hP, hK⟩ := hv0
  have hx := B.exec
  have hb := B.bytes
  have hr := B.returns
  have hts := atoms_spec (ws := wsX3_told) B.pre
  have hown : s.vm.findClass RX3 = some m.cls := findClass_of_methodNamed B.named
  have hlocks := B.notSynchronized
  have hl := lv_entry ([.ref x0, .int v]) (n := 2) (Nat.le_of_ble_eq_true rfl)
  rw [lg_entry_eq]
  generalize (lg_sl ([.ref x0, .int v]) ++ List.replicate (2 - (lg_sl ([.ref x0, .int v])).length) Slot.unset).toArray = ls at hl ⊢
  have hl : lv_has ls 2 [(0, .ref x0), (1, .int v)] := hl
  refine lv_aload_n hx hb dX3_told_0 rfl (lv_at hl 0 rfl) ?_
  refine lv_iload_n hx hb dX3_told_1 rfl (lv_at hl 1 rfl) ?_
  exact z_cX (vx_runV (As := [.int v]) (rest := []) ⟨hx, hb, hml, hown, hts⟩ (kX3_harvestOf_bad l dC dI cI cZ cH cJ x0 xq now xg v (hv) hst) (cwV 1 hts gX3_told_X3_harvestOf rfl rfl rfl (by decide +kernel) ⟨Nat.le_of_ble_eq_true rfl, Nat.le_of_ble_eq_true rfl⟩) (zPreX (is := [0, 1]) hT hK hP rfl (va_recv hK hP (ci := 3) (q0 := 0) rfl rfl)) rfl rfl hl.1 rfl (lv_room (Nat.le_of_ble_eq_true rfl)) dX3_told_2 ⟨Nat.le_of_ble_eq_true rfl, Nat.le_of_ble_eq_true rfl⟩) hlocks ht (by decide) (by decide)
set_option maxHeartbeats 4000000 in
set_option maxRecDepth 100000 in
/-- CatalogueHarvester.open_bad -/
theorem kX3_open_bad (l : Launch) (dC : Nat → ClassId) (dI : Nat → Nat → Nat) (cI cZ cH cJ : ClassId) (x0 : Nat) (xq : Nat) (now : Int32) (xg : Nat → Option Nat) (had : Nat → Nat → Nat) (hg : ∀ i, i < 4 → xg i = some (had i 0)) (v : Int32) (full : Int32) (hv : ¬ zin v 0 3 = 1) (hst : l.stackTraces = false) : vx_Met l yX3_open wsX3_open ({ frames := 7, cells := 1, slots := 6, locals := 112 }) (zXc dC dI (zTy cI cZ cH cJ) [.ref x0, .int v, .int full] ([(x0, .inr (3, [.ref xq, .int now])), (xq, .inl (cH, 4, .inr (.inr (.inr (.inr xg)))))])) zXQ (zXC zIAE) 1 6 (fun _ => False) := by
  refine vx_ofW (cc := cX3_open) (maxL := 4) (ret := (some .int)) (by decide) rfl ?_
  intro p e s m args below meth c s₁ B hml ht hv0
  obtain ⟨rfl, hT, hP, hK⟩ := hv0
  have hx := B.exec
  have hb := B.bytes
  have hr := B.returns
  have hts := atoms_spec (ws := wsX3_open) B.pre
  have hown : s.vm.findClass RX3 = some m.cls := findClass_of_methodNamed B.named
  have hlocks := B.notSynchronized
  have hl := lv_entry ([.ref x0, .int v, .int full]) (n := 4) (Nat.le_of_ble_eq_true rfl)
  rw [lg_entry_eq]
  generalize (lg_sl ([.ref x0, .int v, .int full]) ++ List.replicate (4 - (lg_sl ([.ref x0, .int v, .int full])).length) Slot.unset).toArray = ls at hl ⊢
  have hl : lv_has ls 4 [(0, .ref x0), (1, .int v), (2, .int full)] := hl
  refine lv_aload_n hx hb dX3_open_0 rfl (lv_at hl 0 rfl) ?_
  refine lv_iload_n hx hb dX3_open_1 rfl (lv_at hl 1 rfl) ?_
  exact z_cX (vx_runV (As := [.int v]) (rest := []) ⟨hx, hb, hml, hown, hts⟩ (kX3_harvestOf_bad l dC dI cI cZ cH cJ x0 xq now xg v (hv) hst) (cwV 1 hts gX3_open_X3_harvestOf rfl rfl rfl (by decide +kernel) ⟨Nat.le_of_ble_eq_true rfl, Nat.le_of_ble_eq_true rfl⟩) (zPreX (is := [0, 1]) hT hK hP rfl (va_recv hK hP (ci := 3) (q0 := 0) rfl rfl)) rfl rfl hl.1 rfl (lv_room (Nat.le_of_ble_eq_true rfl)) dX3_open_2 ⟨Nat.le_of_ble_eq_true rfl, Nat.le_of_ble_eq_true rfl⟩) hlocks ht (by decide) (by decide)
set_option maxHeartbeats 4000000 in
set_option maxRecDepth 100000 in
/-- CatalogueHarvester.read_bad -/
theorem kX3_read_bad (l : Launch) (dC : Nat → ClassId) (dI : Nat → Nat → Nat) (cI cZ cH cJ : ClassId) (x0 : Nat) (xq : Nat) (now : Int32) (xg : Nat → Option Nat) (had : Nat → Nat → Nat) (hg : ∀ i, i < 4 → xg i = some (had i 0)) (v : Int32) (hv : ¬ zin v 0 3 = 1) (hst : l.stackTraces = false) : vx_Met l yX3_read wsX3_read ({ frames := 7, cells := 1, slots := 6, locals := 112 }) (zXc dC dI (zTy cI cZ cH cJ) [.ref x0, .int v] ([(x0, .inr (3, [.ref xq, .int now])), (xq, .inl (cH, 4, .inr (.inr (.inr (.inr xg)))))])) zXQ (zXC zIAE) 1 6 (fun _ => False) := by
  refine vx_ofW (cc := cX3_read) (maxL := 3) (ret := (some .int)) (by decide) rfl ?_
  intro p e s m args below meth c s₁ B hml ht hv0
  obtain ⟨rfl, hT, hP, hK⟩ := hv0
  have hx := B.exec
  have hb := B.bytes
  have hr := B.returns
  have hts := atoms_spec (ws := wsX3_read) B.pre
  have hown : s.vm.findClass RX3 = some m.cls := findClass_of_methodNamed B.named
  have hlocks := B.notSynchronized
  have hl := lv_entry ([.ref x0, .int v]) (n := 3) (Nat.le_of_ble_eq_true rfl)
  rw [lg_entry_eq]
  generalize (lg_sl ([.ref x0, .int v]) ++ List.replicate (3 - (lg_sl ([.ref x0, .int v])).length) Slot.unset).toArray = ls at hl ⊢
  have hl : lv_has ls 3 [(0, .ref x0), (1, .int v)] := hl
  refine lv_aload_n hx hb dX3_read_0 rfl (lv_at hl 0 rfl) ?_
  refine lv_iload_n hx hb dX3_read_1 rfl (lv_at hl 1 rfl) ?_
  exact z_cX (vx_runV (As := [.int v]) (rest := []) ⟨hx, hb, hml, hown, hts⟩ (kX3_harvestOf_bad l dC dI cI cZ cH cJ x0 xq now xg v (hv) hst) (cwV 1 hts gX3_read_X3_harvestOf rfl rfl rfl (by decide +kernel) ⟨Nat.le_of_ble_eq_true rfl, Nat.le_of_ble_eq_true rfl⟩) (zPreX (is := [0, 1]) hT hK hP rfl (va_recv hK hP (ci := 3) (q0 := 0) rfl rfl)) rfl rfl hl.1 rfl (lv_room (Nat.le_of_ble_eq_true rfl)) dX3_read_2 ⟨Nat.le_of_ble_eq_true rfl, Nat.le_of_ble_eq_true rfl⟩) hlocks ht (by decide) (by decide)
set_option maxHeartbeats 4000000 in
set_option maxRecDepth 100000 in
/-- CatalogueHarvester.isOpen_bad -/
theorem kX3_isOpen_bad (l : Launch) (dC : Nat → ClassId) (dI : Nat → Nat → Nat) (cI cZ cH cJ : ClassId) (x0 : Nat) (xq : Nat) (now : Int32) (xg : Nat → Option Nat) (had : Nat → Nat → Nat) (hg : ∀ i, i < 4 → xg i = some (had i 0)) (v : Int32) (hv : ¬ zin v 0 3 = 1) (hst : l.stackTraces = false) : vx_Met l yX3_isOpen wsX3_isOpen ({ frames := 7, cells := 1, slots := 6, locals := 112 }) (zXc dC dI (zTy cI cZ cH cJ) [.ref x0, .int v] ([(x0, .inr (3, [.ref xq, .int now])), (xq, .inl (cH, 4, .inr (.inr (.inr (.inr xg)))))])) zXQ (zXC zIAE) 1 6 (fun _ => False) := by
  refine vx_ofW (cc := cX3_isOpen) (maxL := 2) (ret := (some .boolean)) (by decide) rfl ?_
  intro p e s m args below meth c s₁ B hml ht hv0
  obtain ⟨rfl, hT, hP, hK⟩ := hv0
  have hx := B.exec
  have hb := B.bytes
  have hr := B.returns
  have hts := atoms_spec (ws := wsX3_isOpen) B.pre
  have hown : s.vm.findClass RX3 = some m.cls := findClass_of_methodNamed B.named
  have hlocks := B.notSynchronized
  have hl := lv_entry ([.ref x0, .int v]) (n := 2) (Nat.le_of_ble_eq_true rfl)
  rw [lg_entry_eq]
  generalize (lg_sl ([.ref x0, .int v]) ++ List.replicate (2 - (lg_sl ([.ref x0, .int v])).length) Slot.unset).toArray = ls at hl ⊢
  have hl : lv_has ls 2 [(0, .ref x0), (1, .int v)] := hl
  refine lv_aload_n hx hb dX3_isOpen_0 rfl (lv_at hl 0 rfl) ?_
  refine lv_iload_n hx hb dX3_isOpen_1 rfl (lv_at hl 1 rfl) ?_
  exact z_cX (vx_runV (As := [.int v]) (rest := []) ⟨hx, hb, hml, hown, hts⟩ (kX3_harvestOf_bad l dC dI cI cZ cH cJ x0 xq now xg v (hv) hst) (cwV 1 hts gX3_isOpen_X3_harvestOf rfl rfl rfl (by decide +kernel) ⟨Nat.le_of_ble_eq_true rfl, Nat.le_of_ble_eq_true rfl⟩) (zPreX (is := [0, 1]) hT hK hP rfl (va_recv hK hP (ci := 3) (q0 := 0) rfl rfl)) rfl rfl hl.1 rfl (lv_room (Nat.le_of_ble_eq_true rfl)) dX3_isOpen_2 ⟨Nat.le_of_ble_eq_true rfl, Nat.le_of_ble_eq_true rfl⟩) hlocks ht (by decide) (by decide)
set_option maxHeartbeats 4000000 in
set_option maxRecDepth 100000 in
/-- CatalogueHarvester.mark_bad -/
theorem kX3_mark_bad (l : Launch) (dC : Nat → ClassId) (dI : Nat → Nat → Nat) (cI cZ cH cJ : ClassId) (x0 : Nat) (xq : Nat) (now : Int32) (xg : Nat → Option Nat) (had : Nat → Nat → Nat) (hg : ∀ i, i < 4 → xg i = some (had i 0)) (v : Int32) (hv : ¬ zin v 0 3 = 1) (hst : l.stackTraces = false) : vx_Met l yX3_mark wsX3_mark ({ frames := 7, cells := 1, slots := 6, locals := 112 }) (zXc dC dI (zTy cI cZ cH cJ) [.ref x0, .int v] ([(x0, .inr (3, [.ref xq, .int now])), (xq, .inl (cH, 4, .inr (.inr (.inr (.inr xg)))))])) zXQ (zXC zIAE) 1 6 (fun _ => False) := by
  refine vx_ofW (cc := cX3_mark) (maxL := 2) (ret := (some .int)) (by decide) rfl ?_
  intro p e s m args below meth c s₁ B hml ht hv0
  obtain ⟨rfl, hT, hP, hK⟩ := hv0
  have hx := B.exec
  have hb := B.bytes
  have hr := B.returns
  have hts := atoms_spec (ws := wsX3_mark) B.pre
  have hown : s.vm.findClass RX3 = some m.cls := findClass_of_methodNamed B.named
  have hlocks := B.notSynchronized
  have hl := lv_entry ([.ref x0, .int v]) (n := 2) (Nat.le_of_ble_eq_true rfl)
  rw [lg_entry_eq]
  generalize (lg_sl ([.ref x0, .int v]) ++ List.replicate (2 - (lg_sl ([.ref x0, .int v])).length) Slot.unset).toArray = ls at hl ⊢
  have hl : lv_has ls 2 [(0, .ref x0), (1, .int v)] := hl
  refine lv_aload_n hx hb dX3_mark_0 rfl (lv_at hl 0 rfl) ?_
  refine lv_iload_n hx hb dX3_mark_1 rfl (lv_at hl 1 rfl) ?_
  exact z_cX (vx_runV (As := [.int v]) (rest := []) ⟨hx, hb, hml, hown, hts⟩ (kX3_harvestOf_bad l dC dI cI cZ cH cJ x0 xq now xg v (hv) hst) (cwV 1 hts gX3_mark_X3_harvestOf rfl rfl rfl (by decide +kernel) ⟨Nat.le_of_ble_eq_true rfl, Nat.le_of_ble_eq_true rfl⟩) (zPreX (is := [0, 1]) hT hK hP rfl (va_recv hK hP (ci := 3) (q0 := 0) rfl rfl)) rfl rfl hl.1 rfl (lv_room (Nat.le_of_ble_eq_true rfl)) dX3_mark_2 ⟨Nat.le_of_ble_eq_true rfl, Nat.le_of_ble_eq_true rfl⟩) hlocks ht (by decide) (by decide)
set_option maxHeartbeats 4000000 in
set_option maxRecDepth 100000 in
/-- CatalogueHarvester.held_bad -/
theorem kX3_held_bad (l : Launch) (dC : Nat → ClassId) (dI : Nat → Nat → Nat) (cI cZ cH cJ : ClassId) (x0 : Nat) (xq : Nat) (now : Int32) (xg : Nat → Option Nat) (had : Nat → Nat → Nat) (hg : ∀ i, i < 4 → xg i = some (had i 0)) (v : Int32) (hv : ¬ zin v 0 3 = 1) (hst : l.stackTraces = false) : vx_Met l yX3_held wsX3_held ({ frames := 7, cells := 1, slots := 6, locals := 112 }) (zXc dC dI (zTy cI cZ cH cJ) [.ref x0, .int v] ([(x0, .inr (3, [.ref xq, .int now])), (xq, .inl (cH, 4, .inr (.inr (.inr (.inr xg)))))])) zXQ (zXC zIAE) 1 6 (fun _ => False) := by
  refine vx_ofW (cc := cX3_held) (maxL := 2) (ret := (some .int)) (by decide) rfl ?_
  intro p e s m args below meth c s₁ B hml ht hv0
  obtain ⟨rfl, hT, hP, hK⟩ := hv0
  have hx := B.exec
  have hb := B.bytes
  have hr := B.returns
  have hts := atoms_spec (ws := wsX3_held) B.pre
  have hown : s.vm.findClass RX3 = some m.cls := findClass_of_methodNamed B.named
  have hlocks := B.notSynchronized
  have hl := lv_entry ([.ref x0, .int v]) (n := 2) (Nat.le_of_ble_eq_true rfl)
  rw [lg_entry_eq]
  generalize (lg_sl ([.ref x0, .int v]) ++ List.replicate (2 - (lg_sl ([.ref x0, .int v])).length) Slot.unset).toArray = ls at hl ⊢
  have hl : lv_has ls 2 [(0, .ref x0), (1, .int v)] := hl
  refine lv_aload_n hx hb dX3_held_0 rfl (lv_at hl 0 rfl) ?_
  refine lv_iload_n hx hb dX3_held_1 rfl (lv_at hl 1 rfl) ?_
  exact z_cX (vx_runV (As := [.int v]) (rest := []) ⟨hx, hb, hml, hown, hts⟩ (kX3_harvestOf_bad l dC dI cI cZ cH cJ x0 xq now xg v (hv) hst) (cwV 1 hts gX3_held_X3_harvestOf rfl rfl rfl (by decide +kernel) ⟨Nat.le_of_ble_eq_true rfl, Nat.le_of_ble_eq_true rfl⟩) (zPreX (is := [0, 1]) hT hK hP rfl (va_recv hK hP (ci := 3) (q0 := 0) rfl rfl)) rfl rfl hl.1 rfl (lv_room (Nat.le_of_ble_eq_true rfl)) dX3_held_2 ⟨Nat.le_of_ble_eq_true rfl, Nat.le_of_ble_eq_true rfl⟩) hlocks ht (by decide) (by decide)
set_option maxHeartbeats 4000000 in
set_option maxRecDepth 100000 in
/-- CatalogueHarvester.wrong_bad -/
theorem kX3_wrong_bad (l : Launch) (dC : Nat → ClassId) (dI : Nat → Nat → Nat) (cI cZ cH cJ : ClassId) (x0 : Nat) (xq : Nat) (now : Int32) (xg : Nat → Option Nat) (had : Nat → Nat → Nat) (hg : ∀ i, i < 4 → xg i = some (had i 0)) (v : Int32) (hv : ¬ zin v 0 3 = 1) (hst : l.stackTraces = false) : vx_Met l yX3_wrong wsX3_wrong ({ frames := 7, cells := 1, slots := 6, locals := 112 }) (zXc dC dI (zTy cI cZ cH cJ) [.ref x0, .int v] ([(x0, .inr (3, [.ref xq, .int now])), (xq, .inl (cH, 4, .inr (.inr (.inr (.inr xg)))))])) zXQ (zXC zIAE) 1 6 (fun _ => False) := by
  refine vx_ofW (cc := cX3_wrong) (maxL := 3) (ret := (some .int)) (by decide) rfl ?_
  intro p e s m args below meth c s₁ B hml ht hv0
  obtain ⟨rfl, hT, hP, hK⟩ := hv0
  have hx := B.exec
  have hb := B.bytes
  have hr := B.returns
  have hts := atoms_spec (ws := wsX3_wrong) B.pre
  have hown : s.vm.findClass RX3 = some m.cls := findClass_of_methodNamed B.named
  have hlocks := B.notSynchronized
  have hl := lv_entry ([.ref x0, .int v]) (n := 3) (Nat.le_of_ble_eq_true rfl)
  rw [lg_entry_eq]
  generalize (lg_sl ([.ref x0, .int v]) ++ List.replicate (3 - (lg_sl ([.ref x0, .int v])).length) Slot.unset).toArray = ls at hl ⊢
  have hl : lv_has ls 3 [(0, .ref x0), (1, .int v)] := hl
  refine lv_aload_n hx hb dX3_wrong_0 rfl (lv_at hl 0 rfl) ?_
  refine lv_iload_n hx hb dX3_wrong_1 rfl (lv_at hl 1 rfl) ?_
  exact z_cX (vx_runV (As := [.int v]) (rest := []) ⟨hx, hb, hml, hown, hts⟩ (kX3_harvestOf_bad l dC dI cI cZ cH cJ x0 xq now xg v (hv) hst) (cwV 1 hts gX3_wrong_X3_harvestOf rfl rfl rfl (by decide +kernel) ⟨Nat.le_of_ble_eq_true rfl, Nat.le_of_ble_eq_true rfl⟩) (zPreX (is := [0, 1]) hT hK hP rfl (va_recv hK hP (ci := 3) (q0 := 0) rfl rfl)) rfl rfl hl.1 rfl (lv_room (Nat.le_of_ble_eq_true rfl)) dX3_wrong_2 ⟨Nat.le_of_ble_eq_true rfl, Nat.le_of_ble_eq_true rfl⟩) hlocks ht (by decide) (by decide)
