set_option maxHeartbeats 4000000 in
set_option maxRecDepth 100000 in
/-- Harvest.begin -/
theorem kX1_begin (l : Launch) (dC : Nat → ClassId) (dI : Nat → Nat → Nat) (cI cZ cH cJ : ClassId) (h0 : Nat) (g0 : Nat) (o0 : Nat) (kT : Nat) (mk : Int32) (ho : Int32) (fl : Int32) (od : Int32) (td : Int32) (ps : Int32) (pr : Int32) (tk : zI) (full : Int32) (hff : full = 0 ∨ full = 1) (today : Int32) (sz : Nat) : Met l yX1_begin wsX1_begin ({ frames := 0, cells := 0, slots := 0, locals := 0 }) (zPc dC dI (zTy cI cZ cH cJ) [.ref h0, .int full, .int today] sz ([(h0, .inr (1, [.ref g0, .ref o0, .int mk, .int ho, .int fl, .int od, .int td, .int ps, .int pr, .ref kT])), (kT, .inl (cZ, 20, .inl tk))])) (zQv dC dI ([(h0, .inr (1, [.ref g0, .ref o0, .int mk, .int 1, .int full, .int today, .int today, .int (-1), .int (-1), .ref kT])), (kT, .inl (cZ, 20, .inl (zclr tk 20)))]) (va_A ([(h0, .inr (1, [.ref g0, .ref o0, .int mk, .int ho, .int fl, .int od, .int td, .int ps, .int pr, .ref kT])), (kT, .inl (cZ, 20, .inl tk))]) sz)) 0 0 (va_A ([(h0, .inr (1, [.ref g0, .ref o0, .int mk, .int ho, .int fl, .int od, .int td, .int ps, .int pr, .ref kT])), (kT, .inl (cZ, 20, .inl tk))]) sz) := by
  refine Met.ofW (cc := cX1_begin) (maxL := 4) (ret := none) (by decide) rfl ?_
  intro p e s m args below meth c s₁ B hml hv0
  obtain ⟨rfl, hsz, hP, hK, hD0⟩ := hv0
  have hx := B.exec
  have hb := B.bytes
  have hr := B.returns
  have hts := atoms_spec (ws := wsX1_begin) B.pre
  have hown : s.vm.findClass RX1 = some m.cls := findClass_of_methodNamed B.named
  have hlocks := B.notSynchronized
  subst hsz
  have hD := hD0.self (sz := s.heap.size)
  generalize hAe : va_A ([(h0, .inr (1, [.ref g0, .ref o0, .int mk, .int ho, .int fl, .int od, .int td, .int ps, .int pr, .ref kT])), (kT, .inl (cZ, 20, .inl tk))]) s.heap.size = A at hD ⊢
  have hA : ∀ q : Nat, s.heap.size ≤ q → A q := fun q h => by rw [← hAe]; exact Or.inr h
  have hS : va_S A s.heap s.heap [] := va_S.rf
  have hl := lv_entry ([.ref h0, .int full, .int today]) (n := 4) (Nat.le_of_ble_eq_true rfl)
  rw [lg_entry_eq]
  generalize (lg_sl ([.ref h0, .int full, .int today]) ++ List.replicate (4 - (lg_sl ([.ref h0, .int full, .int today])).length) Slot.unset).toArray = ls at hl ⊢
  have hl : lv_has ls 4 [(0, .ref h0), (1, .int full), (2, .int today)] := hl
  have hiX1 : ∀ w ∈ wsX10, w ∈ wsX1_begin := by decide +kernel
  have l29 := hts (.fieldLink RX1 29 "CatalogueHarvester$Harvest" "hasOpenList" "Z") (by decide +kernel)
  have l33 := hts (.fieldLink RX1 33 "CatalogueHarvester$Harvest" "isFullList" "Z") (by decide +kernel)
  have l36 := hts (.fieldLink RX1 36 "CatalogueHarvester$Harvest" "openingDay" "I") (by decide +kernel)
  have l39 := hts (.fieldLink RX1 39 "CatalogueHarvester$Harvest" "tokenDay" "I") (by decide +kernel)
  have l42 := hts (.fieldLink RX1 42 "CatalogueHarvester$Harvest" "placeStamp" "I") (by decide +kernel)
  have l45 := hts (.fieldLink RX1 45 "CatalogueHarvester$Harvest" "placeRecord" "I") (by decide +kernel)
  have l48 := hts (.fieldLink RX1 48 "CatalogueHarvester$Harvest" "isTakenOver" "[Z") (by decide +kernel)
  refine lv_aload_n hx hb dX1_begin_0 rfl (lv_at hl 0 rfl) ?_
  refine lv_iconst (v := 1) hx hb dX1_begin_1 (by decide) ?_
  refine va_put (D := (dC, dI)) (ci := 1) (v := .int 1) (ty := .boolean) (C := RX1) (T := TX1) (N := 10) hx hb hts hiX1 tyX1 tyX1_ok nmX1 hown hK hP hD hS 0 rfl rfl 3 (by decide) l29 (fun _ h9 => h9) rfl (by decide +kernel) (rfl) (rfl) (Nat.le_of_ble_eq_true rfl) dX1_begin_2 (fun H locs hP hD hS => ?_)
  have hP : va_P (dC, dI) vwCl ([(h0, .inr (1, [.ref g0, .ref o0, .int mk, .int 1, .int fl, .int od, .int td, .int ps, .int pr, .ref kT])), (kT, .inl (cZ, 20, .inl tk))]) H := hP
  have hD : va_D A ([(h0, .inr (1, [.ref g0, .ref o0, .int mk, .int 1, .int fl, .int od, .int td, .int ps, .int pr, .ref kT])), (kT, .inl (cZ, 20, .inl tk))]) := hD
  refine lv_aload_n hx hb dX1_begin_5 rfl (lv_at hl 0 rfl) ?_
  refine lv_iload_n hx hb dX1_begin_6 rfl (lv_at hl 1 rfl) ?_
  refine va_put (D := (dC, dI)) (ci := 1) (v := .int full) (ty := .boolean) (C := RX1) (T := TX1) (N := 10) hx hb hts hiX1 tyX1 tyX1_ok nmX1 hown hK hP hD hS 0 rfl rfl 4 (by decide) l33 (fun _ h9 => h9) rfl (by decide +kernel) (z_nf hff) (z_ff hff) (Nat.le_of_ble_eq_true rfl) dX1_begin_7 (fun H locs hP hD hS => ?_)
  have hP : va_P (dC, dI) vwCl ([(h0, .inr (1, [.ref g0, .ref o0, .int mk, .int 1, .int full, .int od, .int td, .int ps, .int pr, .ref kT])), (kT, .inl (cZ, 20, .inl tk))]) H := hP
  have hD : va_D A ([(h0, .inr (1, [.ref g0, .ref o0, .int mk, .int 1, .int full, .int od, .int td, .int ps, .int pr, .ref kT])), (kT, .inl (cZ, 20, .inl tk))]) := hD
  refine lv_aload_n hx hb dX1_begin_10 rfl (lv_at hl 0 rfl) ?_
  refine lv_iload_n hx hb dX1_begin_11 rfl (lv_at hl 2 rfl) ?_
  refine va_put (D := (dC, dI)) (ci := 1) (v := .int today) (ty := .int) (C := RX1) (T := TX1) (N := 10) hx hb hts hiX1 tyX1 tyX1_ok nmX1 hown hK hP hD hS 0 rfl rfl 5 (by decide) l36 (fun _ h9 => h9) rfl (by decide +kernel) (rfl) (rfl) (Nat.le_of_ble_eq_true rfl) dX1_begin_12 (fun H locs hP hD hS => ?_)
  have hP : va_P (dC, dI) vwCl ([(h0, .inr (1, [.ref g0, .ref o0, .int mk, .int 1, .int full, .int today, .int td, .int ps, .int pr, .ref kT])), (kT, .inl (cZ, 20, .inl tk))]) H := hP
  have hD : va_D A ([(h0, .inr (1, [.ref g0, .ref o0, .int mk, .int 1, .int full, .int today, .int td, .int ps, .int pr, .ref kT])), (kT, .inl (cZ, 20, .inl tk))]) := hD
  refine lv_aload_n hx hb dX1_begin_15 rfl (lv_at hl 0 rfl) ?_
  refine lv_iload_n hx hb dX1_begin_16 rfl (lv_at hl 2 rfl) ?_
  refine va_put (D := (dC, dI)) (ci := 1) (v := .int today) (ty := .int) (C := RX1) (T := TX1) (N := 10) hx hb hts hiX1 tyX1 tyX1_ok nmX1 hown hK hP hD hS 0 rfl rfl 6 (by decide) l39 (fun _ h9 => h9) rfl (by decide +kernel) (rfl) (rfl) (Nat.le_of_ble_eq_true rfl) dX1_begin_17 (fun H locs hP hD hS => ?_)
  have hP : va_P (dC, dI) vwCl ([(h0, .inr (1, [.ref g0, .ref o0, .int mk, .int 1, .int full, .int today, .int today, .int ps, .int pr, .ref kT])), (kT, .inl (cZ, 20, .inl tk))]) H := hP
  have hD : va_D A ([(h0, .inr (1, [.ref g0, .ref o0, .int mk, .int 1, .int full, .int today, .int today, .int ps, .int pr, .ref kT])), (kT, .inl (cZ, 20, .inl tk))]) := hD
  refine lv_aload_n hx hb dX1_begin_20 rfl (lv_at hl 0 rfl) ?_
  refine lv_iconst (v := (-1)) hx hb dX1_begin_21 (by decide) ?_
  refine va_put (D := (dC, dI)) (ci := 1) (v := .int (-1)) (ty := .int) (C := RX1) (T := TX1) (N := 10) hx hb hts hiX1 tyX1 tyX1_ok nmX1 hown hK hP hD hS 0 rfl rfl 7 (by decide) l42 (fun _ h9 => h9) rfl (by decide +kernel) (rfl) (rfl) (Nat.le_of_ble_eq_true rfl) dX1_begin_22 (fun H locs hP hD hS => ?_)
  have hP : va_P (dC, dI) vwCl ([(h0, .inr (1, [.ref g0, .ref o0, .int mk, .int 1, .int full, .int today, .int today, .int (-1), .int pr, .ref kT])), (kT, .inl (cZ, 20, .inl tk))]) H := hP
  have hD : va_D A ([(h0, .inr (1, [.ref g0, .ref o0, .int mk, .int 1, .int full, .int today, .int today, .int (-1), .int pr, .ref kT])), (kT, .inl (cZ, 20, .inl tk))]) := hD
  refine lv_aload_n hx hb dX1_begin_25 rfl (lv_at hl 0 rfl) ?_
  refine lv_iconst (v := (-1)) hx hb dX1_begin_26 (by decide) ?_
  refine va_put (D := (dC, dI)) (ci := 1) (v := .int (-1)) (ty := .int) (C := RX1) (T := TX1) (N := 10) hx hb hts hiX1 tyX1 tyX1_ok nmX1 hown hK hP hD hS 0 rfl rfl 8 (by decide) l45 (fun _ h9 => h9) rfl (by decide +kernel) (rfl) (rfl) (Nat.le_of_ble_eq_true rfl) dX1_begin_27 (fun H locs hP hD hS => ?_)
  have hP : va_P (dC, dI) vwCl ([(h0, .inr (1, [.ref g0, .ref o0, .int mk, .int 1, .int full, .int today, .int today, .int (-1), .int (-1), .ref kT])), (kT, .inl (cZ, 20, .inl tk))]) H := hP
  have hD : va_D A ([(h0, .inr (1, [.ref g0, .ref o0, .int mk, .int 1, .int full, .int today, .int today, .int (-1), .int (-1), .ref kT])), (kT, .inl (cZ, 20, .inl tk))]) := hD
  refine lv_iconst (v := 0) hx hb dX1_begin_30 (by decide) ?_
  refine lv_istore_n (lv' := [(3, .int 0), (0, .ref h0), (1, .int full), (2, .int today)]) hx hb dX1_begin_31 rfl hl (by decide) rfl (fun ls hl => ?_)
  have LOOP1 : ∀ (n i : Nat), i ≤ 20 → 20 < i + n → ∀ (H : Heap) (locs : List Loc), va_P (dC, dI) vwCl ([(h0, .inr (1, [.ref g0, .ref o0, .int mk, .int 1, .int full, .int today, .int today, .int (-1), .int (-1), .ref kT])), (kT, .inl (cZ, 20, .inl (zclr tk i)))]) H → va_D A ([(h0, .inr (1, [.ref g0, .ref o0, .int mk, .int 1, .int full, .int today, .int today, .int (-1), .int (-1), .ref kT])), (kT, .inl (cZ, 20, .inl (zclr tk i)))]) → va_S A s.heap H locs → ∀ (ls : Array Slot), lv_has ls 4 [(0, .ref h0), (1, .int full), (2, .int today), (3, .int (nI i))] → W p l e (headSpec wsX1_begin ({ frames := 0, cells := 0, slots := 0, locals := 0 })).room s m ([.ref h0, .int full, .int today] : List Value).toArray below meth c H locs 0 0 (MQ below (zQv dC dI ([(h0, .inr (1, [.ref g0, .ref o0, .int mk, .int 1, .int full, .int today, .int today, .int (-1), .int (-1), .ref kT])), (kT, .inl (cZ, 20, .inl (zclr tk 20)))]) A) ([.ref h0, .int full, .int today] : List Value).toArray s 0 0 A) (F0 m 32 ls []) := by
    intro n
    induction n with
    | zero => intro i h1 h2; exact absurd h2 (by omega)
    | succ n ih =>
      intro i hi hin  H locs hP hD hS ls hl
      refine lv_iload_n hx hb dX1_begin_32 rfl (lv_at hl 3 rfl) ?_
      refine lv_bipush (v := 20) hx hb dX1_begin_33 (by decide) ?_
      refine lv_icmp_ge (tgt := 51) hx hb dX1_begin_35 (by decide) (fun c_35 => ?_) (fun c_35 => ?_)
      · skip
        have e20 : i = 20 := z_ge (n := 20) hi (by decide) c_35
        subst e20
        exact W.vret hx hb hr (fun t ht hW => ⟨rfl, ⟨by rw [ht]; exact hP, hD⟩, hS.F ht⟩) hS.2.2 dX1_begin_51
      · skip
        have hlt : i < 20 := z_lt (n := 20) hi (by decide) c_35
        refine lv_aload_n hx hb dX1_begin_38 rfl (lv_at hl 0 rfl) ?_
        refine va_get (D := (dC, dI)) (ci := 1) (v := .ref kT) (C := RX1) (T := TX1) (N := 10) hx hb hts hiX1 hown hK hP 0 rfl rfl 9 (by decide) l48 (fun _ h9 => h9) rfl dX1_begin_39 ?_
        refine lv_iload_n hx hb dX1_begin_42 rfl (lv_at hl 3 rfl) ?_
        refine lv_iconst (v := 0) hx hb dX1_begin_43 (by decide) ?_
        refine z_zast (v := 0) hx hb hK hP hD hS 1 rfl (zix_nI (by first | assumption | omega) (by decide)) (rfl) dX1_begin_44 (fun H locs hP hD hS => ?_)
        have hP : va_P (dC, dI) vwCl ([(h0, .inr (1, [.ref g0, .ref o0, .int mk, .int 1, .int full, .int today, .int today, .int (-1), .int (-1), .ref kT])), (kT, .inl (cZ, 20, .inl (upd (zclr tk i) i 0)))]) H := hP
        have hD : va_D A ([(h0, .inr (1, [.ref g0, .ref o0, .int mk, .int 1, .int full, .int today, .int today, .int (-1), .int (-1), .ref kT])), (kT, .inl (cZ, 20, .inl (upd (zclr tk i) i 0)))]) := hD
        refine lv_iinc (v := nI (i + 1)) (lv' := [(3, .int (nI (i + 1))), (0, .ref h0), (1, .int full), (2, .int today)]) hx hb dX1_begin_45 hl (k := 3) rfl (z_1) (by decide) rfl (fun ls hl => ?_)
        refine lv_goto (tgt := 32) hx hb dX1_begin_48 (by decide) ?_
        exact ih (i + 1) (by omega) (by omega)  _ _ (zP_eq hP (zw_k (zw_a (zclr_s) (rfl)))) (zD_eq hD (zw_k (zw_a (zclr_s) (rfl)))) hS _ (lv_sub hl [1, 2, 3, 0] rfl)
  exact LOOP1 (20 + 1) 0 (by omega) (by omega)  _ _ (zP_eq hP (zw_k (zw_a (zclr_0) (rfl)))) (zD_eq hD (zw_k (zw_a (zclr_0) (rfl)))) hS _ (lv_cg (lv_sub (l' := [(0, .ref h0), (1, .int full), (2, .int today), (3, .int 0)]) hl [1, 2, 3, 0] rfl) (zl_k (zl_k (zl_k (zl_c (rfl) (rfl))))))
set_option maxHeartbeats 4000000 in
set_option maxRecDepth 100000 in
/-- Harvest.firstStamp -/
theorem kX1_firstStamp (l : Launch) (dC : Nat → ClassId) (dI : Nat → Nat → Nat) (cI cZ cH cJ : ClassId) (h0 : Nat) (g0 : Nat) (o0 : Nat) (kT : Nat) (mk : Int32) (ho : Int32) (fl : Int32) (od : Int32) (td : Int32) (ps : Int32) (pr : Int32) : Met l yX1_firstStamp wsX1_firstStamp ({ frames := 0, cells := 0, slots := 0, locals := 0 }) (zRc dC dI (zTy cI cZ cH cJ) [.ref h0] ([(h0, .inr (1, [.ref g0, .ref o0, .int mk, .int ho, .int fl, .int od, .int td, .int ps, .int pr, .ref kT]))])) (zSi (if fl = 0 then mk else 0)) 0 0 (fun _ => False) := by
  refine Met.ofW (cc := cX1_firstStamp) (maxL := 1) (ret := (some .int)) (by decide) rfl ?_
  intro p e s m args below meth c s₁ B hml hv0
  obtain ⟨rfl, hP, hK⟩ := hv0
  have hx := B.exec
  have hb := B.bytes
  have hr := B.returns
  have hts := atoms_spec (ws := wsX1_firstStamp) B.pre
  have hown : s.vm.findClass RX1 = some m.cls := findClass_of_methodNamed B.named
  have hlocks := B.notSynchronized
  have hl := lv_entry ([.ref h0]) (n := 1) (Nat.le_of_ble_eq_true rfl)
  rw [lg_entry_eq]
  generalize (lg_sl ([.ref h0]) ++ List.replicate (1 - (lg_sl ([.ref h0])).length) Slot.unset).toArray = ls at hl ⊢
  have hl : lv_has ls 1 [(0, .ref h0)] := hl
  have hiX1 : ∀ w ∈ wsX10, w ∈ wsX1_firstStamp := by decide +kernel
  have l25 := hts (.fieldLink RX1 25 "CatalogueHarvester$Harvest" "mark" "I") (by decide +kernel)
  have l33 := hts (.fieldLink RX1 33 "CatalogueHarvester$Harvest" "isFullList" "Z") (by decide +kernel)
  refine lv_aload_n hx hb dX1_firstStamp_0 rfl (lv_at hl 0 rfl) ?_
  refine va_get (D := (dC, dI)) (ci := 1) (v := .int fl) (C := RX1) (T := TX1) (N := 10) hx hb hts hiX1 hown hK hP 0 rfl rfl 4 (by decide) l33 (fun _ h9 => h9) rfl dX1_firstStamp_1 ?_
  refine lv_if_eq (tgt := 11) hx hb dX1_firstStamp_4 (by decide) (fun c_4 => ?_) (fun c_4 => ?_)
  · skip
    refine lv_aload_n hx hb dX1_firstStamp_11 rfl (lv_at hl 0 rfl) ?_
    refine va_get (D := (dC, dI)) (ci := 1) (v := .int mk) (C := RX1) (T := TX1) (N := 10) hx hb hts hiX1 hown hK hP 0 rfl rfl 2 (by decide) l25 (fun _ h9 => h9) rfl dX1_firstStamp_12 ?_
    refine z_tv (v := if fl = 0 then mk else 0) (by simp [c_4]) ?_
    exact W.iret hx hb hr (fun t ht hW => ⟨rfl, ht⟩) (fun _ h => nomatch h) dX1_firstStamp_15
  · skip
    refine lv_iconst (v := 0) hx hb dX1_firstStamp_7 (by decide) ?_
    refine lv_goto (tgt := 15) hx hb dX1_firstStamp_8 (by decide) ?_
    refine z_tv (v := if fl = 0 then mk else 0) (by simp [c_4]) ?_
    exact W.iret hx hb hr (fun t ht hW => ⟨rfl, ht⟩) (fun _ h => nomatch h) dX1_firstStamp_15
set_option maxHeartbeats 4000000 in
set_option maxRecDepth 100000 in
/-- Harvest.nextOfList -/
theorem kX1_nextOfList (l : Launch) (dC : Nat → ClassId) (dI : Nat → Nat → Nat) (cI cZ cH cJ : ClassId) (h0 : Nat) (g0 : Nat) (o0 : Nat) (kT : Nat) (mk : Int32) (ho : Int32) (fl : Int32) (od : Int32) (td : Int32) (ps : Int32) (pr : Int32) (b0 : Nat) (gI : Nat) (gS : Nat) (gD : Nat) (bT : Nat) (bW : Nat) (bV : Nat) (bS : Nat) (un : Int32) (de : Int32) (fT : zI) (fS : zI) (iT : zI) (tS : zI) : Met l yX1_nextOfList wsX1_nextOfList ({ frames := 2, cells := 0, slots := 0, locals := 50 }) (zRc dC dI (zTy cI cZ cH cJ) [.ref h0] ([(h0, .inr (1, [.ref g0, .ref o0, .int mk, .int ho, .int fl, .int od, .int td, .int ps, .int pr, .ref kT])), (g0, .inr (0, [.ref b0, .ref gI, .ref gS, .ref gD, .int un, .int de])), (b0, .inr (2, [.ref bT, .ref bW, .ref bV, .ref bS])), (bT, .inl (cZ, 20, .inl fT)), (bS, .inl (cI, 20, .inl fS)), (gI, .inl (cZ, 20, .inl iT)), (gS, .inl (cI, 20, .inl tS))])) (zSi ((znx (zls fT fS iT tS) (if fl = 0 then mk else 0) ps pr 20).1)) 0 0 (fun _ => False) := by
  refine Met.ofW (cc := cX1_nextOfList) (maxL := 1) (ret := (some .int)) (by decide) rfl ?_
  intro p e s m args below meth c s₁ B hml hv0
  obtain ⟨rfl, hP, hK⟩ := hv0
  have hx := B.exec
  have hb := B.bytes
  have hr := B.returns
  have hts := atoms_spec (ws := wsX1_nextOfList) B.pre
  have hown : s.vm.findClass RX1 = some m.cls := findClass_of_methodNamed B.named
  have hlocks := B.notSynchronized
  have hl := lv_entry ([.ref h0]) (n := 1) (Nat.le_of_ble_eq_true rfl)
  rw [lg_entry_eq]
  generalize (lg_sl ([.ref h0]) ++ List.replicate (1 - (lg_sl ([.ref h0])).length) Slot.unset).toArray = ls at hl ⊢
  have hl : lv_has ls 1 [(0, .ref h0)] := hl
  have hiX1 : ∀ w ∈ wsX10, w ∈ wsX1_nextOfList := by decide +kernel
  have l12 := hts (.fieldLink RX1 12 "CatalogueHarvester$Harvest" "far" "LCatalogueHarvester$FarCatalogue;") (by decide +kernel)
  have l42 := hts (.fieldLink RX1 42 "CatalogueHarvester$Harvest" "placeStamp" "I") (by decide +kernel)
  have l45 := hts (.fieldLink RX1 45 "CatalogueHarvester$Harvest" "placeRecord" "I") (by decide +kernel)
  refine lv_aload_n hx hb dX1_nextOfList_0 rfl (lv_at hl 0 rfl) ?_
  refine va_get (D := (dC, dI)) (ci := 1) (v := .ref g0) (C := RX1) (T := TX1) (N := 10) hx hb hts hiX1 hown hK hP 0 rfl rfl 0 (by decide) l12 (fun _ h9 => h9) rfl dX1_nextOfList_1 ?_
  refine lv_aload_n hx hb dX1_nextOfList_4 rfl (lv_at hl 0 rfl) ?_
  refine z_cRi (va_runV (As := []) (rest := [.ref g0]) ⟨hx, hb, hml, hown, hts⟩ (kX1_firstStamp l dC dI cI cZ cH cJ h0 g0 o0 kT mk ho fl od td ps pr) (cwV 0 hts gX1_nextOfList_X1_firstStamp rfl rfl rfl (by decide +kernel) ⟨Nat.le_of_ble_eq_true rfl, Nat.le_of_ble_eq_true rfl⟩) (zPreR (is := [0]) hK hP rfl (va_recv hK hP (ci := 1) (q0 := 0) rfl rfl)) rfl rfl hl.1 rfl (lv_room (Nat.le_of_ble_eq_true rfl)) dX1_nextOfList_5 ⟨Nat.le_of_ble_eq_true rfl, Nat.le_of_ble_eq_true rfl⟩) ?_
  refine z_tv (v := if fl = 0 then mk else 0) rfl ?_
  refine lv_aload_n hx hb dX1_nextOfList_8 rfl (lv_at hl 0 rfl) ?_
  refine va_get (D := (dC, dI)) (ci := 1) (v := .int ps) (C := RX1) (T := TX1) (N := 10) hx hb hts hiX1 hown hK hP 0 rfl rfl 7 (by decide) l42 (fun _ h9 => h9) rfl dX1_nextOfList_9 ?_
  refine lv_aload_n hx hb dX1_nextOfList_12 rfl (lv_at hl 0 rfl) ?_
  refine va_get (D := (dC, dI)) (ci := 1) (v := .int pr) (C := RX1) (T := TX1) (N := 10) hx hb hts hiX1 hown hK hP 0 rfl rfl 8 (by decide) l45 (fun _ h9 => h9) rfl dX1_nextOfList_13 ?_
  refine z_cRi (va_runV (As := [.int (if fl = 0 then mk else 0), .int ps, .int pr]) (rest := []) ⟨hx, hb, hml, hown, hts⟩ (kX0_nextListed l dC dI cI cZ cH cJ g0 b0 gI gS gD bT bW bV bS un de fT fS iT tS (if fl = 0 then mk else 0) ps pr) (cwV 3 hts gX1_nextOfList_X0_nextListed rfl rfl rfl (by decide +kernel) ⟨Nat.le_of_ble_eq_true rfl, Nat.le_of_ble_eq_true rfl⟩) (zPreR (is := [1, 2, 3, 4, 5, 6]) hK hP rfl (va_recv hK hP (ci := 0) (q0 := 1) rfl rfl)) rfl rfl hl.1 rfl (lv_room (Nat.le_of_ble_eq_true rfl)) dX1_nextOfList_16 ⟨Nat.le_of_ble_eq_true rfl, Nat.le_of_ble_eq_true rfl⟩) ?_
  refine z_tv (v := (znx (zls fT fS iT tS) (if fl = 0 then mk else 0) ps pr 20).1) rfl ?_
  exact W.iret hx hb hr (fun t ht hW => ⟨rfl, ht⟩) (fun _ h => nomatch h) dX1_nextOfList_19
set_option maxHeartbeats 4000000 in
set_option maxRecDepth 100000 in
/-- Harvest.takeOver -/
theorem kX1_takeOver (l : Launch) (dC : Nat → ClassId) (dI : Nat → Nat → Nat) (cI cZ cH cJ : ClassId) (h0 : Nat) (g0 : Nat) (o0 : Nat) (kT : Nat) (mk : Int32) (ho : Int32) (fl : Int32) (od : Int32) (td : Int32) (ps : Int32) (pr : Int32) (b0 : Nat) (gI : Nat) (gS : Nat) (gD : Nat) (bT : Nat) (bW : Nat) (bV : Nat) (bS : Nat) (oT : Nat) (oW : Nat) (oV : Nat) (oS : Nat) (un : Int32) (de : Int32) (fT : zI) (fW : zI) (fV : zI) (fS : zI) (iT : zI) (tS : zI) (sT : zI) (sW : zI) (sV : zI) (sS : zI) (tk : zI) (r : Nat) (hrr : r < 20) (sz : Nat) : Met l yX1_takeOver wsX1_takeOver ({ frames := 1, cells := 0, slots := 0, locals := 24 }) (zPc dC dI (zTy cI cZ cH cJ) [.ref h0, .int (nI r)] sz ([(h0, .inr (1, [.ref g0, .ref o0, .int mk, .int ho, .int fl, .int od, .int td, .int ps, .int pr, .ref kT])), (g0, .inr (0, [.ref b0, .ref gI, .ref gS, .ref gD, .int un, .int de])), (b0, .inr (2, [.ref bT, .ref bW, .ref bV, .ref bS])), (bT, .inl (cZ, 20, .inl fT)), (bW, .inl (cI, 20, .inl fW)), (bV, .inl (cI, 20, .inl fV)), (bS, .inl (cI, 20, .inl fS)), (gI, .inl (cZ, 20, .inl iT)), (gS, .inl (cI, 20, .inl tS)), (o0, .inr (2, [.ref oT, .ref oW, .ref oV, .ref oS])), (oT, .inl (cZ, 20, .inl sT)), (oW, .inl (cI, 20, .inl sW)), (oV, .inl (cI, 20, .inl sV)), (oS, .inl (cI, 20, .inl sS)), (kT, .inl (cZ, 20, .inl tk))])) (zQv dC dI ([(h0, .inr (1, [.ref g0, .ref o0, .int mk, .int ho, .int fl, .int od, .int td, .int (zls fT fS iT tS r), .int (nI r), .ref kT])), (g0, .inr (0, [.ref b0, .ref gI, .ref gS, .ref gD, .int un, .int de])), (b0, .inr (2, [.ref bT, .ref bW, .ref bV, .ref bS])), (bT, .inl (cZ, 20, .inl fT)), (bW, .inl (cI, 20, .inl fW)), (bV, .inl (cI, 20, .inl fV)), (bS, .inl (cI, 20, .inl fS)), (gI, .inl (cZ, 20, .inl iT)), (gS, .inl (cI, 20, .inl tS)), (o0, .inr (2, [.ref oT, .ref oW, .ref oV, .ref oS])), (oT, .inl (cZ, 20, .inl (upd sT r (if fT r = 0 then 0 else 1)))), (oW, .inl (cI, 20, .inl (if fT r = 0 then sW else upd sW r (fW r)))), (oV, .inl (cI, 20, .inl (if fT r = 0 then sV else upd sV r (fV r)))), (oS, .inl (cI, 20, .inl (if fT r = 0 then sS else upd sS r (fS r)))), (kT, .inl (cZ, 20, .inl (if fT r = 0 then tk else upd tk r 1)))]) (va_A ([(h0, .inr (1, [.ref g0, .ref o0, .int mk, .int ho, .int fl, .int od, .int td, .int ps, .int pr, .ref kT])), (g0, .inr (0, [.ref b0, .ref gI, .ref gS, .ref gD, .int un, .int de])), (b0, .inr (2, [.ref bT, .ref bW, .ref bV, .ref bS])), (bT, .inl (cZ, 20, .inl fT)), (bW, .inl (cI, 20, .inl fW)), (bV, .inl (cI, 20, .inl fV)), (bS, .inl (cI, 20, .inl fS)), (gI, .inl (cZ, 20, .inl iT)), (gS, .inl (cI, 20, .inl tS)), (o0, .inr (2, [.ref oT, .ref oW, .ref oV, .ref oS])), (oT, .inl (cZ, 20, .inl sT)), (oW, .inl (cI, 20, .inl sW)), (oV, .inl (cI, 20, .inl sV)), (oS, .inl (cI, 20, .inl sS)), (kT, .inl (cZ, 20, .inl tk))]) sz)) 0 0 (va_A ([(h0, .inr (1, [.ref g0, .ref o0, .int mk, .int ho, .int fl, .int od, .int td, .int ps, .int pr, .ref kT])), (g0, .inr (0, [.ref b0, .ref gI, .ref gS, .ref gD, .int un, .int de])), (b0, .inr (2, [.ref bT, .ref bW, .ref bV, .ref bS])), (bT, .inl (cZ, 20, .inl fT)), (bW, .inl (cI, 20, .inl fW)), (bV, .inl (cI, 20, .inl fV)), (bS, .inl (cI, 20, .inl fS)), (gI, .inl (cZ, 20, .inl iT)), (gS, .inl (cI, 20, .inl tS)), (o0, .inr (2, [.ref oT, .ref oW, .ref oV, .ref oS])), (oT, .inl (cZ, 20, .inl sT)), (oW, .inl (cI, 20, .inl sW)), (oV, .inl (cI, 20, .inl sV)), (oS, .inl (cI, 20, .inl sS)), (kT, .inl (cZ, 20, .inl tk))]) sz) := by
  refine Met.ofW (cc := cX1_takeOver) (maxL := 3) (ret := none) (by decide) rfl ?_
  intro p e s m args below meth c s₁ B hml hv0
  obtain ⟨rfl, hsz, hP, hK, hD0⟩ := hv0
  have hx := B.exec
  have hb := B.bytes
  have hr := B.returns
  have hts := atoms_spec (ws := wsX1_takeOver) B.pre
  have hown : s.vm.findClass RX1 = some m.cls := findClass_of_methodNamed B.named
  have hlocks := B.notSynchronized
  subst hsz
  have hD := hD0.self (sz := s.heap.size)
  generalize hAe : va_A ([(h0, .inr (1, [.ref g0, .ref o0, .int mk, .int ho, .int fl, .int od, .int td, .int ps, .int pr, .ref kT])), (g0, .inr (0, [.ref b0, .ref gI, .ref gS, .ref gD, .int un, .int de])), (b0, .inr (2, [.ref bT, .ref bW, .ref bV, .ref bS])), (bT, .inl (cZ, 20, .inl fT)), (bW, .inl (cI, 20, .inl fW)), (bV, .inl (cI, 20, .inl fV)), (bS, .inl (cI, 20, .inl fS)), (gI, .inl (cZ, 20, .inl iT)), (gS, .inl (cI, 20, .inl tS)), (o0, .inr (2, [.ref oT, .ref oW, .ref oV, .ref oS])), (oT, .inl (cZ, 20, .inl sT)), (oW, .inl (cI, 20, .inl sW)), (oV, .inl (cI, 20, .inl sV)), (oS, .inl (cI, 20, .inl sS)), (kT, .inl (cZ, 20, .inl tk))]) s.heap.size = A at hD ⊢
  have hA : ∀ q : Nat, s.heap.size ≤ q → A q := fun q h => by rw [← hAe]; exact Or.inr h
  have hS : va_S A s.heap s.heap [] := va_S.rf
  have hl := lv_entry ([.ref h0, .int (nI r)]) (n := 3) (Nat.le_of_ble_eq_true rfl)
  rw [lg_entry_eq]
  generalize (lg_sl ([.ref h0, .int (nI r)]) ++ List.replicate (3 - (lg_sl ([.ref h0, .int (nI r)])).length) Slot.unset).toArray = ls at hl ⊢
  have hl : lv_has ls 3 [(0, .ref h0), (1, .int (nI r))] := hl
  have hiX0 : ∀ w ∈ wsX00, w ∈ wsX1_takeOver := by decide +kernel
  have hiX1 : ∀ w ∈ wsX10, w ∈ wsX1_takeOver := by decide +kernel
  have hiX2 : ∀ w ∈ wsX20, w ∈ wsX1_takeOver := by decide +kernel
  have l12 := hts (.fieldLink RX1 12 "CatalogueHarvester$Harvest" "far" "LCatalogueHarvester$FarCatalogue;") (by decide +kernel)
  have l21 := hts (.fieldLink RX1 21 "CatalogueHarvester$Harvest" "store" "LCatalogueHarvester$Records;") (by decide +kernel)
  have l42 := hts (.fieldLink RX1 42 "CatalogueHarvester$Harvest" "placeStamp" "I") (by decide +kernel)
  have l45 := hts (.fieldLink RX1 45 "CatalogueHarvester$Harvest" "placeRecord" "I") (by decide +kernel)
  have l48 := hts (.fieldLink RX1 48 "CatalogueHarvester$Harvest" "isTakenOver" "[Z") (by decide +kernel)
  have l78 := hts (.fieldLink RX1 78 "CatalogueHarvester$FarCatalogue" "records" "LCatalogueHarvester$Records;") (by decide +kernel)
  have l81 := hts (.fieldLink RX1 81 "CatalogueHarvester$Records" "isThere" "[Z") (by decide +kernel)
  have l84 := hts (.fieldLink RX1 84 "CatalogueHarvester$Records" "works" "[I") (by decide +kernel)
  have l88 := hts (.fieldLink RX1 88 "CatalogueHarvester$Records" "values" "[I") (by decide +kernel)
  have l91 := hts (.fieldLink RX1 91 "CatalogueHarvester$Records" "stamps" "[I") (by decide +kernel)
  refine lv_aload_n hx hb dX1_takeOver_0 rfl (lv_at hl 0 rfl) ?_
  refine lv_aload_n hx hb dX1_takeOver_1 rfl (lv_at hl 0 rfl) ?_
  refine va_get (D := (dC, dI)) (ci := 1) (v := .ref g0) (C := RX1) (T := TX1) (N := 10) hx hb hts hiX1 hown hK hP 0 rfl rfl 0 (by decide) l12 (fun _ h9 => h9) rfl dX1_takeOver_2 ?_
  refine lv_iload_n hx hb dX1_takeOver_5 rfl (lv_at hl 1 rfl) ?_
  refine z_cRi (va_runV (As := [.int (nI r)]) (rest := [.ref h0]) ⟨hx, hb, hml, hown, hts⟩ (kX0_listedStamp l dC dI cI cZ cH cJ g0 b0 gI gS gD bT bW bV bS un de fT fS iT tS r (by first | assumption | omega)) (cwV 1 hts gX1_takeOver_X0_listedStamp rfl rfl rfl (by decide +kernel) ⟨Nat.le_of_ble_eq_true rfl, Nat.le_of_ble_eq_true rfl⟩) (zPreR (is := [1, 2, 3, 6, 7, 8]) hK hP rfl (va_recv hK hP (ci := 0) (q0 := 1) rfl rfl)) rfl rfl hl.1 rfl (lv_room (Nat.le_of_ble_eq_true rfl)) dX1_takeOver_6 ⟨Nat.le_of_ble_eq_true rfl, Nat.le_of_ble_eq_true rfl⟩) ?_
  refine z_tv (v := zls fT fS iT tS r) rfl ?_
  refine va_put (D := (dC, dI)) (ci := 1) (v := .int (zls fT fS iT tS r)) (ty := .int) (C := RX1) (T := TX1) (N := 10) hx hb hts hiX1 tyX1 tyX1_ok nmX1 hown hK hP hD hS 0 rfl rfl 7 (by decide) l42 (fun _ h9 => h9) rfl (by decide +kernel) (rfl) (rfl) (Nat.le_of_ble_eq_true rfl) dX1_takeOver_9 (fun H locs hP hD hS => ?_)
  have hP : va_P (dC, dI) vwCl ([(h0, .inr (1, [.ref g0, .ref o0, .int mk, .int ho, .int fl, .int od, .int td, .int (zls fT fS iT tS r), .int pr, .ref kT])), (g0, .inr (0, [.ref b0, .ref gI, .ref gS, .ref gD, .int un, .int de])), (b0, .inr (2, [.ref bT, .ref bW, .ref bV, .ref bS])), (bT, .inl (cZ, 20, .inl fT)), (bW, .inl (cI, 20, .inl fW)), (bV, .inl (cI, 20, .inl fV)), (bS, .inl (cI, 20, .inl fS)), (gI, .inl (cZ, 20, .inl iT)), (gS, .inl (cI, 20, .inl tS)), (o0, .inr (2, [.ref oT, .ref oW, .ref oV, .ref oS])), (oT, .inl (cZ, 20, .inl sT)), (oW, .inl (cI, 20, .inl sW)), (oV, .inl (cI, 20, .inl sV)), (oS, .inl (cI, 20, .inl sS)), (kT, .inl (cZ, 20, .inl tk))]) H := hP
  have hD : va_D A ([(h0, .inr (1, [.ref g0, .ref o0, .int mk, .int ho, .int fl, .int od, .int td, .int (zls fT fS iT tS r), .int pr, .ref kT])), (g0, .inr (0, [.ref b0, .ref gI, .ref gS, .ref gD, .int un, .int de])), (b0, .inr (2, [.ref bT, .ref bW, .ref bV, .ref bS])), (bT, .inl (cZ, 20, .inl fT)), (bW, .inl (cI, 20, .inl fW)), (bV, .inl (cI, 20, .inl fV)), (bS, .inl (cI, 20, .inl fS)), (gI, .inl (cZ, 20, .inl iT)), (gS, .inl (cI, 20, .inl tS)), (o0, .inr (2, [.ref oT, .ref oW, .ref oV, .ref oS])), (oT, .inl (cZ, 20, .inl sT)), (oW, .inl (cI, 20, .inl sW)), (oV, .inl (cI, 20, .inl sV)), (oS, .inl (cI, 20, .inl sS)), (kT, .inl (cZ, 20, .inl tk))]) := hD
  refine lv_aload_n hx hb dX1_takeOver_12 rfl (lv_at hl 0 rfl) ?_
  refine lv_iload_n hx hb dX1_takeOver_13 rfl (lv_at hl 1 rfl) ?_
  refine va_put (D := (dC, dI)) (ci := 1) (v := .int (nI r)) (ty := .int) (C := RX1) (T := TX1) (N := 10) hx hb hts hiX1 tyX1 tyX1_ok nmX1 hown hK hP hD hS 0 rfl rfl 8 (by decide) l45 (fun _ h9 => h9) rfl (by decide +kernel) (rfl) (rfl) (Nat.le_of_ble_eq_true rfl) dX1_takeOver_14 (fun H locs hP hD hS => ?_)
  have hP : va_P (dC, dI) vwCl ([(h0, .inr (1, [.ref g0, .ref o0, .int mk, .int ho, .int fl, .int od, .int td, .int (zls fT fS iT tS r), .int (nI r), .ref kT])), (g0, .inr (0, [.ref b0, .ref gI, .ref gS, .ref gD, .int un, .int de])), (b0, .inr (2, [.ref bT, .ref bW, .ref bV, .ref bS])), (bT, .inl (cZ, 20, .inl fT)), (bW, .inl (cI, 20, .inl fW)), (bV, .inl (cI, 20, .inl fV)), (bS, .inl (cI, 20, .inl fS)), (gI, .inl (cZ, 20, .inl iT)), (gS, .inl (cI, 20, .inl tS)), (o0, .inr (2, [.ref oT, .ref oW, .ref oV, .ref oS])), (oT, .inl (cZ, 20, .inl sT)), (oW, .inl (cI, 20, .inl sW)), (oV, .inl (cI, 20, .inl sV)), (oS, .inl (cI, 20, .inl sS)), (kT, .inl (cZ, 20, .inl tk))]) H := hP
  have hD : va_D A ([(h0, .inr (1, [.ref g0, .ref o0, .int mk, .int ho, .int fl, .int od, .int td, .int (zls fT fS iT tS r), .int (nI r), .ref kT])), (g0, .inr (0, [.ref b0, .ref gI, .ref gS, .ref gD, .int un, .int de])), (b0, .inr (2, [.ref bT, .ref bW, .ref bV, .ref bS])), (bT, .inl (cZ, 20, .inl fT)), (bW, .inl (cI, 20, .inl fW)), (bV, .inl (cI, 20, .inl fV)), (bS, .inl (cI, 20, .inl fS)), (gI, .inl (cZ, 20, .inl iT)), (gS, .inl (cI, 20, .inl tS)), (o0, .inr (2, [.ref oT, .ref oW, .ref oV, .ref oS])), (oT, .inl (cZ, 20, .inl sT)), (oW, .inl (cI, 20, .inl sW)), (oV, .inl (cI, 20, .inl sV)), (oS, .inl (cI, 20, .inl sS)), (kT, .inl (cZ, 20, .inl tk))]) := hD
  refine lv_aload_n hx hb dX1_takeOver_17 rfl (lv_at hl 0 rfl) ?_
  refine va_get (D := (dC, dI)) (ci := 1) (v := .ref g0) (C := RX1) (T := TX1) (N := 10) hx hb hts hiX1 hown hK hP 0 rfl rfl 0 (by decide) l12 (fun _ h9 => h9) rfl dX1_takeOver_18 ?_
  refine va_get (D := (dC, dI)) (ci := 0) (v := .ref b0) (C := RX0) (T := TX0) (N := 6) hx hb hts hiX0 hown hK hP 1 rfl rfl 0 (by decide) l78 (fun _ h9 => h9) rfl dX1_takeOver_21 ?_
  refine lv_astore_n (lv' := [(2, .ref b0), (0, .ref h0), (1, .int (nI r))]) hx hb dX1_takeOver_24 rfl hl (by decide) rfl (fun ls hl => ?_)
  refine lv_aload_n hx hb dX1_takeOver_25 rfl (lv_at hl 0 rfl) ?_
  refine va_get (D := (dC, dI)) (ci := 2) (v := .ref bT) (C := RX2) (T := TX2) (N := 4) hx hb hts hiX2 hown hK hP 2 rfl rfl 0 (by decide) l81 (fun _ h9 => h9) rfl dX1_takeOver_26 ?_
  refine lv_iload_n hx hb dX1_takeOver_29 rfl (lv_at hl 2 rfl) ?_
  refine z_zald hx hb hK hP 3 rfl (zix_nI (by first | assumption | omega) (by decide)) dX1_takeOver_30 ?_
  refine z_tv (v := fT r) (rfl) ?_
  refine lv_if_eq (tgt := 70) hx hb dX1_takeOver_31 (by decide) (fun c_31 => ?_) (fun c_31 => ?_)
  · skip
    refine lv_aload_n hx hb dX1_takeOver_70 rfl (lv_at hl 1 rfl) ?_
    refine va_get (D := (dC, dI)) (ci := 1) (v := .ref o0) (C := RX1) (T := TX1) (N := 10) hx hb hts hiX1 hown hK hP 0 rfl rfl 1 (by decide) l21 (fun _ h9 => h9) rfl dX1_takeOver_71 ?_
    refine lv_iload_n hx hb dX1_takeOver_74 rfl (lv_at hl 2 rfl) ?_
    refine z_cMv (is := [9, 10]) (va_runV (As := [.int (nI r)]) (rest := []) ⟨hx, hb, hml, hown, hts⟩ (kX2_drop l dC dI cI cZ cH cJ o0 oT oW oV oS sT r (by first | assumption | omega) H.size) (cwV 1 hts gX1_takeOver_X2_drop rfl rfl rfl (by decide +kernel) ⟨Nat.le_of_ble_eq_true rfl, Nat.le_of_ble_eq_true rfl⟩) (zPreV (is := [9, 10]) hK hP hD (by decide) rfl (va_recv hK hP (ci := 2) (q0 := 9) rfl rfl)) rfl rfl hl.1 rfl (lv_room (Nat.le_of_ble_eq_true rfl)) dX1_takeOver_75 ⟨Nat.le_of_ble_eq_true rfl, Nat.le_of_ble_eq_true rfl⟩) hP hD hS hA rfl (by decide) rfl (fun H locs hP hD hS => ?_)
    have hP : va_P (dC, dI) vwCl ([(h0, .inr (1, [.ref g0, .ref o0, .int mk, .int ho, .int fl, .int od, .int td, .int (zls fT fS iT tS r), .int (nI r), .ref kT])), (g0, .inr (0, [.ref b0, .ref gI, .ref gS, .ref gD, .int un, .int de])), (b0, .inr (2, [.ref bT, .ref bW, .ref bV, .ref bS])), (bT, .inl (cZ, 20, .inl fT)), (bW, .inl (cI, 20, .inl fW)), (bV, .inl (cI, 20, .inl fV)), (bS, .inl (cI, 20, .inl fS)), (gI, .inl (cZ, 20, .inl iT)), (gS, .inl (cI, 20, .inl tS)), (o0, .inr (2, [.ref oT, .ref oW, .ref oV, .ref oS])), (oT, .inl (cZ, 20, .inl (upd sT r 0))), (oW, .inl (cI, 20, .inl sW)), (oV, .inl (cI, 20, .inl sV)), (oS, .inl (cI, 20, .inl sS)), (kT, .inl (cZ, 20, .inl tk))]) H := hP
    have hD : va_D A ([(h0, .inr (1, [.ref g0, .ref o0, .int mk, .int ho, .int fl, .int od, .int td, .int (zls fT fS iT tS r), .int (nI r), .ref kT])), (g0, .inr (0, [.ref b0, .ref gI, .ref gS, .ref gD, .int un, .int de])), (b0, .inr (2, [.ref bT, .ref bW, .ref bV, .ref bS])), (bT, .inl (cZ, 20, .inl fT)), (bW, .inl (cI, 20, .inl fW)), (bV, .inl (cI, 20, .inl fV)), (bS, .inl (cI, 20, .inl fS)), (gI, .inl (cZ, 20, .inl iT)), (gS, .inl (cI, 20, .inl tS)), (o0, .inr (2, [.ref oT, .ref oW, .ref oV, .ref oS])), (oT, .inl (cZ, 20, .inl (upd sT r 0))), (oW, .inl (cI, 20, .inl sW)), (oV, .inl (cI, 20, .inl sV)), (oS, .inl (cI, 20, .inl sS)), (kT, .inl (cZ, 20, .inl tk))]) := hD
    have hP := zP_eq (ws' := [(h0, .inr (1, [.ref g0, .ref o0, .int mk, .int ho, .int fl, .int od, .int td, .int (zls fT fS iT tS r), .int (nI r), .ref kT])), (g0, .inr (0, [.ref b0, .ref gI, .ref gS, .ref gD, .int un, .int de])), (b0, .inr (2, [.ref bT, .ref bW, .ref bV, .ref bS])), (bT, .inl (cZ, 20, .inl fT)), (bW, .inl (cI, 20, .inl fW)), (bV, .inl (cI, 20, .inl fV)), (bS, .inl (cI, 20, .inl fS)), (gI, .inl (cZ, 20, .inl iT)), (gS, .inl (cI, 20, .inl tS)), (o0, .inr (2, [.ref oT, .ref oW, .ref oV, .ref oS])), (oT, .inl (cZ, 20, .inl (upd sT r (if fT r = 0 then 0 else 1)))), (oW, .inl (cI, 20, .inl (if fT r = 0 then sW else upd sW r (fW r)))), (oV, .inl (cI, 20, .inl (if fT r = 0 then sV else upd sV r (fV r)))), (oS, .inl (cI, 20, .inl (if fT r = 0 then sS else upd sS r (fS r)))), (kT, .inl (cZ, 20, .inl (if fT r = 0 then tk else upd tk r 1)))]) hP (zw_k (zw_k (zw_k (zw_k (zw_k (zw_k (zw_k (zw_k (zw_k (zw_k (zw_a (by simp [c_31]) (zw_a (by simp [c_31]) (zw_a (by simp [c_31]) (zw_a (by simp [c_31]) (zw_a (by simp [c_31]) (rfl))))))))))))))))
    have hD := zD_eq (ws' := [(h0, .inr (1, [.ref g0, .ref o0, .int mk, .int ho, .int fl, .int od, .int td, .int (zls fT fS iT tS r), .int (nI r), .ref kT])), (g0, .inr (0, [.ref b0, .ref gI, .ref gS, .ref gD, .int un, .int de])), (b0, .inr (2, [.ref bT, .ref bW, .ref bV, .ref bS])), (bT, .inl (cZ, 20, .inl fT)), (bW, .inl (cI, 20, .inl fW)), (bV, .inl (cI, 20, .inl fV)), (bS, .inl (cI, 20, .inl fS)), (gI, .inl (cZ, 20, .inl iT)), (gS, .inl (cI, 20, .inl tS)), (o0, .inr (2, [.ref oT, .ref oW, .ref oV, .ref oS])), (oT, .inl (cZ, 20, .inl (upd sT r (if fT r = 0 then 0 else 1)))), (oW, .inl (cI, 20, .inl (if fT r = 0 then sW else upd sW r (fW r)))), (oV, .inl (cI, 20, .inl (if fT r = 0 then sV else upd sV r (fV r)))), (oS, .inl (cI, 20, .inl (if fT r = 0 then sS else upd sS r (fS r)))), (kT, .inl (cZ, 20, .inl (if fT r = 0 then tk else upd tk r 1)))]) hD (zw_k (zw_k (zw_k (zw_k (zw_k (zw_k (zw_k (zw_k (zw_k (zw_k (zw_a (by simp [c_31]) (zw_a (by simp [c_31]) (zw_a (by simp [c_31]) (zw_a (by simp [c_31]) (zw_a (by simp [c_31]) (rfl))))))))))))))))
    exact W.vret hx hb hr (fun t ht hW => ⟨rfl, ⟨by rw [ht]; exact hP, hD⟩, hS.F ht⟩) hS.2.2 dX1_takeOver_78
  · skip
    refine lv_aload_n hx hb dX1_takeOver_34 rfl (lv_at hl 1 rfl) ?_
    refine va_get (D := (dC, dI)) (ci := 1) (v := .ref o0) (C := RX1) (T := TX1) (N := 10) hx hb hts hiX1 hown hK hP 0 rfl rfl 1 (by decide) l21 (fun _ h9 => h9) rfl dX1_takeOver_35 ?_
    refine lv_iload_n hx hb dX1_takeOver_38 rfl (lv_at hl 2 rfl) ?_
    refine lv_aload_n hx hb dX1_takeOver_39 rfl (lv_at hl 0 rfl) ?_
    refine va_get (D := (dC, dI)) (ci := 2) (v := .ref bW) (C := RX2) (T := TX2) (N := 4) hx hb hts hiX2 hown hK hP 2 rfl rfl 1 (by decide) l84 (fun _ h9 => h9) rfl dX1_takeOver_40 ?_
    refine lv_iload_n hx hb dX1_takeOver_43 rfl (lv_at hl 2 rfl) ?_
    refine z_iald hx hb hK hP 4 rfl (zix_nI (by first | assumption | omega) (by decide)) dX1_takeOver_44 ?_
    refine z_tv (v := fW r) (rfl) ?_
    refine lv_aload_n hx hb dX1_takeOver_45 rfl (lv_at hl 0 rfl) ?_
    refine va_get (D := (dC, dI)) (ci := 2) (v := .ref bV) (C := RX2) (T := TX2) (N := 4) hx hb hts hiX2 hown hK hP 2 rfl rfl 2 (by decide) l88 (fun _ h9 => h9) rfl dX1_takeOver_46 ?_
    refine lv_iload_n hx hb dX1_takeOver_49 rfl (lv_at hl 2 rfl) ?_
    refine z_iald hx hb hK hP 5 rfl (zix_nI (by first | assumption | omega) (by decide)) dX1_takeOver_50 ?_
    refine z_tv (v := fV r) (rfl) ?_
    refine lv_aload_n hx hb dX1_takeOver_51 rfl (lv_at hl 0 rfl) ?_
    refine va_get (D := (dC, dI)) (ci := 2) (v := .ref bS) (C := RX2) (T := TX2) (N := 4) hx hb hts hiX2 hown hK hP 2 rfl rfl 3 (by decide) l91 (fun _ h9 => h9) rfl dX1_takeOver_52 ?_
    refine lv_iload_n hx hb dX1_takeOver_55 rfl (lv_at hl 2 rfl) ?_
    refine z_iald hx hb hK hP 6 rfl (zix_nI (by first | assumption | omega) (by decide)) dX1_takeOver_56 ?_
    refine z_tv (v := fS r) (rfl) ?_
    refine z_cMv (is := [9, 10, 11, 12, 13]) (va_runV (As := [.int (nI r), .int (fW r), .int (fV r), .int (fS r)]) (rest := []) ⟨hx, hb, hml, hown, hts⟩ (kX2_keep l dC dI cI cZ cH cJ o0 oT oW oV oS sT sW sV sS r (by first | assumption | omega) (fW r) (fV r) (fS r) H.size) (cwV 4 hts gX1_takeOver_X2_keep rfl rfl rfl (by decide +kernel) ⟨Nat.le_of_ble_eq_true rfl, Nat.le_of_ble_eq_true rfl⟩) (zPreV (is := [9, 10, 11, 12, 13]) hK hP hD (by decide) rfl (va_recv hK hP (ci := 2) (q0 := 9) rfl rfl)) rfl rfl hl.1 rfl (lv_room (Nat.le_of_ble_eq_true rfl)) dX1_takeOver_57 ⟨Nat.le_of_ble_eq_true rfl, Nat.le_of_ble_eq_true rfl⟩) hP hD hS hA rfl (by decide) rfl (fun H locs hP hD hS => ?_)
    have hP : va_P (dC, dI) vwCl ([(h0, .inr (1, [.ref g0, .ref o0, .int mk, .int ho, .int fl, .int od, .int td, .int (zls fT fS iT tS r), .int (nI r), .ref kT])), (g0, .inr (0, [.ref b0, .ref gI, .ref gS, .ref gD, .int un, .int de])), (b0, .inr (2, [.ref bT, .ref bW, .ref bV, .ref bS])), (bT, .inl (cZ, 20, .inl fT)), (bW, .inl (cI, 20, .inl fW)), (bV, .inl (cI, 20, .inl fV)), (bS, .inl (cI, 20, .inl fS)), (gI, .inl (cZ, 20, .inl iT)), (gS, .inl (cI, 20, .inl tS)), (o0, .inr (2, [.ref oT, .ref oW, .ref oV, .ref oS])), (oT, .inl (cZ, 20, .inl (upd sT r 1))), (oW, .inl (cI, 20, .inl (upd sW r (fW r)))), (oV, .inl (cI, 20, .inl (upd sV r (fV r)))), (oS, .inl (cI, 20, .inl (upd sS r (fS r)))), (kT, .inl (cZ, 20, .inl tk))]) H := hP
    have hD : va_D A ([(h0, .inr (1, [.ref g0, .ref o0, .int mk, .int ho, .int fl, .int od, .int td, .int (zls fT fS iT tS r), .int (nI r), .ref kT])), (g0, .inr (0, [.ref b0, .ref gI, .ref gS, .ref gD, .int un, .int de])), (b0, .inr (2, [.ref bT, .ref bW, .ref bV, .ref bS])), (bT, .inl (cZ, 20, .inl fT)), (bW, .inl (cI, 20, .inl fW)), (bV, .inl (cI, 20, .inl fV)), (bS, .inl (cI, 20, .inl fS)), (gI, .inl (cZ, 20, .inl iT)), (gS, .inl (cI, 20, .inl tS)), (o0, .inr (2, [.ref oT, .ref oW, .ref oV, .ref oS])), (oT, .inl (cZ, 20, .inl (upd sT r 1))), (oW, .inl (cI, 20, .inl (upd sW r (fW r)))), (oV, .inl (cI, 20, .inl (upd sV r (fV r)))), (oS, .inl (cI, 20, .inl (upd sS r (fS r)))), (kT, .inl (cZ, 20, .inl tk))]) := hD
    refine lv_aload_n hx hb dX1_takeOver_60 rfl (lv_at hl 1 rfl) ?_
    refine va_get (D := (dC, dI)) (ci := 1) (v := .ref kT) (C := RX1) (T := TX1) (N := 10) hx hb hts hiX1 hown hK hP 0 rfl rfl 9 (by decide) l48 (fun _ h9 => h9) rfl dX1_takeOver_61 ?_
    refine lv_iload_n hx hb dX1_takeOver_64 rfl (lv_at hl 2 rfl) ?_
    refine lv_iconst (v := 1) hx hb dX1_takeOver_65 (by decide) ?_
    refine z_zast (v := 1) hx hb hK hP hD hS 14 rfl (zix_nI (by first | assumption | omega) (by decide)) (rfl) dX1_takeOver_66 (fun H locs hP hD hS => ?_)
    have hP : va_P (dC, dI) vwCl ([(h0, .inr (1, [.ref g0, .ref o0, .int mk, .int ho, .int fl, .int od, .int td, .int (zls fT fS iT tS r), .int (nI r), .ref kT])), (g0, .inr (0, [.ref b0, .ref gI, .ref gS, .ref gD, .int un, .int de])), (b0, .inr (2, [.ref bT, .ref bW, .ref bV, .ref bS])), (bT, .inl (cZ, 20, .inl fT)), (bW, .inl (cI, 20, .inl fW)), (bV, .inl (cI, 20, .inl fV)), (bS, .inl (cI, 20, .inl fS)), (gI, .inl (cZ, 20, .inl iT)), (gS, .inl (cI, 20, .inl tS)), (o0, .inr (2, [.ref oT, .ref oW, .ref oV, .ref oS])), (oT, .inl (cZ, 20, .inl (upd sT r 1))), (oW, .inl (cI, 20, .inl (upd sW r (fW r)))), (oV, .inl (cI, 20, .inl (upd sV r (fV r)))), (oS, .inl (cI, 20, .inl (upd sS r (fS r)))), (kT, .inl (cZ, 20, .inl (upd tk r 1)))]) H := hP
    have hD : va_D A ([(h0, .inr (1, [.ref g0, .ref o0, .int mk, .int ho, .int fl, .int od, .int td, .int (zls fT fS iT tS r), .int (nI r), .ref kT])), (g0, .inr (0, [.ref b0, .ref gI, .ref gS, .ref gD, .int un, .int de])), (b0, .inr (2, [.ref bT, .ref bW, .ref bV, .ref bS])), (bT, .inl (cZ, 20, .inl fT)), (bW, .inl (cI, 20, .inl fW)), (bV, .inl (cI, 20, .inl fV)), (bS, .inl (cI, 20, .inl fS)), (gI, .inl (cZ, 20, .inl iT)), (gS, .inl (cI, 20, .inl tS)), (o0, .inr (2, [.ref oT, .ref oW, .ref oV, .ref oS])), (oT, .inl (cZ, 20, .inl (upd sT r 1))), (oW, .inl (cI, 20, .inl (upd sW r (fW r)))), (oV, .inl (cI, 20, .inl (upd sV r (fV r)))), (oS, .inl (cI, 20, .inl (upd sS r (fS r)))), (kT, .inl (cZ, 20, .inl (upd tk r 1)))]) := hD
    refine lv_goto (tgt := 78) hx hb dX1_takeOver_67 (by decide) ?_
    have hP := zP_eq (ws' := [(h0, .inr (1, [.ref g0, .ref o0, .int mk, .int ho, .int fl, .int od, .int td, .int (zls fT fS iT tS r), .int (nI r), .ref kT])), (g0, .inr (0, [.ref b0, .ref gI, .ref gS, .ref gD, .int un, .int de])), (b0, .inr (2, [.ref bT, .ref bW, .ref bV, .ref bS])), (bT, .inl (cZ, 20, .inl fT)), (bW, .inl (cI, 20, .inl fW)), (bV, .inl (cI, 20, .inl fV)), (bS, .inl (cI, 20, .inl fS)), (gI, .inl (cZ, 20, .inl iT)), (gS, .inl (cI, 20, .inl tS)), (o0, .inr (2, [.ref oT, .ref oW, .ref oV, .ref oS])), (oT, .inl (cZ, 20, .inl (upd sT r (if fT r = 0 then 0 else 1)))), (oW, .inl (cI, 20, .inl (if fT r = 0 then sW else upd sW r (fW r)))), (oV, .inl (cI, 20, .inl (if fT r = 0 then sV else upd sV r (fV r)))), (oS, .inl (cI, 20, .inl (if fT r = 0 then sS else upd sS r (fS r)))), (kT, .inl (cZ, 20, .inl (if fT r = 0 then tk else upd tk r 1)))]) hP (zw_k (zw_k (zw_k (zw_k (zw_k (zw_k (zw_k (zw_k (zw_k (zw_k (zw_a (by simp [c_31]) (zw_a (by simp [c_31]) (zw_a (by simp [c_31]) (zw_a (by simp [c_31]) (zw_a (by simp [c_31]) (rfl))))))))))))))))
    have hD := zD_eq (ws' := [(h0, .inr (1, [.ref g0, .ref o0, .int mk, .int ho, .int fl, .int od, .int td, .int (zls fT fS iT tS r), .int (nI r), .ref kT])), (g0, .inr (0, [.ref b0, .ref gI, .ref gS, .ref gD, .int un, .int de])), (b0, .inr (2, [.ref bT, .ref bW, .ref bV, .ref bS])), (bT, .inl (cZ, 20, .inl fT)), (bW, .inl (cI, 20, .inl fW)), (bV, .inl (cI, 20, .inl fV)), (bS, .inl (cI, 20, .inl fS)), (gI, .inl (cZ, 20, .inl iT)), (gS, .inl (cI, 20, .inl tS)), (o0, .inr (2, [.ref oT, .ref oW, .ref oV, .ref oS])), (oT, .inl (cZ, 20, .inl (upd sT r (if fT r = 0 then 0 else 1)))), (oW, .inl (cI, 20, .inl (if fT r = 0 then sW else upd sW r (fW r)))), (oV, .inl (cI, 20, .inl (if fT r = 0 then sV else upd sV r (fV r)))), (oS, .inl (cI, 20, .inl (if fT r = 0 then sS else upd sS r (fS r)))), (kT, .inl (cZ, 20, .inl (if fT r = 0 then tk else upd tk r 1)))]) hD (zw_k (zw_k (zw_k (zw_k (zw_k (zw_k (zw_k (zw_k (zw_k (zw_k (zw_a (by simp [c_31]) (zw_a (by simp [c_31]) (zw_a (by simp [c_31]) (zw_a (by simp [c_31]) (zw_a (by simp [c_31]) (rfl))))))))))))))))
    exact W.vret hx hb hr (fun t ht hW => ⟨rfl, ⟨by rw [ht]; exact hP, hD⟩, hS.F ht⟩) hS.2.2 dX1_takeOver_78
set_option maxHeartbeats 4000000 in
set_option maxRecDepth 100000 in
/-- Harvest.dropWhatIsGone -/
theorem kX1_dropWhatIsGone (l : Launch) (dC : Nat → ClassId) (dI : Nat → Nat → Nat) (cI cZ cH cJ : ClassId) (h0 : Nat) (g0 : Nat) (o0 : Nat) (kT : Nat) (mk : Int32) (ho : Int32) (fl : Int32) (od : Int32) (td : Int32) (ps : Int32) (pr : Int32) (oT : Nat) (oW : Nat) (oV : Nat) (oS : Nat) (sT : zI) (tk : zI) (sz : Nat) : Met l yX1_dropWhatIsGone wsX1_dropWhatIsGone ({ frames := 1, cells := 0, slots := 0, locals := 21 }) (zPc dC dI (zTy cI cZ cH cJ) [.ref h0] sz ([(h0, .inr (1, [.ref g0, .ref o0, .int mk, .int ho, .int fl, .int od, .int td, .int ps, .int pr, .ref kT])), (o0, .inr (2, [.ref oT, .ref oW, .ref oV, .ref oS])), (oT, .inl (cZ, 20, .inl sT)), (kT, .inl (cZ, 20, .inl tk))])) (zQv dC dI ([(h0, .inr (1, [.ref g0, .ref o0, .int mk, .int ho, .int fl, .int od, .int td, .int ps, .int pr, .ref kT])), (o0, .inr (2, [.ref oT, .ref oW, .ref oV, .ref oS])), (oT, .inl (cZ, 20, .inl (zdrp sT tk 20))), (kT, .inl (cZ, 20, .inl tk))]) (va_A ([(h0, .inr (1, [.ref g0, .ref o0, .int mk, .int ho, .int fl, .int od, .int td, .int ps, .int pr, .ref kT])), (o0, .inr (2, [.ref oT, .ref oW, .ref oV, .ref oS])), (oT, .inl (cZ, 20, .inl sT)), (kT, .inl (cZ, 20, .inl tk))]) sz)) 0 0 (va_A ([(h0, .inr (1, [.ref g0, .ref o0, .int mk, .int ho, .int fl, .int od, .int td, .int ps, .int pr, .ref kT])), (o0, .inr (2, [.ref oT, .ref oW, .ref oV, .ref oS])), (oT, .inl (cZ, 20, .inl sT)), (kT, .inl (cZ, 20, .inl tk))]) sz) := by
  refine Met.ofW (cc := cX1_dropWhatIsGone) (maxL := 2) (ret := none) (by decide) rfl ?_
  intro p e s m args below meth c s₁ B hml hv0
  obtain ⟨rfl, hsz, hP, hK, hD0⟩ := hv0
  have hx := B.exec
  have hb := B.bytes
  have hr := B.returns
  have hts := atoms_spec (ws := wsX1_dropWhatIsGone) B.pre
  have hown : s.vm.findClass RX1 = some m.cls := findClass_of_methodNamed B.named
  have hlocks := B.notSynchronized
  subst hsz
  have hD := hD0.self (sz := s.heap.size)
  generalize hAe : va_A ([(h0, .inr (1, [.ref g0, .ref o0, .int mk, .int ho, .int fl, .int od, .int td, .int ps, .int pr, .ref kT])), (o0, .inr (2, [.ref oT, .ref oW, .ref oV, .ref oS])), (oT, .inl (cZ, 20, .inl sT)), (kT, .inl (cZ, 20, .inl tk))]) s.heap.size = A at hD ⊢
  have hA : ∀ q : Nat, s.heap.size ≤ q → A q := fun q h => by rw [← hAe]; exact Or.inr h
  have hS : va_S A s.heap s.heap [] := va_S.rf
  have hl := lv_entry ([.ref h0]) (n := 2) (Nat.le_of_ble_eq_true rfl)
  rw [lg_entry_eq]
  generalize (lg_sl ([.ref h0]) ++ List.replicate (2 - (lg_sl ([.ref h0])).length) Slot.unset).toArray = ls at hl ⊢
  have hl : lv_has ls 2 [(0, .ref h0)] := hl
  have hiX1 : ∀ w ∈ wsX10, w ∈ wsX1_dropWhatIsGone := by decide +kernel
  have l21 := hts (.fieldLink RX1 21 "CatalogueHarvester$Harvest" "store" "LCatalogueHarvester$Records;") (by decide +kernel)
  have l48 := hts (.fieldLink RX1 48 "CatalogueHarvester$Harvest" "isTakenOver" "[Z") (by decide +kernel)
  refine lv_iconst (v := 0) hx hb dX1_dropWhatIsGone_0 (by decide) ?_
  refine lv_istore_n (lv' := [(1, .int 0), (0, .ref h0)]) hx hb dX1_dropWhatIsGone_1 rfl hl (by decide) rfl (fun ls hl => ?_)
  have LOOP1 : ∀ (n i : Nat), i ≤ 20 → 20 < i + n → ∀ (H : Heap) (locs : List Loc), va_P (dC, dI) vwCl ([(h0, .inr (1, [.ref g0, .ref o0, .int mk, .int ho, .int fl, .int od, .int td, .int ps, .int pr, .ref kT])), (o0, .inr (2, [.ref oT, .ref oW, .ref oV, .ref oS])), (oT, .inl (cZ, 20, .inl (zdrp sT tk i))), (kT, .inl (cZ, 20, .inl tk))]) H → va_D A ([(h0, .inr (1, [.ref g0, .ref o0, .int mk, .int ho, .int fl, .int od, .int td, .int ps, .int pr, .ref kT])), (o0, .inr (2, [.ref oT, .ref oW, .ref oV, .ref oS])), (oT, .inl (cZ, 20, .inl (zdrp sT tk i))), (kT, .inl (cZ, 20, .inl tk))]) → va_S A s.heap H locs → ∀ (ls : Array Slot), lv_has ls 2 [(0, .ref h0), (1, .int (nI i))] → W p l e (headSpec wsX1_dropWhatIsGone ({ frames := 1, cells := 0, slots := 0, locals := 21 })).room s m ([.ref h0] : List Value).toArray below meth c H locs 0 0 (MQ below (zQv dC dI ([(h0, .inr (1, [.ref g0, .ref o0, .int mk, .int ho, .int fl, .int od, .int td, .int ps, .int pr, .ref kT])), (o0, .inr (2, [.ref oT, .ref oW, .ref oV, .ref oS])), (oT, .inl (cZ, 20, .inl (zdrp sT tk 20))), (kT, .inl (cZ, 20, .inl tk))]) A) ([.ref h0] : List Value).toArray s 0 0 A) (F0 m 2 ls []) := by
    intro n
    induction n with
    | zero => intro i h1 h2; exact absurd h2 (by omega)
    | succ n ih =>
      intro i hi hin  H locs hP hD hS ls hl
      refine lv_iload_n hx hb dX1_dropWhatIsGone_2 rfl (lv_at hl 1 rfl) ?_
      refine lv_bipush (v := 20) hx hb dX1_dropWhatIsGone_3 (by decide) ?_
      refine lv_icmp_ge (tgt := 31) hx hb dX1_dropWhatIsGone_5 (by decide) (fun c_5 => ?_) (fun c_5 => ?_)
      · skip
        have e20 : i = 20 := z_ge (n := 20) hi (by decide) c_5
        subst e20
        exact W.vret hx hb hr (fun t ht hW => ⟨rfl, ⟨by rw [ht]; exact hP, hD⟩, hS.F ht⟩) hS.2.2 dX1_dropWhatIsGone_31
      · skip
        have hlt : i < 20 := z_lt (n := 20) hi (by decide) c_5
        refine lv_aload_n hx hb dX1_dropWhatIsGone_8 rfl (lv_at hl 0 rfl) ?_
        refine va_get (D := (dC, dI)) (ci := 1) (v := .ref kT) (C := RX1) (T := TX1) (N := 10) hx hb hts hiX1 hown hK hP 0 rfl rfl 9 (by decide) l48 (fun _ h9 => h9) rfl dX1_dropWhatIsGone_9 ?_
        refine lv_iload_n hx hb dX1_dropWhatIsGone_12 rfl (lv_at hl 1 rfl) ?_
        refine z_zald hx hb hK hP 3 rfl (zix_nI (by first | assumption | omega) (by decide)) dX1_dropWhatIsGone_13 ?_
        refine z_tv (v := tk i) (rfl) ?_
        refine lv_if_ne (tgt := 25) hx hb dX1_dropWhatIsGone_14 (by decide) (fun c_14 => ?_) (fun c_14 => ?_)
        · skip
          refine lv_iinc (v := nI (i + 1)) (lv' := [(1, .int (nI (i + 1))), (0, .ref h0)]) hx hb dX1_dropWhatIsGone_25 hl (k := 1) rfl (z_1) (by decide) rfl (fun ls hl => ?_)
          refine lv_goto (tgt := 2) hx hb dX1_dropWhatIsGone_28 (by decide) ?_
          exact ih (i + 1) (by omega) (by omega)  _ _ (zP_eq hP (zw_k (zw_k (zw_a (by first | exact zdrp_n c_14 | exact zdrp_y (by grind)) (zw_k (rfl)))))) (zD_eq hD (zw_k (zw_k (zw_a (by first | exact zdrp_n c_14 | exact zdrp_y (by grind)) (zw_k (rfl)))))) hS _ (lv_sub hl [1, 0] rfl)
        · skip
          refine lv_aload_n hx hb dX1_dropWhatIsGone_17 rfl (lv_at hl 0 rfl) ?_
          refine va_get (D := (dC, dI)) (ci := 1) (v := .ref o0) (C := RX1) (T := TX1) (N := 10) hx hb hts hiX1 hown hK hP 0 rfl rfl 1 (by decide) l21 (fun _ h9 => h9) rfl dX1_dropWhatIsGone_18 ?_
          refine lv_iload_n hx hb dX1_dropWhatIsGone_21 rfl (lv_at hl 1 rfl) ?_
          refine z_cMv (is := [1, 2]) (va_runV (As := [.int (nI i)]) (rest := []) ⟨hx, hb, hml, hown, hts⟩ (kX2_drop l dC dI cI cZ cH cJ o0 oT oW oV oS (zdrp sT tk i) i (by first | assumption | omega) H.size) (cwV 1 hts gX1_dropWhatIsGone_X2_drop rfl rfl rfl (by decide +kernel) ⟨Nat.le_of_ble_eq_true rfl, Nat.le_of_ble_eq_true rfl⟩) (zPreV (is := [1, 2]) hK hP hD (by decide) rfl (va_recv hK hP (ci := 2) (q0 := 1) rfl rfl)) rfl rfl hl.1 rfl (lv_room (Nat.le_of_ble_eq_true rfl)) dX1_dropWhatIsGone_22 ⟨Nat.le_of_ble_eq_true rfl, Nat.le_of_ble_eq_true rfl⟩) hP hD hS hA rfl (by decide) rfl (fun H locs hP hD hS => ?_)
          have hP : va_P (dC, dI) vwCl ([(h0, .inr (1, [.ref g0, .ref o0, .int mk, .int ho, .int fl, .int od, .int td, .int ps, .int pr, .ref kT])), (o0, .inr (2, [.ref oT, .ref oW, .ref oV, .ref oS])), (oT, .inl (cZ, 20, .inl (upd (zdrp sT tk i) i 0))), (kT, .inl (cZ, 20, .inl tk))]) H := hP
          have hD : va_D A ([(h0, .inr (1, [.ref g0, .ref o0, .int mk, .int ho, .int fl, .int od, .int td, .int ps, .int pr, .ref kT])), (o0, .inr (2, [.ref oT, .ref oW, .ref oV, .ref oS])), (oT, .inl (cZ, 20, .inl (upd (zdrp sT tk i) i 0))), (kT, .inl (cZ, 20, .inl tk))]) := hD
          refine lv_iinc (v := nI (i + 1)) (lv' := [(1, .int (nI (i + 1))), (0, .ref h0)]) hx hb dX1_dropWhatIsGone_25 hl (k := 1) rfl (z_1) (by decide) rfl (fun ls hl => ?_)
          refine lv_goto (tgt := 2) hx hb dX1_dropWhatIsGone_28 (by decide) ?_
          exact ih (i + 1) (by omega) (by omega)  _ _ (zP_eq hP (zw_k (zw_k (zw_a (by first | exact zdrp_n c_14 | exact zdrp_y (by grind)) (zw_k (rfl)))))) (zD_eq hD (zw_k (zw_k (zw_a (by first | exact zdrp_n c_14 | exact zdrp_y (by grind)) (zw_k (rfl)))))) hS _ (lv_sub hl [1, 0] rfl)
  exact LOOP1 (20 + 1) 0 (by omega) (by omega)  _ _ (zP_eq hP (zw_k (zw_k (zw_a (zdrp_0) (zw_k (rfl)))))) (zD_eq hD (zw_k (zw_k (zw_a (zdrp_0) (zw_k (rfl)))))) hS _ (lv_cg (lv_sub (l' := [(0, .ref h0), (1, .int 0)]) hl [1, 0] rfl) (zl_k (zl_c (rfl) (rfl))))
set_option maxHeartbeats 4000000 in
set_option maxRecDepth 100000 in
/-- Harvest.finish -/
theorem kX1_finish (l : Launch) (dC : Nat → ClassId) (dI : Nat → Nat → Nat) (cI cZ cH cJ : ClassId) (h0 : Nat) (g0 : Nat) (o0 : Nat) (kT : Nat) (mk : Int32) (ho : Int32) (fl : Int32) (od : Int32) (td : Int32) (ps : Int32) (pr : Int32) (b0 : Nat) (gI : Nat) (gS : Nat) (gD : Nat) (oT : Nat) (oW : Nat) (oV : Nat) (oS : Nat) (un : Int32) (de : Int32) (sT : zI) (tk : zI) (sz : Nat) : Met l yX1_finish wsX1_finish ({ frames := 2, cells := 0, slots := 0, locals := 42 }) (zPc dC dI (zTy cI cZ cH cJ) [.ref h0] sz ([(h0, .inr (1, [.ref g0, .ref o0, .int mk, .int ho, .int fl, .int od, .int td, .int ps, .int pr, .ref kT])), (g0, .inr (0, [.ref b0, .ref gI, .ref gS, .ref gD, .int un, .int de])), (o0, .inr (2, [.ref oT, .ref oW, .ref oV, .ref oS])), (oT, .inl (cZ, 20, .inl sT)), (kT, .inl (cZ, 20, .inl tk))])) (zQv dC dI ([(h0, .inr (1, [.ref g0, .ref o0, .int (zst un od), .int 0, .int fl, .int od, .int td, .int ps, .int pr, .ref kT])), (g0, .inr (0, [.ref b0, .ref gI, .ref gS, .ref gD, .int un, .int de])), (o0, .inr (2, [.ref oT, .ref oW, .ref oV, .ref oS])), (oT, .inl (cZ, 20, .inl (if fl = 0 then sT else zdrp sT tk 20))), (kT, .inl (cZ, 20, .inl tk))]) (va_A ([(h0, .inr (1, [.ref g0, .ref o0, .int mk, .int ho, .int fl, .int od, .int td, .int ps, .int pr, .ref kT])), (g0, .inr (0, [.ref b0, .ref gI, .ref gS, .ref gD, .int un, .int de])), (o0, .inr (2, [.ref oT, .ref oW, .ref oV, .ref oS])), (oT, .inl (cZ, 20, .inl sT)), (kT, .inl (cZ, 20, .inl tk))]) sz)) 0 0 (va_A ([(h0, .inr (1, [.ref g0, .ref o0, .int mk, .int ho, .int fl, .int od, .int td, .int ps, .int pr, .ref kT])), (g0, .inr (0, [.ref b0, .ref gI, .ref gS, .ref gD, .int un, .int de])), (o0, .inr (2, [.ref oT, .ref oW, .ref oV, .ref oS])), (oT, .inl (cZ, 20, .inl sT)), (kT, .inl (cZ, 20, .inl tk))]) sz) := by
  refine Met.ofW (cc := cX1_finish) (maxL := 1) (ret := none) (by decide) rfl ?_
  intro p e s m args below meth c s₁ B hml hv0
  obtain ⟨rfl, hsz, hP, hK, hD0⟩ := hv0
  have hx := B.exec
  have hb := B.bytes
  have hr := B.returns
  have hts := atoms_spec (ws := wsX1_finish) B.pre
  have hown : s.vm.findClass RX1 = some m.cls := findClass_of_methodNamed B.named
  have hlocks := B.notSynchronized
  subst hsz
  have hD := hD0.self (sz := s.heap.size)
  generalize hAe : va_A ([(h0, .inr (1, [.ref g0, .ref o0, .int mk, .int ho, .int fl, .int od, .int td, .int ps, .int pr, .ref kT])), (g0, .inr (0, [.ref b0, .ref gI, .ref gS, .ref gD, .int un, .int de])), (o0, .inr (2, [.ref oT, .ref oW, .ref oV, .ref oS])), (oT, .inl (cZ, 20, .inl sT)), (kT, .inl (cZ, 20, .inl tk))]) s.heap.size = A at hD ⊢
  have hA : ∀ q : Nat, s.heap.size ≤ q → A q := fun q h => by rw [← hAe]; exact Or.inr h
  have hS : va_S A s.heap s.heap [] := va_S.rf
  have hl := lv_entry ([.ref h0]) (n := 1) (Nat.le_of_ble_eq_true rfl)
  rw [lg_entry_eq]
  generalize (lg_sl ([.ref h0]) ++ List.replicate (1 - (lg_sl ([.ref h0])).length) Slot.unset).toArray = ls at hl ⊢
  have hl : lv_has ls 1 [(0, .ref h0)] := hl
  have hiX1 : ∀ w ∈ wsX10, w ∈ wsX1_finish := by decide +kernel
  have l12 := hts (.fieldLink RX1 12 "CatalogueHarvester$Harvest" "far" "LCatalogueHarvester$FarCatalogue;") (by decide +kernel)
  have l25 := hts (.fieldLink RX1 25 "CatalogueHarvester$Harvest" "mark" "I") (by decide +kernel)
  have l29 := hts (.fieldLink RX1 29 "CatalogueHarvester$Harvest" "hasOpenList" "Z") (by decide +kernel)
  have l33 := hts (.fieldLink RX1 33 "CatalogueHarvester$Harvest" "isFullList" "Z") (by decide +kernel)
  have l36 := hts (.fieldLink RX1 36 "CatalogueHarvester$Harvest" "openingDay" "I") (by decide +kernel)
  refine lv_aload_n hx hb dX1_finish_0 rfl (lv_at hl 0 rfl) ?_
  refine lv_iconst (v := 0) hx hb dX1_finish_1 (by decide) ?_
  refine va_put (D := (dC, dI)) (ci := 1) (v := .int 0) (ty := .boolean) (C := RX1) (T := TX1) (N := 10) hx hb hts hiX1 tyX1 tyX1_ok nmX1 hown hK hP hD hS 0 rfl rfl 3 (by decide) l29 (fun _ h9 => h9) rfl (by decide +kernel) (rfl) (rfl) (Nat.le_of_ble_eq_true rfl) dX1_finish_2 (fun H locs hP hD hS => ?_)
  have hP : va_P (dC, dI) vwCl ([(h0, .inr (1, [.ref g0, .ref o0, .int mk, .int 0, .int fl, .int od, .int td, .int ps, .int pr, .ref kT])), (g0, .inr (0, [.ref b0, .ref gI, .ref gS, .ref gD, .int un, .int de])), (o0, .inr (2, [.ref oT, .ref oW, .ref oV, .ref oS])), (oT, .inl (cZ, 20, .inl sT)), (kT, .inl (cZ, 20, .inl tk))]) H := hP
  have hD : va_D A ([(h0, .inr (1, [.ref g0, .ref o0, .int mk, .int 0, .int fl, .int od, .int td, .int ps, .int pr, .ref kT])), (g0, .inr (0, [.ref b0, .ref gI, .ref gS, .ref gD, .int un, .int de])), (o0, .inr (2, [.ref oT, .ref oW, .ref oV, .ref oS])), (oT, .inl (cZ, 20, .inl sT)), (kT, .inl (cZ, 20, .inl tk))]) := hD
  refine lv_aload_n hx hb dX1_finish_5 rfl (lv_at hl 0 rfl) ?_
  refine lv_aload_n hx hb dX1_finish_6 rfl (lv_at hl 0 rfl) ?_
  refine va_get (D := (dC, dI)) (ci := 1) (v := .ref g0) (C := RX1) (T := TX1) (N := 10) hx hb hts hiX1 hown hK hP 0 rfl rfl 0 (by decide) l12 (fun _ h9 => h9) rfl dX1_finish_7 ?_
  refine lv_aload_n hx hb dX1_finish_10 rfl (lv_at hl 0 rfl) ?_
  refine va_get (D := (dC, dI)) (ci := 1) (v := .int od) (C := RX1) (T := TX1) (N := 10) hx hb hts hiX1 hown hK hP 0 rfl rfl 5 (by decide) l36 (fun _ h9 => h9) rfl dX1_finish_11 ?_
  refine z_cRi (va_runV (As := [.int od]) (rest := [.ref h0]) ⟨hx, hb, hml, hown, hts⟩ (kX0_stampOfDay l dC dI cI cZ cH cJ g0 b0 gI gS gD un de od) (cwV 1 hts gX1_finish_X0_stampOfDay rfl rfl rfl (by decide +kernel) ⟨Nat.le_of_ble_eq_true rfl, Nat.le_of_ble_eq_true rfl⟩) (zPreR (is := [1]) hK hP rfl (va_recv hK hP (ci := 0) (q0 := 1) rfl rfl)) rfl rfl hl.1 rfl (lv_room (Nat.le_of_ble_eq_true rfl)) dX1_finish_14 ⟨Nat.le_of_ble_eq_true rfl, Nat.le_of_ble_eq_true rfl⟩) ?_
  refine z_tv (v := zst un od) rfl ?_
  refine va_put (D := (dC, dI)) (ci := 1) (v := .int (zst un od)) (ty := .int) (C := RX1) (T := TX1) (N := 10) hx hb hts hiX1 tyX1 tyX1_ok nmX1 hown hK hP hD hS 0 rfl rfl 2 (by decide) l25 (fun _ h9 => h9) rfl (by decide +kernel) (rfl) (rfl) (Nat.le_of_ble_eq_true rfl) dX1_finish_17 (fun H locs hP hD hS => ?_)
  have hP : va_P (dC, dI) vwCl ([(h0, .inr (1, [.ref g0, .ref o0, .int (zst un od), .int 0, .int fl, .int od, .int td, .int ps, .int pr, .ref kT])), (g0, .inr (0, [.ref b0, .ref gI, .ref gS, .ref gD, .int un, .int de])), (o0, .inr (2, [.ref oT, .ref oW, .ref oV, .ref oS])), (oT, .inl (cZ, 20, .inl sT)), (kT, .inl (cZ, 20, .inl tk))]) H := hP
  have hD : va_D A ([(h0, .inr (1, [.ref g0, .ref o0, .int (zst un od), .int 0, .int fl, .int od, .int td, .int ps, .int pr, .ref kT])), (g0, .inr (0, [.ref b0, .ref gI, .ref gS, .ref gD, .int un, .int de])), (o0, .inr (2, [.ref oT, .ref oW, .ref oV, .ref oS])), (oT, .inl (cZ, 20, .inl sT)), (kT, .inl (cZ, 20, .inl tk))]) := hD
  refine lv_aload_n hx hb dX1_finish_20 rfl (lv_at hl 0 rfl) ?_
  refine va_get (D := (dC, dI)) (ci := 1) (v := .int fl) (C := RX1) (T := TX1) (N := 10) hx hb hts hiX1 hown hK hP 0 rfl rfl 4 (by decide) l33 (fun _ h9 => h9) rfl dX1_finish_21 ?_
  refine lv_if_eq (tgt := 31) hx hb dX1_finish_24 (by decide) (fun c_24 => ?_) (fun c_24 => ?_)
  · skip
    have hP := zP_eq (ws' := [(h0, .inr (1, [.ref g0, .ref o0, .int (zst un od), .int 0, .int fl, .int od, .int td, .int ps, .int pr, .ref kT])), (g0, .inr (0, [.ref b0, .ref gI, .ref gS, .ref gD, .int un, .int de])), (o0, .inr (2, [.ref oT, .ref oW, .ref oV, .ref oS])), (oT, .inl (cZ, 20, .inl (if fl = 0 then sT else zdrp sT tk 20))), (kT, .inl (cZ, 20, .inl tk))]) hP (zw_k (zw_k (zw_k (zw_a (by simp [c_24]) (zw_k (rfl))))))
    have hD := zD_eq (ws' := [(h0, .inr (1, [.ref g0, .ref o0, .int (zst un od), .int 0, .int fl, .int od, .int td, .int ps, .int pr, .ref kT])), (g0, .inr (0, [.ref b0, .ref gI, .ref gS, .ref gD, .int un, .int de])), (o0, .inr (2, [.ref oT, .ref oW, .ref oV, .ref oS])), (oT, .inl (cZ, 20, .inl (if fl = 0 then sT else zdrp sT tk 20))), (kT, .inl (cZ, 20, .inl tk))]) hD (zw_k (zw_k (zw_k (zw_a (by simp [c_24]) (zw_k (rfl))))))
    exact W.vret hx hb hr (fun t ht hW => ⟨rfl, ⟨by rw [ht]; exact hP, hD⟩, hS.F ht⟩) hS.2.2 dX1_finish_31
  · skip
    refine lv_aload_n hx hb dX1_finish_27 rfl (lv_at hl 0 rfl) ?_
    refine z_cMv (is := [0, 2, 3, 4]) (va_runV (As := []) (rest := []) ⟨hx, hb, hml, hown, hts⟩ (kX1_dropWhatIsGone l dC dI cI cZ cH cJ h0 g0 o0 kT (zst un od) 0 fl od td ps pr oT oW oV oS sT tk H.size) (cwV 0 hts gX1_finish_X1_dropWhatIsGone rfl rfl rfl (by decide +kernel) ⟨Nat.le_of_ble_eq_true rfl, Nat.le_of_ble_eq_true rfl⟩) (zPreV (is := [0, 2, 3, 4]) hK hP hD (by decide) rfl (va_recv hK hP (ci := 1) (q0 := 0) rfl rfl)) rfl rfl hl.1 rfl (lv_room (Nat.le_of_ble_eq_true rfl)) dX1_finish_28 ⟨Nat.le_of_ble_eq_true rfl, Nat.le_of_ble_eq_true rfl⟩) hP hD hS hA rfl (by decide) rfl (fun H locs hP hD hS => ?_)
    have hP : va_P (dC, dI) vwCl ([(h0, .inr (1, [.ref g0, .ref o0, .int (zst un od), .int 0, .int fl, .int od, .int td, .int ps, .int pr, .ref kT])), (g0, .inr (0, [.ref b0, .ref gI, .ref gS, .ref gD, .int un, .int de])), (o0, .inr (2, [.ref oT, .ref oW, .ref oV, .ref oS])), (oT, .inl (cZ, 20, .inl (zdrp sT tk 20))), (kT, .inl (cZ, 20, .inl tk))]) H := hP
    have hD : va_D A ([(h0, .inr (1, [.ref g0, .ref o0, .int (zst un od), .int 0, .int fl, .int od, .int td, .int ps, .int pr, .ref kT])), (g0, .inr (0, [.ref b0, .ref gI, .ref gS, .ref gD, .int un, .int de])), (o0, .inr (2, [.ref oT, .ref oW, .ref oV, .ref oS])), (oT, .inl (cZ, 20, .inl (zdrp sT tk 20))), (kT, .inl (cZ, 20, .inl tk))]) := hD
    have hP := zP_eq (ws' := [(h0, .inr (1, [.ref g0, .ref o0, .int (zst un od), .int 0, .int fl, .int od, .int td, .int ps, .int pr, .ref kT])), (g0, .inr (0, [.ref b0, .ref gI, .ref gS, .ref gD, .int un, .int de])), (o0, .inr (2, [.ref oT, .ref oW, .ref oV, .ref oS])), (oT, .inl (cZ, 20, .inl (if fl = 0 then sT else zdrp sT tk 20))), (kT, .inl (cZ, 20, .inl tk))]) hP (zw_k (zw_k (zw_k (zw_a (by simp [c_24]) (zw_k (rfl))))))
    have hD := zD_eq (ws' := [(h0, .inr (1, [.ref g0, .ref o0, .int (zst un od), .int 0, .int fl, .int od, .int td, .int ps, .int pr, .ref kT])), (g0, .inr (0, [.ref b0, .ref gI, .ref gS, .ref gD, .int un, .int de])), (o0, .inr (2, [.ref oT, .ref oW, .ref oV, .ref oS])), (oT, .inl (cZ, 20, .inl (if fl = 0 then sT else zdrp sT tk 20))), (kT, .inl (cZ, 20, .inl tk))]) hD (zw_k (zw_k (zw_k (zw_a (by simp [c_24]) (zw_k (rfl))))))
    exact W.vret hx hb hr (fun t ht hW => ⟨rfl, ⟨by rw [ht]; exact hP, hD⟩, hS.F ht⟩) hS.2.2 dX1_finish_31
set_option maxHeartbeats 4000000 in
set_option maxRecDepth 100000 in
/-- Harvest.takePage -/
theorem kX1_takePage (l : Launch) (dC : Nat → ClassId) (dI : Nat → Nat → Nat) (cI cZ cH cJ : ClassId) (h0 : Nat) (g0 : Nat) (o0 : Nat) (kT : Nat) (mk : Int32) (ho : Int32) (fl : Int32) (od : Int32) (td : Int32) (ps : Int32) (pr : Int32) (b0 : Nat) (gI : Nat) (gS : Nat) (gD : Nat) (bT : Nat) (bW : Nat) (bV : Nat) (bS : Nat) (oT : Nat) (oW : Nat) (oV : Nat) (oS : Nat) (un : Int32) (de : Int32) (fT : zI) (fW : zI) (fV : zI) (fS : zI) (iT : zI) (tS : zI) (sT : zI) (sW : zI) (sV : zI) (sS : zI) (tk : zI) (today : Int32) (hff : fl = 0 ∨ fl = 1) (res' : Int32) (mk' : Int32) (ho' : Int32) (od' : Int32) (ps' : Int32) (pr' : Int32) (sT' : zI) (sW' : zI) (sV' : zI) (sS' : zI) (tk' : zI) (hsp : ztp fT fW fV fS (zls fT fS iT tS) un today mk ho fl od td (ps, pr, sT, sW, sV, sS, tk) = (res', mk', ho', od', ps', pr', sT', sW', sV', sS', tk')) (sz : Nat) : Met l yX1_takePage wsX1_takePage ({ frames := 3, cells := 0, slots := 0, locals := 70 }) (zPc dC dI (zTy cI cZ cH cJ) [.ref h0, .int today] sz ([(h0, .inr (1, [.ref g0, .ref o0, .int mk, .int ho, .int fl, .int od, .int td, .int ps, .int pr, .ref kT])), (g0, .inr (0, [.ref b0, .ref gI, .ref gS, .ref gD, .int un, .int de])), (b0, .inr (2, [.ref bT, .ref bW, .ref bV, .ref bS])), (bT, .inl (cZ, 20, .inl fT)), (bW, .inl (cI, 20, .inl fW)), (bV, .inl (cI, 20, .inl fV)), (bS, .inl (cI, 20, .inl fS)), (gI, .inl (cZ, 20, .inl iT)), (gS, .inl (cI, 20, .inl tS)), (o0, .inr (2, [.ref oT, .ref oW, .ref oV, .ref oS])), (oT, .inl (cZ, 20, .inl sT)), (oW, .inl (cI, 20, .inl sW)), (oV, .inl (cI, 20, .inl sV)), (oS, .inl (cI, 20, .inl sS)), (kT, .inl (cZ, 20, .inl tk))])) (zQi dC dI res' ([(h0, .inr (1, [.ref g0, .ref o0, .int mk', .int ho', .int fl, .int od', .int today, .int ps', .int pr', .ref kT])), (g0, .inr (0, [.ref b0, .ref gI, .ref gS, .ref gD, .int un, .int de])), (b0, .inr (2, [.ref bT, .ref bW, .ref bV, .ref bS])), (bT, .inl (cZ, 20, .inl fT)), (bW, .inl (cI, 20, .inl fW)), (bV, .inl (cI, 20, .inl fV)), (bS, .inl (cI, 20, .inl fS)), (gI, .inl (cZ, 20, .inl iT)), (gS, .inl (cI, 20, .inl tS)), (o0, .inr (2, [.ref oT, .ref oW, .ref oV, .ref oS])), (oT, .inl (cZ, 20, .inl sT')), (oW, .inl (cI, 20, .inl sW')), (oV, .inl (cI, 20, .inl sV')), (oS, .inl (cI, 20, .inl sS')), (kT, .inl (cZ, 20, .inl tk'))]) (va_A ([(h0, .inr (1, [.ref g0, .ref o0, .int mk, .int ho, .int fl, .int od, .int td, .int ps, .int pr, .ref kT])), (g0, .inr (0, [.ref b0, .ref gI, .ref gS, .ref gD, .int un, .int de])), (b0, .inr (2, [.ref bT, .ref bW, .ref bV, .ref bS])), (bT, .inl (cZ, 20, .inl fT)), (bW, .inl (cI, 20, .inl fW)), (bV, .inl (cI, 20, .inl fV)), (bS, .inl (cI, 20, .inl fS)), (gI, .inl (cZ, 20, .inl iT)), (gS, .inl (cI, 20, .inl tS)), (o0, .inr (2, [.ref oT, .ref oW, .ref oV, .ref oS])), (oT, .inl (cZ, 20, .inl sT)), (oW, .inl (cI, 20, .inl sW)), (oV, .inl (cI, 20, .inl sV)), (oS, .inl (cI, 20, .inl sS)), (kT, .inl (cZ, 20, .inl tk))]) sz)) 0 0 (va_A ([(h0, .inr (1, [.ref g0, .ref o0, .int mk, .int ho, .int fl, .int od, .int td, .int ps, .int pr, .ref kT])), (g0, .inr (0, [.ref b0, .ref gI, .ref gS, .ref gD, .int un, .int de])), (b0, .inr (2, [.ref bT, .ref bW, .ref bV, .ref bS])), (bT, .inl (cZ, 20, .inl fT)), (bW, .inl (cI, 20, .inl fW)), (bV, .inl (cI, 20, .inl fV)), (bS, .inl (cI, 20, .inl fS)), (gI, .inl (cZ, 20, .inl iT)), (gS, .inl (cI, 20, .inl tS)), (o0, .inr (2, [.ref oT, .ref oW, .ref oV, .ref oS])), (oT, .inl (cZ, 20, .inl sT)), (oW, .inl (cI, 20, .inl sW)), (oV, .inl (cI, 20, .inl sV)), (oS, .inl (cI, 20, .inl sS)), (kT, .inl (cZ, 20, .inl tk))]) sz) := by
  refine Met.ofW (cc := cX1_takePage) (maxL := 4) (ret := (some .int)) (by decide) rfl ?_
  intro p e s m args below meth c s₁ B hml hv0
  obtain ⟨rfl, hsz, hP, hK, hD0⟩ := hv0
  have hx := B.exec
  have hb := B.bytes
  have hr := B.returns
  have hts := atoms_spec (ws := wsX1_takePage) B.pre
  have hown : s.vm.findClass RX1 = some m.cls := findClass_of_methodNamed B.named
  have hlocks := B.notSynchronized
  subst hsz
  have hD := hD0.self (sz := s.heap.size)
  generalize hAe : va_A ([(h0, .inr (1, [.ref g0, .ref o0, .int mk, .int ho, .int fl, .int od, .int td, .int ps, .int pr, .ref kT])), (g0, .inr (0, [.ref b0, .ref gI, .ref gS, .ref gD, .int un, .int de])), (b0, .inr (2, [.ref bT, .ref bW, .ref bV, .ref bS])), (bT, .inl (cZ, 20, .inl fT)), (bW, .inl (cI, 20, .inl fW)), (bV, .inl (cI, 20, .inl fV)), (bS, .inl (cI, 20, .inl fS)), (gI, .inl (cZ, 20, .inl iT)), (gS, .inl (cI, 20, .inl tS)), (o0, .inr (2, [.ref oT, .ref oW, .ref oV, .ref oS])), (oT, .inl (cZ, 20, .inl sT)), (oW, .inl (cI, 20, .inl sW)), (oV, .inl (cI, 20, .inl sV)), (oS, .inl (cI, 20, .inl sS)), (kT, .inl (cZ, 20, .inl tk))]) s.heap.size = A at hD ⊢
  have hA : ∀ q : Nat, s.heap.size ≤ q → A q := fun q h => by rw [← hAe]; exact Or.inr h
  have hS : va_S A s.heap s.heap [] := va_S.rf
  have hl := lv_entry ([.ref h0, .int today]) (n := 4) (Nat.le_of_ble_eq_true rfl)
  rw [lg_entry_eq]
  generalize (lg_sl ([.ref h0, .int today]) ++ List.replicate (4 - (lg_sl ([.ref h0, .int today])).length) Slot.unset).toArray = ls at hl ⊢
  have hl : lv_has ls 4 [(0, .ref h0), (1, .int today)] := hl
  have hiX1 : ∀ w ∈ wsX10, w ∈ wsX1_takePage := by decide +kernel
  have l33 := hts (.fieldLink RX1 33 "CatalogueHarvester$Harvest" "isFullList" "Z") (by decide +kernel)
  have l39 := hts (.fieldLink RX1 39 "CatalogueHarvester$Harvest" "tokenDay" "I") (by decide +kernel)
  refine lv_iload_n hx hb dX1_takePage_0 rfl (lv_at hl 1 rfl) ?_
  refine lv_aload_n hx hb dX1_takePage_1 rfl (lv_at hl 0 rfl) ?_
  refine va_get (D := (dC, dI)) (ci := 1) (v := .int td) (C := RX1) (T := TX1) (N := 10) hx hb hts hiX1 hown hK hP 0 rfl rfl 6 (by decide) l39 (fun _ h9 => h9) rfl dX1_takePage_2 ?_
  refine lv_isub hx hb dX1_takePage_5 ?_
  refine lv_iconst (v := 5) hx hb dX1_takePage_6 (by decide) ?_
  refine lv_icmp_le (tgt := 19) hx hb dX1_takePage_7 (by decide) (fun c_7 => ?_) (fun c_7 => ?_)
  · skip
    rw [ztp, if_pos c_7] at hsp
    refine lv_aload_n hx hb dX1_takePage_19 rfl (lv_at hl 0 rfl) ?_
    refine lv_iload_n hx hb dX1_takePage_20 rfl (lv_at hl 1 rfl) ?_
    refine va_put (D := (dC, dI)) (ci := 1) (v := .int today) (ty := .int) (C := RX1) (T := TX1) (N := 10) hx hb hts hiX1 tyX1 tyX1_ok nmX1 hown hK hP hD hS 0 rfl rfl 6 (by decide) l39 (fun _ h9 => h9) rfl (by decide +kernel) (rfl) (rfl) (Nat.le_of_ble_eq_true rfl) dX1_takePage_21 (fun H locs hP hD hS => ?_)
    have hP : va_P (dC, dI) vwCl ([(h0, .inr (1, [.ref g0, .ref o0, .int mk, .int ho, .int fl, .int od, .int today, .int ps, .int pr, .ref kT])), (g0, .inr (0, [.ref b0, .ref gI, .ref gS, .ref gD, .int un, .int de])), (b0, .inr (2, [.ref bT, .ref bW, .ref bV, .ref bS])), (bT, .inl (cZ, 20, .inl fT)), (bW, .inl (cI, 20, .inl fW)), (bV, .inl (cI, 20, .inl fV)), (bS, .inl (cI, 20, .inl fS)), (gI, .inl (cZ, 20, .inl iT)), (gS, .inl (cI, 20, .inl tS)), (o0, .inr (2, [.ref oT, .ref oW, .ref oV, .ref oS])), (oT, .inl (cZ, 20, .inl sT)), (oW, .inl (cI, 20, .inl sW)), (oV, .inl (cI, 20, .inl sV)), (oS, .inl (cI, 20, .inl sS)), (kT, .inl (cZ, 20, .inl tk))]) H := hP
    have hD : va_D A ([(h0, .inr (1, [.ref g0, .ref o0, .int mk, .int ho, .int fl, .int od, .int today, .int ps, .int pr, .ref kT])), (g0, .inr (0, [.ref b0, .ref gI, .ref gS, .ref gD, .int un, .int de])), (b0, .inr (2, [.ref bT, .ref bW, .ref bV, .ref bS])), (bT, .inl (cZ, 20, .inl fT)), (bW, .inl (cI, 20, .inl fW)), (bV, .inl (cI, 20, .inl fV)), (bS, .inl (cI, 20, .inl fS)), (gI, .inl (cZ, 20, .inl iT)), (gS, .inl (cI, 20, .inl tS)), (o0, .inr (2, [.ref oT, .ref oW, .ref oV, .ref oS])), (oT, .inl (cZ, 20, .inl sT)), (oW, .inl (cI, 20, .inl sW)), (oV, .inl (cI, 20, .inl sV)), (oS, .inl (cI, 20, .inl sS)), (kT, .inl (cZ, 20, .inl tk))]) := hD
    refine lv_iconst (v := 0) hx hb dX1_takePage_24 (by decide) ?_
    refine lv_istore_n (lv' := [(2, .int 0), (0, .ref h0), (1, .int today)]) hx hb dX1_takePage_25 rfl hl (by decide) rfl (fun ls hl => ?_)
    refine lv_aload_n hx hb dX1_takePage_26 rfl (lv_at hl 1 rfl) ?_
    refine z_cRi (va_runV (As := []) (rest := []) ⟨hx, hb, hml, hown, hts⟩ (kX1_nextOfList l dC dI cI cZ cH cJ h0 g0 o0 kT mk ho fl od today ps pr b0 gI gS gD bT bW bV bS un de fT fS iT tS) (cwV 0 hts gX1_takePage_X1_nextOfList rfl rfl rfl (by decide +kernel) ⟨Nat.le_of_ble_eq_true rfl, Nat.le_of_ble_eq_true rfl⟩) (zPreR (is := [0, 1, 2, 3, 6, 7, 8]) hK hP rfl (va_recv hK hP (ci := 1) (q0 := 0) rfl rfl)) rfl rfl hl.1 rfl (lv_room (Nat.le_of_ble_eq_true rfl)) dX1_takePage_27 ⟨Nat.le_of_ble_eq_true rfl, Nat.le_of_ble_eq_true rfl⟩) ?_
    refine z_tv (v := (znx (zls fT fS iT tS) (if fl = 0 then mk else 0) ps pr 20).1) rfl ?_
    refine lv_istore_n (lv' := [(3, .int ((znx (zls fT fS iT tS) (if fl = 0 then mk else 0) ps pr 20).1)), (2, .int 0), (0, .ref h0), (1, .int today)]) hx hb dX1_takePage_30 rfl hl (by decide) rfl (fun ls hl => ?_)
    have LOOP1 : ∀ (n i : Nat), i ≤ 3 → 3 < i + n → ∀ (ps pr : Int32) (sT sW sV sS tk : zI), zte (zls fT fS iT tS) (if fl = 0 then mk else 0) un mk ho fl od (zpg fT fW fV fS (zls fT fS iT tS) (if fl = 0 then mk else 0) (3 - i) (ps, pr, sT, sW, sV, sS, tk) (nI i)) = (res', mk', ho', od', ps', pr', sT', sW', sV', sS', tk') → ∀ (H : Heap) (locs : List Loc), va_P (dC, dI) vwCl ([(h0, .inr (1, [.ref g0, .ref o0, .int mk, .int ho, .int fl, .int od, .int today, .int ps, .int pr, .ref kT])), (g0, .inr (0, [.ref b0, .ref gI, .ref gS, .ref gD, .int un, .int de])), (b0, .inr (2, [.ref bT, .ref bW, .ref bV, .ref bS])), (bT, .inl (cZ, 20, .inl fT)), (bW, .inl (cI, 20, .inl fW)), (bV, .inl (cI, 20, .inl fV)), (bS, .inl (cI, 20, .inl fS)), (gI, .inl (cZ, 20, .inl iT)), (gS, .inl (cI, 20, .inl tS)), (o0, .inr (2, [.ref oT, .ref oW, .ref oV, .ref oS])), (oT, .inl (cZ, 20, .inl sT)), (oW, .inl (cI, 20, .inl sW)), (oV, .inl (cI, 20, .inl sV)), (oS, .inl (cI, 20, .inl sS)), (kT, .inl (cZ, 20, .inl tk))]) H → va_D A ([(h0, .inr (1, [.ref g0, .ref o0, .int mk, .int ho, .int fl, .int od, .int today, .int ps, .int pr, .ref kT])), (g0, .inr (0, [.ref b0, .ref gI, .ref gS, .ref gD, .int un, .int de])), (b0, .inr (2, [.ref bT, .ref bW, .ref bV, .ref bS])), (bT, .inl (cZ, 20, .inl fT)), (bW, .inl (cI, 20, .inl fW)), (bV, .inl (cI, 20, .inl fV)), (bS, .inl (cI, 20, .inl fS)), (gI, .inl (cZ, 20, .inl iT)), (gS, .inl (cI, 20, .inl tS)), (o0, .inr (2, [.ref oT, .ref oW, .ref oV, .ref oS])), (oT, .inl (cZ, 20, .inl sT)), (oW, .inl (cI, 20, .inl sW)), (oV, .inl (cI, 20, .inl sV)), (oS, .inl (cI, 20, .inl sS)), (kT, .inl (cZ, 20, .inl tk))]) → va_S A s.heap H locs → ∀ (ls : Array Slot), lv_has ls 4 [(0, .ref h0), (1, .int today), (2, .int (nI i)), (3, .int ((znx (zls fT fS iT tS) (if fl = 0 then mk else 0) ps pr 20).1))] → W p l e (headSpec wsX1_takePage ({ frames := 3, cells := 0, slots := 0, locals := 70 })).room s m ([.ref h0, .int today] : List Value).toArray below meth c H locs 0 0 (MQ below (zQi dC dI res' ([(h0, .inr (1, [.ref g0, .ref o0, .int mk', .int ho', .int fl, .int od', .int today, .int ps', .int pr', .ref kT])), (g0, .inr (0, [.ref b0, .ref gI, .ref gS, .ref gD, .int un, .int de])), (b0, .inr (2, [.ref bT, .ref bW, .ref bV, .ref bS])), (bT, .inl (cZ, 20, .inl fT)), (bW, .inl (cI, 20, .inl fW)), (bV, .inl (cI, 20, .inl fV)), (bS, .inl (cI, 20, .inl fS)), (gI, .inl (cZ, 20, .inl iT)), (gS, .inl (cI, 20, .inl tS)), (o0, .inr (2, [.ref oT, .ref oW, .ref oV, .ref oS])), (oT, .inl (cZ, 20, .inl sT')), (oW, .inl (cI, 20, .inl sW')), (oV, .inl (cI, 20, .inl sV')), (oS, .inl (cI, 20, .inl sS')), (kT, .inl (cZ, 20, .inl tk'))]) A) ([.ref h0, .int today] : List Value).toArray s 0 0 A) (F0 m 31 ls []) := by
      intro n
      induction n with
      | zero => intro i h1 h2; exact absurd h2 (by omega)
      | succ n ih =>
        intro i hi hin ps pr sT sW sV sS tk hz H locs hP hD hS ls hl
        refine lv_iload_n hx hb dX1_takePage_31 rfl (lv_at hl 3 rfl) ?_
        refine lv_iconst (v := (-1)) hx hb dX1_takePage_32 (by decide) ?_
        refine lv_icmp_eq (tgt := 57) hx hb dX1_takePage_33 (by decide) (fun c_33 => ?_) (fun c_33 => ?_)
        · skip
          rw [zpg_e (x := (ps, pr, sT, sW, sV, sS, tk)) c_33, zte, if_pos c_33] at hz
          simp only [Prod.mk.injEq] at hz
          obtain ⟨e1, e2, e3, e4, e5, e6, e7, e8, e9, e10, e11⟩ := hz
          refine lv_iload_n hx hb dX1_takePage_57 rfl (lv_at hl 3 rfl) ?_
          refine lv_iconst (v := (-1)) hx hb dX1_takePage_58 (by decide) ?_
          refine lv_icmp_ne (tgt := 66) hx hb dX1_takePage_59 (by decide) (fun c_59 => ?_) (fun c_59 => ?_)
          · exact absurd c_33 c_59
          · skip
            refine lv_aload_n hx hb dX1_takePage_62 rfl (lv_at hl 0 rfl) ?_
            refine z_cMv (is := [0, 1, 9, 10, 14]) (va_runV (As := []) (rest := []) ⟨hx, hb, hml, hown, hts⟩ (kX1_finish l dC dI cI cZ cH cJ h0 g0 o0 kT mk ho fl od today ps pr b0 gI gS gD oT oW oV oS un de sT tk H.size) (cwV 0 hts gX1_takePage_X1_finish rfl rfl rfl (by decide +kernel) ⟨Nat.le_of_ble_eq_true rfl, Nat.le_of_ble_eq_true rfl⟩) (zPreV (is := [0, 1, 9, 10, 14]) hK hP hD (by decide) rfl (va_recv hK hP (ci := 1) (q0 := 0) rfl rfl)) rfl rfl hl.1 rfl (lv_room (Nat.le_of_ble_eq_true rfl)) dX1_takePage_63 ⟨Nat.le_of_ble_eq_true rfl, Nat.le_of_ble_eq_true rfl⟩) hP hD hS hA rfl (by decide) rfl (fun H locs hP hD hS => ?_)
            have hP : va_P (dC, dI) vwCl ([(h0, .inr (1, [.ref g0, .ref o0, .int (zst un od), .int 0, .int fl, .int od, .int today, .int ps, .int pr, .ref kT])), (g0, .inr (0, [.ref b0, .ref gI, .ref gS, .ref gD, .int un, .int de])), (b0, .inr (2, [.ref bT, .ref bW, .ref bV, .ref bS])), (bT, .inl (cZ, 20, .inl fT)), (bW, .inl (cI, 20, .inl fW)), (bV, .inl (cI, 20, .inl fV)), (bS, .inl (cI, 20, .inl fS)), (gI, .inl (cZ, 20, .inl iT)), (gS, .inl (cI, 20, .inl tS)), (o0, .inr (2, [.ref oT, .ref oW, .ref oV, .ref oS])), (oT, .inl (cZ, 20, .inl (if fl = 0 then sT else zdrp sT tk 20))), (oW, .inl (cI, 20, .inl sW)), (oV, .inl (cI, 20, .inl sV)), (oS, .inl (cI, 20, .inl sS)), (kT, .inl (cZ, 20, .inl tk))]) H := hP
            have hD : va_D A ([(h0, .inr (1, [.ref g0, .ref o0, .int (zst un od), .int 0, .int fl, .int od, .int today, .int ps, .int pr, .ref kT])), (g0, .inr (0, [.ref b0, .ref gI, .ref gS, .ref gD, .int un, .int de])), (b0, .inr (2, [.ref bT, .ref bW, .ref bV, .ref bS])), (bT, .inl (cZ, 20, .inl fT)), (bW, .inl (cI, 20, .inl fW)), (bV, .inl (cI, 20, .inl fV)), (bS, .inl (cI, 20, .inl fS)), (gI, .inl (cZ, 20, .inl iT)), (gS, .inl (cI, 20, .inl tS)), (o0, .inr (2, [.ref oT, .ref oW, .ref oV, .ref oS])), (oT, .inl (cZ, 20, .inl (if fl = 0 then sT else zdrp sT tk 20))), (oW, .inl (cI, 20, .inl sW)), (oV, .inl (cI, 20, .inl sV)), (oS, .inl (cI, 20, .inl sS)), (kT, .inl (cZ, 20, .inl tk))]) := hD
            refine lv_iload_n hx hb dX1_takePage_66 rfl (lv_at hl 2 rfl) ?_
            refine z_tv (v := res') (e1) ?_
            have hP := zP_eq (ws' := [(h0, .inr (1, [.ref g0, .ref o0, .int mk', .int ho', .int fl, .int od', .int today, .int ps', .int pr', .ref kT])), (g0, .inr (0, [.ref b0, .ref gI, .ref gS, .ref gD, .int un, .int de])), (b0, .inr (2, [.ref bT, .ref bW, .ref bV, .ref bS])), (bT, .inl (cZ, 20, .inl fT)), (bW, .inl (cI, 20, .inl fW)), (bV, .inl (cI, 20, .inl fV)), (bS, .inl (cI, 20, .inl fS)), (gI, .inl (cZ, 20, .inl iT)), (gS, .inl (cI, 20, .inl tS)), (o0, .inr (2, [.ref oT, .ref oW, .ref oV, .ref oS])), (oT, .inl (cZ, 20, .inl sT')), (oW, .inl (cI, 20, .inl sW')), (oV, .inl (cI, 20, .inl sV')), (oS, .inl (cI, 20, .inl sS')), (kT, .inl (cZ, 20, .inl tk'))]) hP (zw_o (zv_k (zv_k (zv_c (e2) (zv_c (e3) (zv_k (zv_c (e4) (zv_k (zv_c (e5) (zv_c (e6) (zv_k (rfl))))))))))) (zw_k (zw_k (zw_k (zw_k (zw_k (zw_k (zw_k (zw_k (zw_k (zw_a (e7) (zw_a (e8) (zw_a (e9) (zw_a (e10) (zw_a (e11) (rfl))))))))))))))))
            have hD := zD_eq (ws' := [(h0, .inr (1, [.ref g0, .ref o0, .int mk', .int ho', .int fl, .int od', .int today, .int ps', .int pr', .ref kT])), (g0, .inr (0, [.ref b0, .ref gI, .ref gS, .ref gD, .int un, .int de])), (b0, .inr (2, [.ref bT, .ref bW, .ref bV, .ref bS])), (bT, .inl (cZ, 20, .inl fT)), (bW, .inl (cI, 20, .inl fW)), (bV, .inl (cI, 20, .inl fV)), (bS, .inl (cI, 20, .inl fS)), (gI, .inl (cZ, 20, .inl iT)), (gS, .inl (cI, 20, .inl tS)), (o0, .inr (2, [.ref oT, .ref oW, .ref oV, .ref oS])), (oT, .inl (cZ, 20, .inl sT')), (oW, .inl (cI, 20, .inl sW')), (oV, .inl (cI, 20, .inl sV')), (oS, .inl (cI, 20, .inl sS')), (kT, .inl (cZ, 20, .inl tk'))]) hD (zw_o (zv_k (zv_k (zv_c (e2) (zv_c (e3) (zv_k (zv_c (e4) (zv_k (zv_c (e5) (zv_c (e6) (zv_k (rfl))))))))))) (zw_k (zw_k (zw_k (zw_k (zw_k (zw_k (zw_k (zw_k (zw_k (zw_a (e7) (zw_a (e8) (zw_a (e9) (zw_a (e10) (zw_a (e11) (rfl))))))))))))))))
            exact W.iret hx hb hr (fun t ht hW => ⟨rfl, ⟨by rw [ht]; exact hP, hD⟩, hS.F ht⟩) hS.2.2 dX1_takePage_67
        · skip
          obtain ⟨r, hrr, er⟩ := znx_ne c_33
          refine lv_iload_n hx hb dX1_takePage_36 rfl (lv_at hl 2 rfl) ?_
          refine lv_iconst (v := 3) hx hb dX1_takePage_37 (by decide) ?_
          refine lv_icmp_ge (tgt := 57) hx hb dX1_takePage_38 (by decide) (fun c_38 => ?_) (fun c_38 => ?_)
          · skip
            have e20 : i = 3 := z_ge (n := 3) hi (by decide) c_38
            subst e20
            rw [Nat.sub_self, zpg, zte, if_neg c_33] at hz
            simp only [Prod.mk.injEq] at hz
            obtain ⟨e1, e2, e3, e4, e5, e6, e7, e8, e9, e10, e11⟩ := hz
            refine lv_iload_n hx hb dX1_takePage_57 rfl (lv_at hl 3 rfl) ?_
            refine lv_iconst (v := (-1)) hx hb dX1_takePage_58 (by decide) ?_
            refine lv_icmp_ne (tgt := 66) hx hb dX1_takePage_59 (by decide) (fun c_59 => ?_) (fun c_59 => ?_)
            · skip
              refine lv_iload_n hx hb dX1_takePage_66 rfl (lv_at hl 2 rfl) ?_
              refine z_tv (v := res') (e1) ?_
              have hP := zP_eq (ws' := [(h0, .inr (1, [.ref g0, .ref o0, .int mk', .int ho', .int fl, .int od', .int today, .int ps', .int pr', .ref kT])), (g0, .inr (0, [.ref b0, .ref gI, .ref gS, .ref gD, .int un, .int de])), (b0, .inr (2, [.ref bT, .ref bW, .ref bV, .ref bS])), (bT, .inl (cZ, 20, .inl fT)), (bW, .inl (cI, 20, .inl fW)), (bV, .inl (cI, 20, .inl fV)), (bS, .inl (cI, 20, .inl fS)), (gI, .inl (cZ, 20, .inl iT)), (gS, .inl (cI, 20, .inl tS)), (o0, .inr (2, [.ref oT, .ref oW, .ref oV, .ref oS])), (oT, .inl (cZ, 20, .inl sT')), (oW, .inl (cI, 20, .inl sW')), (oV, .inl (cI, 20, .inl sV')), (oS, .inl (cI, 20, .inl sS')), (kT, .inl (cZ, 20, .inl tk'))]) hP (zw_o (zv_k (zv_k (zv_c (e2) (zv_c (e3) (zv_k (zv_c (e4) (zv_k (zv_c (e5) (zv_c (e6) (zv_k (rfl))))))))))) (zw_k (zw_k (zw_k (zw_k (zw_k (zw_k (zw_k (zw_k (zw_k (zw_a (e7) (zw_a (e8) (zw_a (e9) (zw_a (e10) (zw_a (e11) (rfl))))))))))))))))
              have hD := zD_eq (ws' := [(h0, .inr (1, [.ref g0, .ref o0, .int mk', .int ho', .int fl, .int od', .int today, .int ps', .int pr', .ref kT])), (g0, .inr (0, [.ref b0, .ref gI, .ref gS, .ref gD, .int un, .int de])), (b0, .inr (2, [.ref bT, .ref bW, .ref bV, .ref bS])), (bT, .inl (cZ, 20, .inl fT)), (bW, .inl (cI, 20, .inl fW)), (bV, .inl (cI, 20, .inl fV)), (bS, .inl (cI, 20, .inl fS)), (gI, .inl (cZ, 20, .inl iT)), (gS, .inl (cI, 20, .inl tS)), (o0, .inr (2, [.ref oT, .ref oW, .ref oV, .ref oS])), (oT, .inl (cZ, 20, .inl sT')), (oW, .inl (cI, 20, .inl sW')), (oV, .inl (cI, 20, .inl sV')), (oS, .inl (cI, 20, .inl sS')), (kT, .inl (cZ, 20, .inl tk'))]) hD (zw_o (zv_k (zv_k (zv_c (e2) (zv_c (e3) (zv_k (zv_c (e4) (zv_k (zv_c (e5) (zv_c (e6) (zv_k (rfl))))))))))) (zw_k (zw_k (zw_k (zw_k (zw_k (zw_k (zw_k (zw_k (zw_k (zw_a (e7) (zw_a (e8) (zw_a (e9) (zw_a (e10) (zw_a (e11) (rfl))))))))))))))))
              exact W.iret hx hb hr (fun t ht hW => ⟨rfl, ⟨by rw [ht]; exact hP, hD⟩, hS.F ht⟩) hS.2.2 dX1_takePage_67
            · exact absurd c_59 c_33
          · skip
            have hk3 : i < 3 := z_lt (n := 3) hi (by decide) c_38
            rw [er] at hl
            refine lv_aload_n hx hb dX1_takePage_41 rfl (lv_at hl 0 rfl) ?_
            refine lv_iload_n hx hb dX1_takePage_42 rfl (lv_at hl 3 rfl) ?_
            refine z_cMv (is := [0, 1, 2, 3, 4, 5, 6, 7, 8, 9, 10, 11, 12, 13, 14]) (va_runV (As := [.int (nI r)]) (rest := []) ⟨hx, hb, hml, hown, hts⟩ (kX1_takeOver l dC dI cI cZ cH cJ h0 g0 o0 kT mk ho fl od today ps pr b0 gI gS gD bT bW bV bS oT oW oV oS un de fT fW fV fS iT tS sT sW sV sS tk r (by first | assumption | omega) H.size) (cwV 1 hts gX1_takePage_X1_takeOver rfl rfl rfl (by decide +kernel) ⟨Nat.le_of_ble_eq_true rfl, Nat.le_of_ble_eq_true rfl⟩) (zPreV (is := [0, 1, 2, 3, 4, 5, 6, 7, 8, 9, 10, 11, 12, 13, 14]) hK hP hD (by decide) rfl (va_recv hK hP (ci := 1) (q0 := 0) rfl rfl)) rfl rfl hl.1 rfl (lv_room (Nat.le_of_ble_eq_true rfl)) dX1_takePage_43 ⟨Nat.le_of_ble_eq_true rfl, Nat.le_of_ble_eq_true rfl⟩) hP hD hS hA rfl (by decide) rfl (fun H locs hP hD hS => ?_)
            have hP : va_P (dC, dI) vwCl ([(h0, .inr (1, [.ref g0, .ref o0, .int mk, .int ho, .int fl, .int od, .int today, .int (zls fT fS iT tS r), .int (nI r), .ref kT])), (g0, .inr (0, [.ref b0, .ref gI, .ref gS, .ref gD, .int un, .int de])), (b0, .inr (2, [.ref bT, .ref bW, .ref bV, .ref bS])), (bT, .inl (cZ, 20, .inl fT)), (bW, .inl (cI, 20, .inl fW)), (bV, .inl (cI, 20, .inl fV)), (bS, .inl (cI, 20, .inl fS)), (gI, .inl (cZ, 20, .inl iT)), (gS, .inl (cI, 20, .inl tS)), (o0, .inr (2, [.ref oT, .ref oW, .ref oV, .ref oS])), (oT, .inl (cZ, 20, .inl (upd sT r (if fT r = 0 then 0 else 1)))), (oW, .inl (cI, 20, .inl (if fT r = 0 then sW else upd sW r (fW r)))), (oV, .inl (cI, 20, .inl (if fT r = 0 then sV else upd sV r (fV r)))), (oS, .inl (cI, 20, .inl (if fT r = 0 then sS else upd sS r (fS r)))), (kT, .inl (cZ, 20, .inl (if fT r = 0 then tk else upd tk r 1)))]) H := hP
            have hD : va_D A ([(h0, .inr (1, [.ref g0, .ref o0, .int mk, .int ho, .int fl, .int od, .int today, .int (zls fT fS iT tS r), .int (nI r), .ref kT])), (g0, .inr (0, [.ref b0, .ref gI, .ref gS, .ref gD, .int un, .int de])), (b0, .inr (2, [.ref bT, .ref bW, .ref bV, .ref bS])), (bT, .inl (cZ, 20, .inl fT)), (bW, .inl (cI, 20, .inl fW)), (bV, .inl (cI, 20, .inl fV)), (bS, .inl (cI, 20, .inl fS)), (gI, .inl (cZ, 20, .inl iT)), (gS, .inl (cI, 20, .inl tS)), (o0, .inr (2, [.ref oT, .ref oW, .ref oV, .ref oS])), (oT, .inl (cZ, 20, .inl (upd sT r (if fT r = 0 then 0 else 1)))), (oW, .inl (cI, 20, .inl (if fT r = 0 then sW else upd sW r (fW r)))), (oV, .inl (cI, 20, .inl (if fT r = 0 then sV else upd sV r (fV r)))), (oS, .inl (cI, 20, .inl (if fT r = 0 then sS else upd sS r (fS r)))), (kT, .inl (cZ, 20, .inl (if fT r = 0 then tk else upd tk r 1)))]) := hD
            refine lv_iinc (v := nI (i + 1)) (lv' := [(2, .int (nI (i + 1))), (0, .ref h0), (1, .int today), (3, .int (nI r))]) hx hb dX1_takePage_46 hl (k := 2) rfl (z_1) (by decide) rfl (fun ls hl => ?_)
            refine lv_aload_n hx hb dX1_takePage_49 rfl (lv_at hl 1 rfl) ?_
            refine z_cRi (va_runV (As := []) (rest := []) ⟨hx, hb, hml, hown, hts⟩ (kX1_nextOfList l dC dI cI cZ cH cJ h0 g0 o0 kT mk ho fl od today (zls fT fS iT tS r) (nI r) b0 gI gS gD bT bW bV bS un de fT fS iT tS) (cwV 0 hts gX1_takePage_X1_nextOfList rfl rfl rfl (by decide +kernel) ⟨Nat.le_of_ble_eq_true rfl, Nat.le_of_ble_eq_true rfl⟩) (zPreR (is := [0, 1, 2, 3, 6, 7, 8]) hK hP rfl (va_recv hK hP (ci := 1) (q0 := 0) rfl rfl)) rfl rfl hl.1 rfl (lv_room (Nat.le_of_ble_eq_true rfl)) dX1_takePage_50 ⟨Nat.le_of_ble_eq_true rfl, Nat.le_of_ble_eq_true rfl⟩) ?_
            refine z_tv (v := (znx (zls fT fS iT tS) (if fl = 0 then mk else 0) (zls fT fS iT tS r) (nI r) 20).1) rfl ?_
            refine lv_istore_n (lv' := [(3, .int ((znx (zls fT fS iT tS) (if fl = 0 then mk else 0) (zls fT fS iT tS r) (nI r) 20).1)), (2, .int (nI (i + 1))), (0, .ref h0), (1, .int today)]) hx hb dX1_takePage_53 rfl hl (by decide) rfl (fun ls hl => ?_)
            refine lv_goto (tgt := 31) hx hb dX1_takePage_54 (by decide) ?_
            rw [zpg_s (x := (ps, pr, sT, sW, sV, sS, tk)) c_33 er hrr hk3] at hz
            exact ih (i + 1) (by omega) (by omega) (zls fT fS iT tS r) (nI r) (upd sT r (if fT r = 0 then 0 else 1)) (if fT r = 0 then sW else upd sW r (fW r)) (if fT r = 0 then sV else upd sV r (fV r)) (if fT r = 0 then sS else upd sS r (fS r)) (if fT r = 0 then tk else upd tk r 1) hz _ _ hP hD hS _ (lv_sub hl [2, 3, 1, 0] rfl)
    exact LOOP1 (3 + 1) 0 (by omega) (by omega) ps pr sT sW sV sS tk hsp _ _ hP hD hS _ (lv_cg (lv_sub (l' := [(0, .ref h0), (1, .int today), (2, .int 0), (3, .int ((znx (zls fT fS iT tS) (if fl = 0 then mk else 0) ps pr 20).1))]) hl [2, 3, 1, 0] rfl) (zl_k (zl_k (zl_c (rfl) (zl_k (rfl))))))
  · skip
    rw [ztp, if_neg c_7] at hsp
    refine lv_aload_n hx hb dX1_takePage_10 rfl (lv_at hl 0 rfl) ?_
    refine lv_aload_n hx hb dX1_takePage_11 rfl (lv_at hl 0 rfl) ?_
    refine va_get (D := (dC, dI)) (ci := 1) (v := .int fl) (C := RX1) (T := TX1) (N := 10) hx hb hts hiX1 hown hK hP 0 rfl rfl 4 (by decide) l33 (fun _ h9 => h9) rfl dX1_takePage_12 ?_
    refine lv_iload_n hx hb dX1_takePage_15 rfl (lv_at hl 1 rfl) ?_
    refine z_cMv (is := [0, 14]) (va_runV (As := [.int fl, .int today]) (rest := []) ⟨hx, hb, hml, hown, hts⟩ (kX1_begin l dC dI cI cZ cH cJ h0 g0 o0 kT mk ho fl od td ps pr tk fl (by first | assumption | omega) today s.heap.size) (cwV 2 hts gX1_takePage_X1_begin rfl rfl rfl (by decide +kernel) ⟨Nat.le_of_ble_eq_true rfl, Nat.le_of_ble_eq_true rfl⟩) (zPreV (is := [0, 14]) hK hP hD (by decide) rfl (va_recv hK hP (ci := 1) (q0 := 0) rfl rfl)) rfl rfl hl.1 rfl (lv_room (Nat.le_of_ble_eq_true rfl)) dX1_takePage_16 ⟨Nat.le_of_ble_eq_true rfl, Nat.le_of_ble_eq_true rfl⟩) hP hD hS hA rfl (by decide) rfl (fun H locs hP hD hS => ?_)
    have hP : va_P (dC, dI) vwCl ([(h0, .inr (1, [.ref g0, .ref o0, .int mk, .int 1, .int fl, .int today, .int today, .int (-1), .int (-1), .ref kT])), (g0, .inr (0, [.ref b0, .ref gI, .ref gS, .ref gD, .int un, .int de])), (b0, .inr (2, [.ref bT, .ref bW, .ref bV, .ref bS])), (bT, .inl (cZ, 20, .inl fT)), (bW, .inl (cI, 20, .inl fW)), (bV, .inl (cI, 20, .inl fV)), (bS, .inl (cI, 20, .inl fS)), (gI, .inl (cZ, 20, .inl iT)), (gS, .inl (cI, 20, .inl tS)), (o0, .inr (2, [.ref oT, .ref oW, .ref oV, .ref oS])), (oT, .inl (cZ, 20, .inl sT)), (oW, .inl (cI, 20, .inl sW)), (oV, .inl (cI, 20, .inl sV)), (oS, .inl (cI, 20, .inl sS)), (kT, .inl (cZ, 20, .inl (zclr tk 20)))]) H := hP
    have hD : va_D A ([(h0, .inr (1, [.ref g0, .ref o0, .int mk, .int 1, .int fl, .int today, .int today, .int (-1), .int (-1), .ref kT])), (g0, .inr (0, [.ref b0, .ref gI, .ref gS, .ref gD, .int un, .int de])), (b0, .inr (2, [.ref bT, .ref bW, .ref bV, .ref bS])), (bT, .inl (cZ, 20, .inl fT)), (bW, .inl (cI, 20, .inl fW)), (bV, .inl (cI, 20, .inl fV)), (bS, .inl (cI, 20, .inl fS)), (gI, .inl (cZ, 20, .inl iT)), (gS, .inl (cI, 20, .inl tS)), (o0, .inr (2, [.ref oT, .ref oW, .ref oV, .ref oS])), (oT, .inl (cZ, 20, .inl sT)), (oW, .inl (cI, 20, .inl sW)), (oV, .inl (cI, 20, .inl sV)), (oS, .inl (cI, 20, .inl sS)), (kT, .inl (cZ, 20, .inl (zclr tk 20)))]) := hD
    refine lv_aload_n hx hb dX1_takePage_19 rfl (lv_at hl 0 rfl) ?_
    refine lv_iload_n hx hb dX1_takePage_20 rfl (lv_at hl 1 rfl) ?_
    refine va_put (D := (dC, dI)) (ci := 1) (v := .int today) (ty := .int) (C := RX1) (T := TX1) (N := 10) hx hb hts hiX1 tyX1 tyX1_ok nmX1 hown hK hP hD hS 0 rfl rfl 6 (by decide) l39 (fun _ h9 => h9) rfl (by decide +kernel) (rfl) (rfl) (Nat.le_of_ble_eq_true rfl) dX1_takePage_21 (fun H locs hP hD hS => ?_)
    have hP : va_P (dC, dI) vwCl ([(h0, .inr (1, [.ref g0, .ref o0, .int mk, .int 1, .int fl, .int today, .int today, .int (-1), .int (-1), .ref kT])), (g0, .inr (0, [.ref b0, .ref gI, .ref gS, .ref gD, .int un, .int de])), (b0, .inr (2, [.ref bT, .ref bW, .ref bV, .ref bS])), (bT, .inl (cZ, 20, .inl fT)), (bW, .inl (cI, 20, .inl fW)), (bV, .inl (cI, 20, .inl fV)), (bS, .inl (cI, 20, .inl fS)), (gI, .inl (cZ, 20, .inl iT)), (gS, .inl (cI, 20, .inl tS)), (o0, .inr (2, [.ref oT, .ref oW, .ref oV, .ref oS])), (oT, .inl (cZ, 20, .inl sT)), (oW, .inl (cI, 20, .inl sW)), (oV, .inl (cI, 20, .inl sV)), (oS, .inl (cI, 20, .inl sS)), (kT, .inl (cZ, 20, .inl (zclr tk 20)))]) H := hP
    have hD : va_D A ([(h0, .inr (1, [.ref g0, .ref o0, .int mk, .int 1, .int fl, .int today, .int today, .int (-1), .int (-1), .ref kT])), (g0, .inr (0, [.ref b0, .ref gI, .ref gS, .ref gD, .int un, .int de])), (b0, .inr (2, [.ref bT, .ref bW, .ref bV, .ref bS])), (bT, .inl (cZ, 20, .inl fT)), (bW, .inl (cI, 20, .inl fW)), (bV, .inl (cI, 20, .inl fV)), (bS, .inl (cI, 20, .inl fS)), (gI, .inl (cZ, 20, .inl iT)), (gS, .inl (cI, 20, .inl tS)), (o0, .inr (2, [.ref oT, .ref oW, .ref oV, .ref oS])), (oT, .inl (cZ, 20, .inl sT)), (oW, .inl (cI, 20, .inl sW)), (oV, .inl (cI, 20, .inl sV)), (oS, .inl (cI, 20, .inl sS)), (kT, .inl (cZ, 20, .inl (zclr tk 20)))]) := hD
    refine lv_iconst (v := 0) hx hb dX1_takePage_24 (by decide) ?_
    refine lv_istore_n (lv' := [(2, .int 0), (0, .ref h0), (1, .int today)]) hx hb dX1_takePage_25 rfl hl (by decide) rfl (fun ls hl => ?_)
    refine lv_aload_n hx hb dX1_takePage_26 rfl (lv_at hl 1 rfl) ?_
    refine z_cRi (va_runV (As := []) (rest := []) ⟨hx, hb, hml, hown, hts⟩ (kX1_nextOfList l dC dI cI cZ cH cJ h0 g0 o0 kT mk 1 fl today today (-1) (-1) b0 gI gS gD bT bW bV bS un de fT fS iT tS) (cwV 0 hts gX1_takePage_X1_nextOfList rfl rfl rfl (by decide +kernel) ⟨Nat.le_of_ble_eq_true rfl, Nat.le_of_ble_eq_true rfl⟩) (zPreR (is := [0, 1, 2, 3, 6, 7, 8]) hK hP rfl (va_recv hK hP (ci := 1) (q0 := 0) rfl rfl)) rfl rfl hl.1 rfl (lv_room (Nat.le_of_ble_eq_true rfl)) dX1_takePage_27 ⟨Nat.le_of_ble_eq_true rfl, Nat.le_of_ble_eq_true rfl⟩) ?_
    refine z_tv (v := (znx (zls fT fS iT tS) (if fl = 0 then mk else 0) (-1) (-1) 20).1) rfl ?_
    refine lv_istore_n (lv' := [(3, .int ((znx (zls fT fS iT tS) (if fl = 0 then mk else 0) (-1) (-1) 20).1)), (2, .int 0), (0, .ref h0), (1, .int today)]) hx hb dX1_takePage_30 rfl hl (by decide) rfl (fun ls hl => ?_)
    have LOOP2 : ∀ (n i : Nat), i ≤ 3 → 3 < i + n → ∀ (ps pr : Int32) (sT sW sV sS tk : zI), zte (zls fT fS iT tS) (if fl = 0 then mk else 0) un mk 1 fl today (zpg fT fW fV fS (zls fT fS iT tS) (if fl = 0 then mk else 0) (3 - i) (ps, pr, sT, sW, sV, sS, tk) (nI i)) = (res', mk', ho', od', ps', pr', sT', sW', sV', sS', tk') → ∀ (H : Heap) (locs : List Loc), va_P (dC, dI) vwCl ([(h0, .inr (1, [.ref g0, .ref o0, .int mk, .int 1, .int fl, .int today, .int today, .int ps, .int pr, .ref kT])), (g0, .inr (0, [.ref b0, .ref gI, .ref gS, .ref gD, .int un, .int de])), (b0, .inr (2, [.ref bT, .ref bW, .ref bV, .ref bS])), (bT, .inl (cZ, 20, .inl fT)), (bW, .inl (cI, 20, .inl fW)), (bV, .inl (cI, 20, .inl fV)), (bS, .inl (cI, 20, .inl fS)), (gI, .inl (cZ, 20, .inl iT)), (gS, .inl (cI, 20, .inl tS)), (o0, .inr (2, [.ref oT, .ref oW, .ref oV, .ref oS])), (oT, .inl (cZ, 20, .inl sT)), (oW, .inl (cI, 20, .inl sW)), (oV, .inl (cI, 20, .inl sV)), (oS, .inl (cI, 20, .inl sS)), (kT, .inl (cZ, 20, .inl tk))]) H → va_D A ([(h0, .inr (1, [.ref g0, .ref o0, .int mk, .int 1, .int fl, .int today, .int today, .int ps, .int pr, .ref kT])), (g0, .inr (0, [.ref b0, .ref gI, .ref gS, .ref gD, .int un, .int de])), (b0, .inr (2, [.ref bT, .ref bW, .ref bV, .ref bS])), (bT, .inl (cZ, 20, .inl fT)), (bW, .inl (cI, 20, .inl fW)), (bV, .inl (cI, 20, .inl fV)), (bS, .inl (cI, 20, .inl fS)), (gI, .inl (cZ, 20, .inl iT)), (gS, .inl (cI, 20, .inl tS)), (o0, .inr (2, [.ref oT, .ref oW, .ref oV, .ref oS])), (oT, .inl (cZ, 20, .inl sT)), (oW, .inl (cI, 20, .inl sW)), (oV, .inl (cI, 20, .inl sV)), (oS, .inl (cI, 20, .inl sS)), (kT, .inl (cZ, 20, .inl tk))]) → va_S A s.heap H locs → ∀ (ls : Array Slot), lv_has ls 4 [(0, .ref h0), (1, .int today), (2, .int (nI i)), (3, .int ((znx (zls fT fS iT tS) (if fl = 0 then mk else 0) ps pr 20).1))] → W p l e (headSpec wsX1_takePage ({ frames := 3, cells := 0, slots := 0, locals := 70 })).room s m ([.ref h0, .int today] : List Value).toArray below meth c H locs 0 0 (MQ below (zQi dC dI res' ([(h0, .inr (1, [.ref g0, .ref o0, .int mk', .int ho', .int fl, .int od', .int today, .int ps', .int pr', .ref kT])), (g0, .inr (0, [.ref b0, .ref gI, .ref gS, .ref gD, .int un, .int de])), (b0, .inr (2, [.ref bT, .ref bW, .ref bV, .ref bS])), (bT, .inl (cZ, 20, .inl fT)), (bW, .inl (cI, 20, .inl fW)), (bV, .inl (cI, 20, .inl fV)), (bS, .inl (cI, 20, .inl fS)), (gI, .inl (cZ, 20, .inl iT)), (gS, .inl (cI, 20, .inl tS)), (o0, .inr (2, [.ref oT, .ref oW, .ref oV, .ref oS])), (oT, .inl (cZ, 20, .inl sT')), (oW, .inl (cI, 20, .inl sW')), (oV, .inl (cI, 20, .inl sV')), (oS, .inl (cI, 20, .inl sS')), (kT, .inl (cZ, 20, .inl tk'))]) A) ([.ref h0, .int today] : List Value).toArray s 0 0 A) (F0 m 31 ls []) := by
      intro n
      induction n with
      | zero => intro i h1 h2; exact absurd h2 (by omega)
      | succ n ih =>
        intro i hi hin ps pr sT sW sV sS tk hz H locs hP hD hS ls hl
        refine lv_iload_n hx hb dX1_takePage_31 rfl (lv_at hl 3 rfl) ?_
        refine lv_iconst (v := (-1)) hx hb dX1_takePage_32 (by decide) ?_
        refine lv_icmp_eq (tgt := 57) hx hb dX1_takePage_33 (by decide) (fun c_33 => ?_) (fun c_33 => ?_)
        · skip
          rw [zpg_e (x := (ps, pr, sT, sW, sV, sS, tk)) c_33, zte, if_pos c_33] at hz
          simp only [Prod.mk.injEq] at hz
          obtain ⟨e1, e2, e3, e4, e5, e6, e7, e8, e9, e10, e11⟩ := hz
          refine lv_iload_n hx hb dX1_takePage_57 rfl (lv_at hl 3 rfl) ?_
          refine lv_iconst (v := (-1)) hx hb dX1_takePage_58 (by decide) ?_
          refine lv_icmp_ne (tgt := 66) hx hb dX1_takePage_59 (by decide) (fun c_59 => ?_) (fun c_59 => ?_)
          · exact absurd c_33 c_59
          · skip
            refine lv_aload_n hx hb dX1_takePage_62 rfl (lv_at hl 0 rfl) ?_
            refine z_cMv (is := [0, 1, 9, 10, 14]) (va_runV (As := []) (rest := []) ⟨hx, hb, hml, hown, hts⟩ (kX1_finish l dC dI cI cZ cH cJ h0 g0 o0 kT mk 1 fl today today ps pr b0 gI gS gD oT oW oV oS un de sT tk H.size) (cwV 0 hts gX1_takePage_X1_finish rfl rfl rfl (by decide +kernel) ⟨Nat.le_of_ble_eq_true rfl, Nat.le_of_ble_eq_true rfl⟩) (zPreV (is := [0, 1, 9, 10, 14]) hK hP hD (by decide) rfl (va_recv hK hP (ci := 1) (q0 := 0) rfl rfl)) rfl rfl hl.1 rfl (lv_room (Nat.le_of_ble_eq_true rfl)) dX1_takePage_63 ⟨Nat.le_of_ble_eq_true rfl, Nat.le_of_ble_eq_true rfl⟩) hP hD hS hA rfl (by decide) rfl (fun H locs hP hD hS => ?_)
            have hP : va_P (dC, dI) vwCl ([(h0, .inr (1, [.ref g0, .ref o0, .int (zst un today), .int 0, .int fl, .int today, .int today, .int ps, .int pr, .ref kT])), (g0, .inr (0, [.ref b0, .ref gI, .ref gS, .ref gD, .int un, .int de])), (b0, .inr (2, [.ref bT, .ref bW, .ref bV, .ref bS])), (bT, .inl (cZ, 20, .inl fT)), (bW, .inl (cI, 20, .inl fW)), (bV, .inl (cI, 20, .inl fV)), (bS, .inl (cI, 20, .inl fS)), (gI, .inl (cZ, 20, .inl iT)), (gS, .inl (cI, 20, .inl tS)), (o0, .inr (2, [.ref oT, .ref oW, .ref oV, .ref oS])), (oT, .inl (cZ, 20, .inl (if fl = 0 then sT else zdrp sT tk 20))), (oW, .inl (cI, 20, .inl sW)), (oV, .inl (cI, 20, .inl sV)), (oS, .inl (cI, 20, .inl sS)), (kT, .inl (cZ, 20, .inl tk))]) H := hP
            have hD : va_D A ([(h0, .inr (1, [.ref g0, .ref o0, .int (zst un today), .int 0, .int fl, .int today, .int today, .int ps, .int pr, .ref kT])), (g0, .inr (0, [.ref b0, .ref gI, .ref gS, .ref gD, .int un, .int de])), (b0, .inr (2, [.ref bT, .ref bW, .ref bV, .ref bS])), (bT, .inl (cZ, 20, .inl fT)), (bW, .inl (cI, 20, .inl fW)), (bV, .inl (cI, 20, .inl fV)), (bS, .inl (cI, 20, .inl fS)), (gI, .inl (cZ, 20, .inl iT)), (gS, .inl (cI, 20, .inl tS)), (o0, .inr (2, [.ref oT, .ref oW, .ref oV, .ref oS])), (oT, .inl (cZ, 20, .inl (if fl = 0 then sT else zdrp sT tk 20))), (oW, .inl (cI, 20, .inl sW)), (oV, .inl (cI, 20, .inl sV)), (oS, .inl (cI, 20, .inl sS)), (kT, .inl (cZ, 20, .inl tk))]) := hD
            refine lv_iload_n hx hb dX1_takePage_66 rfl (lv_at hl 2 rfl) ?_
            refine z_tv (v := res') (e1) ?_
            have hP := zP_eq (ws' := [(h0, .inr (1, [.ref g0, .ref o0, .int mk', .int ho', .int fl, .int od', .int today, .int ps', .int pr', .ref kT])), (g0, .inr (0, [.ref b0, .ref gI, .ref gS, .ref gD, .int un, .int de])), (b0, .inr (2, [.ref bT, .ref bW, .ref bV, .ref bS])), (bT, .inl (cZ, 20, .inl fT)), (bW, .inl (cI, 20, .inl fW)), (bV, .inl (cI, 20, .inl fV)), (bS, .inl (cI, 20, .inl fS)), (gI, .inl (cZ, 20, .inl iT)), (gS, .inl (cI, 20, .inl tS)), (o0, .inr (2, [.ref oT, .ref oW, .ref oV, .ref oS])), (oT, .inl (cZ, 20, .inl sT')), (oW, .inl (cI, 20, .inl sW')), (oV, .inl (cI, 20, .inl sV')), (oS, .inl (cI, 20, .inl sS')), (kT, .inl (cZ, 20, .inl tk'))]) hP (zw_o (zv_k (zv_k (zv_c (e2) (zv_c (e3) (zv_k (zv_c (e4) (zv_k (zv_c (e5) (zv_c (e6) (zv_k (rfl))))))))))) (zw_k (zw_k (zw_k (zw_k (zw_k (zw_k (zw_k (zw_k (zw_k (zw_a (e7) (zw_a (e8) (zw_a (e9) (zw_a (e10) (zw_a (e11) (rfl))))))))))))))))
            have hD := zD_eq (ws' := [(h0, .inr (1, [.ref g0, .ref o0, .int mk', .int ho', .int fl, .int od', .int today, .int ps', .int pr', .ref kT])), (g0, .inr (0, [.ref b0, .ref gI, .ref gS, .ref gD, .int un, .int de])), (b0, .inr (2, [.ref bT, .ref bW, .ref bV, .ref bS])), (bT, .inl (cZ, 20, .inl fT)), (bW, .inl (cI, 20, .inl fW)), (bV, .inl (cI, 20, .inl fV)), (bS, .inl (cI, 20, .inl fS)), (gI, .inl (cZ, 20, .inl iT)), (gS, .inl (cI, 20, .inl tS)), (o0, .inr (2, [.ref oT, .ref oW, .ref oV, .ref oS])), (oT, .inl (cZ, 20, .inl sT')), (oW, .inl (cI, 20, .inl sW')), (oV, .inl (cI, 20, .inl sV')), (oS, .inl (cI, 20, .inl sS')), (kT, .inl (cZ, 20, .inl tk'))]) hD (zw_o (zv_k (zv_k (zv_c (e2) (zv_c (e3) (zv_k (zv_c (e4) (zv_k (zv_c (e5) (zv_c (e6) (zv_k (rfl))))))))))) (zw_k (zw_k (zw_k (zw_k (zw_k (zw_k (zw_k (zw_k (zw_k (zw_a (e7) (zw_a (e8) (zw_a (e9) (zw_a (e10) (zw_a (e11) (rfl))))))))))))))))
            exact W.iret hx hb hr (fun t ht hW => ⟨rfl, ⟨by rw [ht]; exact hP, hD⟩, hS.F ht⟩) hS.2.2 dX1_takePage_67
        · skip
          obtain ⟨r, hrr, er⟩ := znx_ne c_33
          refine lv_iload_n hx hb dX1_takePage_36 rfl (lv_at hl 2 rfl) ?_
          refine lv_iconst (v := 3) hx hb dX1_takePage_37 (by decide) ?_
          refine lv_icmp_ge (tgt := 57) hx hb dX1_takePage_38 (by decide) (fun c_38 => ?_) (fun c_38 => ?_)
          · skip
            have e20 : i = 3 := z_ge (n := 3) hi (by decide) c_38
            subst e20
            rw [Nat.sub_self, zpg, zte, if_neg c_33] at hz
            simp only [Prod.mk.injEq] at hz
            obtain ⟨e1, e2, e3, e4, e5, e6, e7, e8, e9, e10, e11⟩ := hz
            refine lv_iload_n hx hb dX1_takePage_57 rfl (lv_at hl 3 rfl) ?_
            refine lv_iconst (v := (-1)) hx hb dX1_takePage_58 (by decide) ?_
            refine lv_icmp_ne (tgt := 66) hx hb dX1_takePage_59 (by decide) (fun c_59 => ?_) (fun c_59 => ?_)
            · skip
              refine lv_iload_n hx hb dX1_takePage_66 rfl (lv_at hl 2 rfl) ?_
              refine z_tv (v := res') (e1) ?_
              have hP := zP_eq (ws' := [(h0, .inr (1, [.ref g0, .ref o0, .int mk', .int ho', .int fl, .int od', .int today, .int ps', .int pr', .ref kT])), (g0, .inr (0, [.ref b0, .ref gI, .ref gS, .ref gD, .int un, .int de])), (b0, .inr (2, [.ref bT, .ref bW, .ref bV, .ref bS])), (bT, .inl (cZ, 20, .inl fT)), (bW, .inl (cI, 20, .inl fW)), (bV, .inl (cI, 20, .inl fV)), (bS, .inl (cI, 20, .inl fS)), (gI, .inl (cZ, 20, .inl iT)), (gS, .inl (cI, 20, .inl tS)), (o0, .inr (2, [.ref oT, .ref oW, .ref oV, .ref oS])), (oT, .inl (cZ, 20, .inl sT')), (oW, .inl (cI, 20, .inl sW')), (oV, .inl (cI, 20, .inl sV')), (oS, .inl (cI, 20, .inl sS')), (kT, .inl (cZ, 20, .inl tk'))]) hP (zw_o (zv_k (zv_k (zv_c (e2) (zv_c (e3) (zv_k (zv_c (e4) (zv_k (zv_c (e5) (zv_c (e6) (zv_k (rfl))))))))))) (zw_k (zw_k (zw_k (zw_k (zw_k (zw_k (zw_k (zw_k (zw_k (zw_a (e7) (zw_a (e8) (zw_a (e9) (zw_a (e10) (zw_a (e11) (rfl))))))))))))))))
              have hD := zD_eq (ws' := [(h0, .inr (1, [.ref g0, .ref o0, .int mk', .int ho', .int fl, .int od', .int today, .int ps', .int pr', .ref kT])), (g0, .inr (0, [.ref b0, .ref gI, .ref gS, .ref gD, .int un, .int de])), (b0, .inr (2, [.ref bT, .ref bW, .ref bV, .ref bS])), (bT, .inl (cZ, 20, .inl fT)), (bW, .inl (cI, 20, .inl fW)), (bV, .inl (cI, 20, .inl fV)), (bS, .inl (cI, 20, .inl fS)), (gI, .inl (cZ, 20, .inl iT)), (gS, .inl (cI, 20, .inl tS)), (o0, .inr (2, [.ref oT, .ref oW, .ref oV, .ref oS])), (oT, .inl (cZ, 20, .inl sT')), (oW, .inl (cI, 20, .inl sW')), (oV, .inl (cI, 20, .inl sV')), (oS, .inl (cI, 20, .inl sS')), (kT, .inl (cZ, 20, .inl tk'))]) hD (zw_o (zv_k (zv_k (zv_c (e2) (zv_c (e3) (zv_k (zv_c (e4) (zv_k (zv_c (e5) (zv_c (e6) (zv_k (rfl))))))))))) (zw_k (zw_k (zw_k (zw_k (zw_k (zw_k (zw_k (zw_k (zw_k (zw_a (e7) (zw_a (e8) (zw_a (e9) (zw_a (e10) (zw_a (e11) (rfl))))))))))))))))
              exact W.iret hx hb hr (fun t ht hW => ⟨rfl, ⟨by rw [ht]; exact hP, hD⟩, hS.F ht⟩) hS.2.2 dX1_takePage_67
            · exact absurd c_59 c_33
          · skip
            have hk3 : i < 3 := z_lt (n := 3) hi (by decide) c_38
            rw [er] at hl
            refine lv_aload_n hx hb dX1_takePage_41 rfl (lv_at hl 0 rfl) ?_
            refine lv_iload_n hx hb dX1_takePage_42 rfl (lv_at hl 3 rfl) ?_
            refine z_cMv (is := [0, 1, 2, 3, 4, 5, 6, 7, 8, 9, 10, 11, 12, 13, 14]) (va_runV (As := [.int (nI r)]) (rest := []) ⟨hx, hb, hml, hown, hts⟩ (kX1_takeOver l dC dI cI cZ cH cJ h0 g0 o0 kT mk 1 fl today today ps pr b0 gI gS gD bT bW bV bS oT oW oV oS un de fT fW fV fS iT tS sT sW sV sS tk r (by first | assumption | omega) H.size) (cwV 1 hts gX1_takePage_X1_takeOver rfl rfl rfl (by decide +kernel) ⟨Nat.le_of_ble_eq_true rfl, Nat.le_of_ble_eq_true rfl⟩) (zPreV (is := [0, 1, 2, 3, 4, 5, 6, 7, 8, 9, 10, 11, 12, 13, 14]) hK hP hD (by decide) rfl (va_recv hK hP (ci := 1) (q0 := 0) rfl rfl)) rfl rfl hl.1 rfl (lv_room (Nat.le_of_ble_eq_true rfl)) dX1_takePage_43 ⟨Nat.le_of_ble_eq_true rfl, Nat.le_of_ble_eq_true rfl⟩) hP hD hS hA rfl (by decide) rfl (fun H locs hP hD hS => ?_)
            have hP : va_P (dC, dI) vwCl ([(h0, .inr (1, [.ref g0, .ref o0, .int mk, .int 1, .int fl, .int today, .int today, .int (zls fT fS iT tS r), .int (nI r), .ref kT])), (g0, .inr (0, [.ref b0, .ref gI, .ref gS, .ref gD, .int un, .int de])), (b0, .inr (2, [.ref bT, .ref bW, .ref bV, .ref bS])), (bT, .inl (cZ, 20, .inl fT)), (bW, .inl (cI, 20, .inl fW)), (bV, .inl (cI, 20, .inl fV)), (bS, .inl (cI, 20, .inl fS)), (gI, .inl (cZ, 20, .inl iT)), (gS, .inl (cI, 20, .inl tS)), (o0, .inr (2, [.ref oT, .ref oW, .ref oV, .ref oS])), (oT, .inl (cZ, 20, .inl (upd sT r (if fT r = 0 then 0 else 1)))), (oW, .inl (cI, 20, .inl (if fT r = 0 then sW else upd sW r (fW r)))), (oV, .inl (cI, 20, .inl (if fT r = 0 then sV else upd sV r (fV r)))), (oS, .inl (cI, 20, .inl (if fT r = 0 then sS else upd sS r (fS r)))), (kT, .inl (cZ, 20, .inl (if fT r = 0 then tk else upd tk r 1)))]) H := hP
            have hD : va_D A ([(h0, .inr (1, [.ref g0, .ref o0, .int mk, .int 1, .int fl, .int today, .int today, .int (zls fT fS iT tS r), .int (nI r), .ref kT])), (g0, .inr (0, [.ref b0, .ref gI, .ref gS, .ref gD, .int un, .int de])), (b0, .inr (2, [.ref bT, .ref bW, .ref bV, .ref bS])), (bT, .inl (cZ, 20, .inl fT)), (bW, .inl (cI, 20, .inl fW)), (bV, .inl (cI, 20, .inl fV)), (bS, .inl (cI, 20, .inl fS)), (gI, .inl (cZ, 20, .inl iT)), (gS, .inl (cI, 20, .inl tS)), (o0, .inr (2, [.ref oT, .ref oW, .ref oV, .ref oS])), (oT, .inl (cZ, 20, .inl (upd sT r (if fT r = 0 then 0 else 1)))), (oW, .inl (cI, 20, .inl (if fT r = 0 then sW else upd sW r (fW r)))), (oV, .inl (cI, 20, .inl (if fT r = 0 then sV else upd sV r (fV r)))), (oS, .inl (cI, 20, .inl (if fT r = 0 then sS else upd sS r (fS r)))), (kT, .inl (cZ, 20, .inl (if fT r = 0 then tk else upd tk r 1)))]) := hD
            refine lv_iinc (v := nI (i + 1)) (lv' := [(2, .int (nI (i + 1))), (0, .ref h0), (1, .int today), (3, .int (nI r))]) hx hb dX1_takePage_46 hl (k := 2) rfl (z_1) (by decide) rfl (fun ls hl => ?_)
            refine lv_aload_n hx hb dX1_takePage_49 rfl (lv_at hl 1 rfl) ?_
            refine z_cRi (va_runV (As := []) (rest := []) ⟨hx, hb, hml, hown, hts⟩ (kX1_nextOfList l dC dI cI cZ cH cJ h0 g0 o0 kT mk 1 fl today today (zls fT fS iT tS r) (nI r) b0 gI gS gD bT bW bV bS un de fT fS iT tS) (cwV 0 hts gX1_takePage_X1_nextOfList rfl rfl rfl (by decide +kernel) ⟨Nat.le_of_ble_eq_true rfl, Nat.le_of_ble_eq_true rfl⟩) (zPreR (is := [0, 1, 2, 3, 6, 7, 8]) hK hP rfl (va_recv hK hP (ci := 1) (q0 := 0) rfl rfl)) rfl rfl hl.1 rfl (lv_room (Nat.le_of_ble_eq_true rfl)) dX1_takePage_50 ⟨Nat.le_of_ble_eq_true rfl, Nat.le_of_ble_eq_true rfl⟩) ?_
            refine z_tv (v := (znx (zls fT fS iT tS) (if fl = 0 then mk else 0) (zls fT fS iT tS r) (nI r) 20).1) rfl ?_
            refine lv_istore_n (lv' := [(3, .int ((znx (zls fT fS iT tS) (if fl = 0 then mk else 0) (zls fT fS iT tS r) (nI r) 20).1)), (2, .int (nI (i + 1))), (0, .ref h0), (1, .int today)]) hx hb dX1_takePage_53 rfl hl (by decide) rfl (fun ls hl => ?_)
            refine lv_goto (tgt := 31) hx hb dX1_takePage_54 (by decide) ?_
            rw [zpg_s (x := (ps, pr, sT, sW, sV, sS, tk)) c_33 er hrr hk3] at hz
            exact ih (i + 1) (by omega) (by omega) (zls fT fS iT tS r) (nI r) (upd sT r (if fT r = 0 then 0 else 1)) (if fT r = 0 then sW else upd sW r (fW r)) (if fT r = 0 then sV else upd sV r (fV r)) (if fT r = 0 then sS else upd sS r (fS r)) (if fT r = 0 then tk else upd tk r 1) hz _ _ hP hD hS _ (lv_sub hl [2, 3, 1, 0] rfl)
    exact LOOP2 (3 + 1) 0 (by omega) (by omega) (-1) (-1) sT sW sV sS (zclr tk 20) hsp _ _ hP hD hS _ (lv_cg (lv_sub (l' := [(0, .ref h0), (1, .int today), (2, .int 0), (3, .int ((znx (zls fT fS iT tS) (if fl = 0 then mk else 0) (-1) (-1) 20).1))]) hl [2, 3, 1, 0] rfl) (zl_k (zl_k (zl_c (rfl) (zl_k (rfl))))))
