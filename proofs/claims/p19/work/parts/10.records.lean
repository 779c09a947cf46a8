theorem z_nl (fT fW fV fS fT' fW' fV' fS' : zI) (r : Nat) : narrow .boolean (.int (zlike fT fW fV fS fT' fW' fV' fS' r)) = .int (zlike fT fW fV fS fT' fW' fV' fS' r) := by
  unfold zlike
  split <;> split <;> rfl
set_option maxHeartbeats 4000000 in
set_option maxRecDepth 100000 in
/-- Records.keep -/
theorem kX2_keep (l : Launch) (dC : Nat → ClassId) (dI : Nat → Nat → Nat) (cI cZ cH cJ : ClassId) (h0 : Nat) (aT : Nat) (aW : Nat) (aV : Nat) (aS : Nat) (fT : zI) (fW : zI) (fV : zI) (fS : zI) (r : Nat) (hrr : r < 20) (w : Int32) (v : Int32) (st : Int32) (sz : Nat) : Met l yX2_keep wsX2_keep ({ frames := 0, cells := 0, slots := 0, locals := 0 }) (zPc dC dI (zTy cI cZ cH cJ) [.ref h0, .int (nI r), .int w, .int v, .int st] sz ([(h0, .inr (2, [.ref aT, .ref aW, .ref aV, .ref aS])), (aT, .inl (cZ, 20, .inl fT)), (aW, .inl (cI, 20, .inl fW)), (aV, .inl (cI, 20, .inl fV)), (aS, .inl (cI, 20, .inl fS))])) (zQv dC dI ([(h0, .inr (2, [.ref aT, .ref aW, .ref aV, .ref aS])), (aT, .inl (cZ, 20, .inl (upd fT r 1))), (aW, .inl (cI, 20, .inl (upd fW r w))), (aV, .inl (cI, 20, .inl (upd fV r v))), (aS, .inl (cI, 20, .inl (upd fS r st)))]) (va_A ([(h0, .inr (2, [.ref aT, .ref aW, .ref aV, .ref aS])), (aT, .inl (cZ, 20, .inl fT)), (aW, .inl (cI, 20, .inl fW)), (aV, .inl (cI, 20, .inl fV)), (aS, .inl (cI, 20, .inl fS))]) sz)) 0 0 (va_A ([(h0, .inr (2, [.ref aT, .ref aW, .ref aV, .ref aS])), (aT, .inl (cZ, 20, .inl fT)), (aW, .inl (cI, 20, .inl fW)), (aV, .inl (cI, 20, .inl fV)), (aS, .inl (cI, 20, .inl fS))]) sz) := by
  refine Met.ofW (cc := cX2_keep) (maxL := 5) (ret := none) (by decide) rfl ?_
  intro p e s m args below meth c s₁ B hml hv0
  obtain ⟨rfl, hsz, hP, hK, hD0⟩ := hv0
  have hx := B.exec
  have hb := B.bytes
  have hr := B.returns
  have hts := atoms_spec (ws := wsX2_keep) B.pre
  have hown : s.vm.findClass RX2 = some m.cls := findClass_of_methodNamed B.named
  have hlocks := B.notSynchronized
  subst hsz
  have hD := hD0.self (sz := s.heap.size)
  generalize hAe : va_A ([(h0, .inr (2, [.ref aT, .ref aW, .ref aV, .ref aS])), (aT, .inl (cZ, 20, .inl fT)), (aW, .inl (cI, 20, .inl fW)), (aV, .inl (cI, 20, .inl fV)), (aS, .inl (cI, 20, .inl fS))]) s.heap.size = A at hD ⊢
  have hA : ∀ q : Nat, s.heap.size ≤ q → A q := fun q h => by rw [← hAe]; exact Or.inr h
  have hS : va_S A s.heap s.heap [] := va_S.rf
  have hl := lv_entry ([.ref h0, .int (nI r), .int w, .int v, .int st]) (n := 5) (Nat.le_of_ble_eq_true rfl)
  rw [lg_entry_eq]
  generalize (lg_sl ([.ref h0, .int (nI r), .int w, .int v, .int st]) ++ List.replicate (5 - (lg_sl ([.ref h0, .int (nI r), .int w, .int v, .int st])).length) Slot.unset).toArray = ls at hl ⊢
  have hl : lv_has ls 5 [(0, .ref h0), (1, .int (nI r)), (2, .int w), (3, .int v), (4, .int st)] := hl
  have hiX2 : ∀ w ∈ wsX20, w ∈ wsX2_keep := by decide +kernel
  have l9 := hts (.fieldLink RX2 9 "CatalogueHarvester$Records" "isThere" "[Z") (by decide +kernel)
  have l15 := hts (.fieldLink RX2 15 "CatalogueHarvester$Records" "works" "[I") (by decide +kernel)
  have l19 := hts (.fieldLink RX2 19 "CatalogueHarvester$Records" "values" "[I") (by decide +kernel)
  have l22 := hts (.fieldLink RX2 22 "CatalogueHarvester$Records" "stamps" "[I") (by decide +kernel)
  refine lv_aload_n hx hb dX2_keep_0 rfl (lv_at hl 0 rfl) ?_
  refine va_get (D := (dC, dI)) (ci := 2) (v := .ref aT) (C := RX2) (T := TX2) (N := 4) hx hb hts hiX2 hown hK hP 0 rfl rfl 0 (by decide) l9 (fun _ h9 => h9) rfl dX2_keep_1 ?_
  refine lv_iload_n hx hb dX2_keep_4 rfl (lv_at hl 1 rfl) ?_
  refine lv_iconst (v := 1) hx hb dX2_keep_5 (by decide) ?_
  refine z_zast (v := 1) hx hb hK hP hD hS 1 rfl (zix_nI (by first | assumption | omega) (by decide)) (rfl) dX2_keep_6 (fun H locs hP hD hS => ?_)
  have hP : va_P (dC, dI) vwCl ([(h0, .inr (2, [.ref aT, .ref aW, .ref aV, .ref aS])), (aT, .inl (cZ, 20, .inl (upd fT r 1))), (aW, .inl (cI, 20, .inl fW)), (aV, .inl (cI, 20, .inl fV)), (aS, .inl (cI, 20, .inl fS))]) H := hP
  have hD : va_D A ([(h0, .inr (2, [.ref aT, .ref aW, .ref aV, .ref aS])), (aT, .inl (cZ, 20, .inl (upd fT r 1))), (aW, .inl (cI, 20, .inl fW)), (aV, .inl (cI, 20, .inl fV)), (aS, .inl (cI, 20, .inl fS))]) := hD
  refine lv_aload_n hx hb dX2_keep_7 rfl (lv_at hl 0 rfl) ?_
  refine va_get (D := (dC, dI)) (ci := 2) (v := .ref aW) (C := RX2) (T := TX2) (N := 4) hx hb hts hiX2 hown hK hP 0 rfl rfl 1 (by decide) l15 (fun _ h9 => h9) rfl dX2_keep_8 ?_
  refine lv_iload_n hx hb dX2_keep_11 rfl (lv_at hl 1 rfl) ?_
  refine lv_iload_n hx hb dX2_keep_12 rfl (lv_at hl 2 rfl) ?_
  refine z_iast hx hb hK hP hD hS 2 rfl (zix_nI (by first | assumption | omega) (by decide)) dX2_keep_13 (fun H locs hP hD hS => ?_)
  have hP : va_P (dC, dI) vwCl ([(h0, .inr (2, [.ref aT, .ref aW, .ref aV, .ref aS])), (aT, .inl (cZ, 20, .inl (upd fT r 1))), (aW, .inl (cI, 20, .inl (upd fW r w))), (aV, .inl (cI, 20, .inl fV)), (aS, .inl (cI, 20, .inl fS))]) H := hP
  have hD : va_D A ([(h0, .inr (2, [.ref aT, .ref aW, .ref aV, .ref aS])), (aT, .inl (cZ, 20, .inl (upd fT r 1))), (aW, .inl (cI, 20, .inl (upd fW r w))), (aV, .inl (cI, 20, .inl fV)), (aS, .inl (cI, 20, .inl fS))]) := hD
  refine lv_aload_n hx hb dX2_keep_14 rfl (lv_at hl 0 rfl) ?_
  refine va_get (D := (dC, dI)) (ci := 2) (v := .ref aV) (C := RX2) (T := TX2) (N := 4) hx hb hts hiX2 hown hK hP 0 rfl rfl 2 (by decide) l19 (fun _ h9 => h9) rfl dX2_keep_15 ?_
  refine lv_iload_n hx hb dX2_keep_18 rfl (lv_at hl 1 rfl) ?_
  refine lv_iload_n hx hb dX2_keep_19 rfl (lv_at hl 3 rfl) ?_
  refine z_iast hx hb hK hP hD hS 3 rfl (zix_nI (by first | assumption | omega) (by decide)) dX2_keep_20 (fun H locs hP hD hS => ?_)
  have hP : va_P (dC, dI) vwCl ([(h0, .inr (2, [.ref aT, .ref aW, .ref aV, .ref aS])), (aT, .inl (cZ, 20, .inl (upd fT r 1))), (aW, .inl (cI, 20, .inl (upd fW r w))), (aV, .inl (cI, 20, .inl (upd fV r v))), (aS, .inl (cI, 20, .inl fS))]) H := hP
  have hD : va_D A ([(h0, .inr (2, [.ref aT, .ref aW, .ref aV, .ref aS])), (aT, .inl (cZ, 20, .inl (upd fT r 1))), (aW, .inl (cI, 20, .inl (upd fW r w))), (aV, .inl (cI, 20, .inl (upd fV r v))), (aS, .inl (cI, 20, .inl fS))]) := hD
  refine lv_aload_n hx hb dX2_keep_21 rfl (lv_at hl 0 rfl) ?_
  refine va_get (D := (dC, dI)) (ci := 2) (v := .ref aS) (C := RX2) (T := TX2) (N := 4) hx hb hts hiX2 hown hK hP 0 rfl rfl 3 (by decide) l22 (fun _ h9 => h9) rfl dX2_keep_22 ?_
  refine lv_iload_n hx hb dX2_keep_25 rfl (lv_at hl 1 rfl) ?_
  refine lv_iload hx hb dX2_keep_26 (lv_at hl 4 rfl) ?_
  refine z_iast hx hb hK hP hD hS 4 rfl (zix_nI (by first | assumption | omega) (by decide)) dX2_keep_28 (fun H locs hP hD hS => ?_)
  have hP : va_P (dC, dI) vwCl ([(h0, .inr (2, [.ref aT, .ref aW, .ref aV, .ref aS])), (aT, .inl (cZ, 20, .inl (upd fT r 1))), (aW, .inl (cI, 20, .inl (upd fW r w))), (aV, .inl (cI, 20, .inl (upd fV r v))), (aS, .inl (cI, 20, .inl (upd fS r st)))]) H := hP
  have hD : va_D A ([(h0, .inr (2, [.ref aT, .ref aW, .ref aV, .ref aS])), (aT, .inl (cZ, 20, .inl (upd fT r 1))), (aW, .inl (cI, 20, .inl (upd fW r w))), (aV, .inl (cI, 20, .inl (upd fV r v))), (aS, .inl (cI, 20, .inl (upd fS r st)))]) := hD
  exact W.vret hx hb hr (fun t ht hW => ⟨rfl, ⟨by rw [ht]; exact hP, hD⟩, hS.F ht⟩) hS.2.2 dX2_keep_29
set_option maxHeartbeats 4000000 in
set_option maxRecDepth 100000 in
/-- Records.drop -/
theorem kX2_drop (l : Launch) (dC : Nat → ClassId) (dI : Nat → Nat → Nat) (cI cZ cH cJ : ClassId) (h0 : Nat) (aT : Nat) (aW : Nat) (aV : Nat) (aS : Nat) (fT : zI) (r : Nat) (hrr : r < 20) (sz : Nat) : Met l yX2_drop wsX2_drop ({ frames := 0, cells := 0, slots := 0, locals := 0 }) (zPc dC dI (zTy cI cZ cH cJ) [.ref h0, .int (nI r)] sz ([(h0, .inr (2, [.ref aT, .ref aW, .ref aV, .ref aS])), (aT, .inl (cZ, 20, .inl fT))])) (zQv dC dI ([(h0, .inr (2, [.ref aT, .ref aW, .ref aV, .ref aS])), (aT, .inl (cZ, 20, .inl (upd fT r 0)))]) (va_A ([(h0, .inr (2, [.ref aT, .ref aW, .ref aV, .ref aS])), (aT, .inl (cZ, 20, .inl fT))]) sz)) 0 0 (va_A ([(h0, .inr (2, [.ref aT, .ref aW, .ref aV, .ref aS])), (aT, .inl (cZ, 20, .inl fT))]) sz) := by
  refine Met.ofW (cc := cX2_drop) (maxL := 2) (ret := none) (by decide) rfl ?_
  intro p e s m args below meth c s₁ B hml hv0
  obtain ⟨rfl, hsz, hP, hK, hD0⟩ := hv0
  have hx := B.exec
  have hb := B.bytes
  have hr := B.returns
  have hts := atoms_spec (ws := wsX2_drop) B.pre
  have hown : s.vm.findClass RX2 = some m.cls := findClass_of_methodNamed B.named
  have hlocks := B.notSynchronized
  subst hsz
  have hD := hD0.self (sz := s.heap.size)
  generalize hAe : va_A ([(h0, .inr (2, [.ref aT, .ref aW, .ref aV, .ref aS])), (aT, .inl (cZ, 20, .inl fT))]) s.heap.size = A at hD ⊢
  have hA : ∀ q : Nat, s.heap.size ≤ q → A q := fun q h => by rw [← hAe]; exact Or.inr h
  have hS : va_S A s.heap s.heap [] := va_S.rf
  have hl := lv_entry ([.ref h0, .int (nI r)]) (n := 2) (Nat.le_of_ble_eq_true rfl)
  rw [lg_entry_eq]
  generalize (lg_sl ([.ref h0, .int (nI r)]) ++ List.replicate (2 - (lg_sl ([.ref h0, .int (nI r)])).length) Slot.unset).toArray = ls at hl ⊢
  have hl : lv_has ls 2 [(0, .ref h0), (1, .int (nI r))] := hl
  have hiX2 : ∀ w ∈ wsX20, w ∈ wsX2_drop := by decide +kernel
  have l9 := hts (.fieldLink RX2 9 "CatalogueHarvester$Records" "isThere" "[Z") (by decide +kernel)
  refine lv_aload_n hx hb dX2_drop_0 rfl (lv_at hl 0 rfl) ?_
  refine va_get (D := (dC, dI)) (ci := 2) (v := .ref aT) (C := RX2) (T := TX2) (N := 4) hx hb hts hiX2 hown hK hP 0 rfl rfl 0 (by decide) l9 (fun _ h9 => h9) rfl dX2_drop_1 ?_
  refine lv_iload_n hx hb dX2_drop_4 rfl (lv_at hl 1 rfl) ?_
  refine lv_iconst (v := 0) hx hb dX2_drop_5 (by decide) ?_
  refine z_zast (v := 0) hx hb hK hP hD hS 1 rfl (zix_nI (by first | assumption | omega) (by decide)) (rfl) dX2_drop_6 (fun H locs hP hD hS => ?_)
  have hP : va_P (dC, dI) vwCl ([(h0, .inr (2, [.ref aT, .ref aW, .ref aV, .ref aS])), (aT, .inl (cZ, 20, .inl (upd fT r 0)))]) H := hP
  have hD : va_D A ([(h0, .inr (2, [.ref aT, .ref aW, .ref aV, .ref aS])), (aT, .inl (cZ, 20, .inl (upd fT r 0)))]) := hD
  exact W.vret hx hb hr (fun t ht hW => ⟨rfl, ⟨by rw [ht]; exact hP, hD⟩, hS.F ht⟩) hS.2.2 dX2_drop_7
set_option maxHeartbeats 4000000 in
set_option maxRecDepth 100000 in
/-- Records.count -/
theorem kX2_count (l : Launch) (dC : Nat → ClassId) (dI : Nat → Nat → Nat) (cI cZ cH cJ : ClassId) (h0 : Nat) (aT : Nat) (aW : Nat) (aV : Nat) (aS : Nat) (fT : zI) : Met l yX2_count wsX2_count ({ frames := 0, cells := 0, slots := 0, locals := 0 }) (zRc dC dI (zTy cI cZ cH cJ) [.ref h0] ([(h0, .inr (2, [.ref aT, .ref aW, .ref aV, .ref aS])), (aT, .inl (cZ, 20, .inl fT))])) (zSi (zcnt fT 20)) 0 0 (fun _ => False) := by
  refine Met.ofW (cc := cX2_count) (maxL := 3) (ret := (some .int)) (by decide) rfl ?_
  intro p e s m args below meth c s₁ B hml hv0
  obtain ⟨rfl, hP, hK⟩ := hv0
  have hx := B.exec
  have hb := B.bytes
  have hr := B.returns
  have hts := atoms_spec (ws := wsX2_count) B.pre
  have hown : s.vm.findClass RX2 = some m.cls := findClass_of_methodNamed B.named
  have hlocks := B.notSynchronized
  have hl := lv_entry ([.ref h0]) (n := 3) (Nat.le_of_ble_eq_true rfl)
  rw [lg_entry_eq]
  generalize (lg_sl ([.ref h0]) ++ List.replicate (3 - (lg_sl ([.ref h0])).length) Slot.unset).toArray = ls at hl ⊢
  have hl : lv_has ls 3 [(0, .ref h0)] := hl
  have hiX2 : ∀ w ∈ wsX20, w ∈ wsX2_count := by decide +kernel
  have l9 := hts (.fieldLink RX2 9 "CatalogueHarvester$Records" "isThere" "[Z") (by decide +kernel)
  refine lv_iconst (v := 0) hx hb dX2_count_0 (by decide) ?_
  refine lv_istore_n (lv' := [(1, .int 0), (0, .ref h0)]) hx hb dX2_count_1 rfl hl (by decide) rfl (fun ls hl => ?_)
  refine lv_iconst (v := 0) hx hb dX2_count_2 (by decide) ?_
  refine lv_istore_n (lv' := [(2, .int 0), (1, .int 0), (0, .ref h0)]) hx hb dX2_count_3 rfl hl (by decide) rfl (fun ls hl => ?_)
  have LOOP1 : ∀ (n i : Nat), i ≤ 20 → 20 < i + n → ∀ (ls : Array Slot), lv_has ls 3 [(0, .ref h0), (1, .int (zcnt fT i)), (2, .int (nI i))] → W p l e (headSpec wsX2_count ({ frames := 0, cells := 0, slots := 0, locals := 0 })).room s m ([.ref h0] : List Value).toArray below meth c s.heap [] 0 0 (MQ below (zSi (zcnt fT 20)) ([.ref h0] : List Value).toArray s 0 0 (fun _ => False)) (F0 m 4 ls []) := by
    intro n
    induction n with
    | zero => intro i h1 h2; exact absurd h2 (by omega)
    | succ n ih =>
      intro i hi hin   ls hl
      refine lv_iload_n hx hb dX2_count_4 rfl (lv_at hl 2 rfl) ?_
      refine lv_bipush (v := 20) hx hb dX2_count_5 (by decide) ?_
      refine lv_icmp_ge (tgt := 28) hx hb dX2_count_7 (by decide) (fun c_7 => ?_) (fun c_7 => ?_)
      · skip
        have e20 : i = 20 := z_ge (n := 20) hi (by decide) c_7
        subst e20
        refine lv_iload_n hx hb dX2_count_28 rfl (lv_at hl 1 rfl) ?_
        exact W.iret hx hb hr (fun t ht hW => ⟨rfl, ht⟩) (fun _ h => nomatch h) dX2_count_29
      · skip
        have hlt : i < 20 := z_lt (n := 20) hi (by decide) c_7
        refine lv_aload_n hx hb dX2_count_10 rfl (lv_at hl 0 rfl) ?_
        refine va_get (D := (dC, dI)) (ci := 2) (v := .ref aT) (C := RX2) (T := TX2) (N := 4) hx hb hts hiX2 hown hK hP 0 rfl rfl 0 (by decide) l9 (fun _ h9 => h9) rfl dX2_count_11 ?_
        refine lv_iload_n hx hb dX2_count_14 rfl (lv_at hl 2 rfl) ?_
        refine z_zald hx hb hK hP 1 rfl (zix_nI (by first | assumption | omega) (by decide)) dX2_count_15 ?_
        refine z_tv (v := fT i) (rfl) ?_
        refine lv_if_eq (tgt := 22) hx hb dX2_count_16 (by decide) (fun c_16 => ?_) (fun c_16 => ?_)
        · skip
          refine lv_iinc (v := nI (i + 1)) (lv' := [(2, .int (nI (i + 1))), (0, .ref h0), (1, .int (zcnt fT i))]) hx hb dX2_count_22 hl (k := 2) rfl (z_1) (by decide) rfl (fun ls hl => ?_)
          refine lv_goto (tgt := 4) hx hb dX2_count_25 (by decide) ?_
          exact ih (i + 1) (by omega) (by omega)  _ (lv_cg (lv_sub (l' := [(0, .ref h0), (1, .int (zcnt fT i)), (2, .int (nI (i + 1)))]) hl [1, 2, 0] rfl) (zl_k (zl_c (by simp [zcnt, c_16]) (zl_k (rfl)))))
        · skip
          refine lv_iinc (v := (zcnt fT i) + 1) (lv' := [(1, .int ((zcnt fT i) + 1)), (0, .ref h0), (2, .int (nI i))]) hx hb dX2_count_19 hl (k := 1) rfl (rfl) (by decide) rfl (fun ls hl => ?_)
          refine lv_iinc (v := nI (i + 1)) (lv' := [(2, .int (nI (i + 1))), (1, .int ((zcnt fT i) + 1)), (0, .ref h0)]) hx hb dX2_count_22 hl (k := 2) rfl (z_1) (by decide) rfl (fun ls hl => ?_)
          refine lv_goto (tgt := 4) hx hb dX2_count_25 (by decide) ?_
          exact ih (i + 1) (by omega) (by omega)  _ (lv_cg (lv_sub (l' := [(0, .ref h0), (1, .int ((zcnt fT i) + 1)), (2, .int (nI (i + 1)))]) hl [2, 1, 0] rfl) (zl_k (zl_c (by simp [zcnt, c_16]) (zl_k (rfl)))))
  exact LOOP1 (20 + 1) 0 (by omega) (by omega)  _ (lv_cg (lv_sub (l' := [(0, .ref h0), (1, .int 0), (2, .int 0)]) hl [2, 1, 0] rfl) (zl_k (zl_c (rfl) (zl_c (rfl) (rfl)))))
set_option maxHeartbeats 4000000 in
set_option maxRecDepth 100000 in
/-- Records.countOfWork -/
theorem kX2_countOfWork (l : Launch) (dC : Nat → ClassId) (dI : Nat → Nat → Nat) (cI cZ cH cJ : ClassId) (h0 : Nat) (aT : Nat) (aW : Nat) (aV : Nat) (aS : Nat) (fT : zI) (fW : zI) (w : Int32) : Met l yX2_countOfWork wsX2_countOfWork ({ frames := 0, cells := 0, slots := 0, locals := 0 }) (zRc dC dI (zTy cI cZ cH cJ) [.ref h0, .int w] ([(h0, .inr (2, [.ref aT, .ref aW, .ref aV, .ref aS])), (aT, .inl (cZ, 20, .inl fT)), (aW, .inl (cI, 20, .inl fW))])) (zSi (zcow fT fW w 20)) 0 0 (fun _ => False) := by
  refine Met.ofW (cc := cX2_countOfWork) (maxL := 4) (ret := (some .int)) (by decide) rfl ?_
  intro p e s m args below meth c s₁ B hml hv0
  obtain ⟨rfl, hP, hK⟩ := hv0
  have hx := B.exec
  have hb := B.bytes
  have hr := B.returns
  have hts := atoms_spec (ws := wsX2_countOfWork) B.pre
  have hown : s.vm.findClass RX2 = some m.cls := findClass_of_methodNamed B.named
  have hlocks := B.notSynchronized
  have hl := lv_entry ([.ref h0, .int w]) (n := 4) (Nat.le_of_ble_eq_true rfl)
  rw [lg_entry_eq]
  generalize (lg_sl ([.ref h0, .int w]) ++ List.replicate (4 - (lg_sl ([.ref h0, .int w])).length) Slot.unset).toArray = ls at hl ⊢
  have hl : lv_has ls 4 [(0, .ref h0), (1, .int w)] := hl
  have hiX2 : ∀ w ∈ wsX20, w ∈ wsX2_countOfWork := by decide +kernel
  have l9 := hts (.fieldLink RX2 9 "CatalogueHarvester$Records" "isThere" "[Z") (by decide +kernel)
  have l15 := hts (.fieldLink RX2 15 "CatalogueHarvester$Records" "works" "[I") (by decide +kernel)
  refine lv_iconst (v := 0) hx hb dX2_countOfWork_0 (by decide) ?_
  refine lv_istore_n (lv' := [(2, .int 0), (0, .ref h0), (1, .int w)]) hx hb dX2_countOfWork_1 rfl hl (by decide) rfl (fun ls hl => ?_)
  refine lv_iconst (v := 0) hx hb dX2_countOfWork_2 (by decide) ?_
  refine lv_istore_n (lv' := [(3, .int 0), (2, .int 0), (0, .ref h0), (1, .int w)]) hx hb dX2_countOfWork_3 rfl hl (by decide) rfl (fun ls hl => ?_)
  have LOOP1 : ∀ (n i : Nat), i ≤ 20 → 20 < i + n → ∀ (ls : Array Slot), lv_has ls 4 [(0, .ref h0), (1, .int w), (2, .int (zcow fT fW w i)), (3, .int (nI i))] → W p l e (headSpec wsX2_countOfWork ({ frames := 0, cells := 0, slots := 0, locals := 0 })).room s m ([.ref h0, .int w] : List Value).toArray below meth c s.heap [] 0 0 (MQ below (zSi (zcow fT fW w 20)) ([.ref h0, .int w] : List Value).toArray s 0 0 (fun _ => False)) (F0 m 4 ls []) := by
    intro n
    induction n with
    | zero => intro i h1 h2; exact absurd h2 (by omega)
    | succ n ih =>
      intro i hi hin   ls hl
      refine lv_iload_n hx hb dX2_countOfWork_4 rfl (lv_at hl 3 rfl) ?_
      refine lv_bipush (v := 20) hx hb dX2_countOfWork_5 (by decide) ?_
      refine lv_icmp_ge (tgt := 38) hx hb dX2_countOfWork_7 (by decide) (fun c_7 => ?_) (fun c_7 => ?_)
      · skip
        have e20 : i = 20 := z_ge (n := 20) hi (by decide) c_7
        subst e20
        refine lv_iload_n hx hb dX2_countOfWork_38 rfl (lv_at hl 2 rfl) ?_
        exact W.iret hx hb hr (fun t ht hW => ⟨rfl, ht⟩) (fun _ h => nomatch h) dX2_countOfWork_39
      · skip
        have hlt : i < 20 := z_lt (n := 20) hi (by decide) c_7
        refine lv_aload_n hx hb dX2_countOfWork_10 rfl (lv_at hl 0 rfl) ?_
        refine va_get (D := (dC, dI)) (ci := 2) (v := .ref aT) (C := RX2) (T := TX2) (N := 4) hx hb hts hiX2 hown hK hP 0 rfl rfl 0 (by decide) l9 (fun _ h9 => h9) rfl dX2_countOfWork_11 ?_
        refine lv_iload_n hx hb dX2_countOfWork_14 rfl (lv_at hl 3 rfl) ?_
        refine z_zald hx hb hK hP 1 rfl (zix_nI (by first | assumption | omega) (by decide)) dX2_countOfWork_15 ?_
        refine z_tv (v := fT i) (rfl) ?_
        refine lv_if_eq (tgt := 32) hx hb dX2_countOfWork_16 (by decide) (fun c_16 => ?_) (fun c_16 => ?_)
        · skip
          refine lv_iinc (v := nI (i + 1)) (lv' := [(3, .int (nI (i + 1))), (0, .ref h0), (1, .int w), (2, .int (zcow fT fW w i))]) hx hb dX2_countOfWork_32 hl (k := 3) rfl (z_1) (by decide) rfl (fun ls hl => ?_)
          refine lv_goto (tgt := 4) hx hb dX2_countOfWork_35 (by decide) ?_
          exact ih (i + 1) (by omega) (by omega)  _ (lv_cg (lv_sub (l' := [(0, .ref h0), (1, .int w), (2, .int (zcow fT fW w i)), (3, .int (nI (i + 1)))]) hl [1, 2, 3, 0] rfl) (zl_k (zl_k (zl_c (by grind [zcow]) (zl_k (rfl))))))
        · skip
          refine lv_aload_n hx hb dX2_countOfWork_19 rfl (lv_at hl 0 rfl) ?_
          refine va_get (D := (dC, dI)) (ci := 2) (v := .ref aW) (C := RX2) (T := TX2) (N := 4) hx hb hts hiX2 hown hK hP 0 rfl rfl 1 (by decide) l15 (fun _ h9 => h9) rfl dX2_countOfWork_20 ?_
          refine lv_iload_n hx hb dX2_countOfWork_23 rfl (lv_at hl 3 rfl) ?_
          refine z_iald hx hb hK hP 2 rfl (zix_nI (by first | assumption | omega) (by decide)) dX2_countOfWork_24 ?_
          refine z_tv (v := fW i) (rfl) ?_
          refine lv_iload_n hx hb dX2_countOfWork_25 rfl (lv_at hl 1 rfl) ?_
          refine lv_icmp_ne (tgt := 32) hx hb dX2_countOfWork_26 (by decide) (fun c_26 => ?_) (fun c_26 => ?_)
          · skip
            refine lv_iinc (v := nI (i + 1)) (lv' := [(3, .int (nI (i + 1))), (0, .ref h0), (1, .int w), (2, .int (zcow fT fW w i))]) hx hb dX2_countOfWork_32 hl (k := 3) rfl (z_1) (by decide) rfl (fun ls hl => ?_)
            refine lv_goto (tgt := 4) hx hb dX2_countOfWork_35 (by decide) ?_
            exact ih (i + 1) (by omega) (by omega)  _ (lv_cg (lv_sub (l' := [(0, .ref h0), (1, .int w), (2, .int (zcow fT fW w i)), (3, .int (nI (i + 1)))]) hl [1, 2, 3, 0] rfl) (zl_k (zl_k (zl_c (by grind [zcow]) (zl_k (rfl))))))
          · skip
            refine lv_iinc (v := (zcow fT fW w i) + 1) (lv' := [(2, .int ((zcow fT fW w i) + 1)), (0, .ref h0), (1, .int w), (3, .int (nI i))]) hx hb dX2_countOfWork_29 hl (k := 2) rfl (rfl) (by decide) rfl (fun ls hl => ?_)
            refine lv_iinc (v := nI (i + 1)) (lv' := [(3, .int (nI (i + 1))), (2, .int ((zcow fT fW w i) + 1)), (0, .ref h0), (1, .int w)]) hx hb dX2_countOfWork_32 hl (k := 3) rfl (z_1) (by decide) rfl (fun ls hl => ?_)
            refine lv_goto (tgt := 4) hx hb dX2_countOfWork_35 (by decide) ?_
            exact ih (i + 1) (by omega) (by omega)  _ (lv_cg (lv_sub (l' := [(0, .ref h0), (1, .int w), (2, .int ((zcow fT fW w i) + 1)), (3, .int (nI (i + 1)))]) hl [2, 3, 1, 0] rfl) (zl_k (zl_k (zl_c (by grind [zcow]) (zl_k (rfl))))))
  exact LOOP1 (20 + 1) 0 (by omega) (by omega)  _ (lv_cg (lv_sub (l' := [(0, .ref h0), (1, .int w), (2, .int 0), (3, .int 0)]) hl [2, 3, 1, 0] rfl) (zl_k (zl_k (zl_c (rfl) (zl_c (rfl) (rfl))))))
set_option maxHeartbeats 4000000 in
set_option maxRecDepth 100000 in
/-- Records.isLike -/
theorem kX2_isLike (l : Launch) (dC : Nat → ClassId) (dI : Nat → Nat → Nat) (cI cZ cH cJ : ClassId) (h0 : Nat) (aT : Nat) (aW : Nat) (aV : Nat) (aS : Nat) (h0' : Nat) (aT' : Nat) (aW' : Nat) (aV' : Nat) (aS' : Nat) (fT : zI) (fW : zI) (fV : zI) (fS : zI) (fT' : zI) (fW' : zI) (fV' : zI) (fS' : zI) (r : Nat) (hrr : r < 20) : Met l yX2_isLike wsX2_isLike ({ frames := 0, cells := 0, slots := 0, locals := 0 }) (zRc dC dI (zTy cI cZ cH cJ) [.ref h0, .ref h0', .int (nI r)] ([(h0, .inr (2, [.ref aT, .ref aW, .ref aV, .ref aS])), (aT, .inl (cZ, 20, .inl fT)), (aW, .inl (cI, 20, .inl fW)), (aV, .inl (cI, 20, .inl fV)), (aS, .inl (cI, 20, .inl fS)), (h0', .inr (2, [.ref aT', .ref aW', .ref aV', .ref aS'])), (aT', .inl (cZ, 20, .inl fT')), (aW', .inl (cI, 20, .inl fW')), (aV', .inl (cI, 20, .inl fV')), (aS', .inl (cI, 20, .inl fS'))])) (zSi (zlike fT fW fV fS fT' fW' fV' fS' r)) 0 0 (fun _ => False) := by
  refine Met.ofW (cc := cX2_isLike) (maxL := 3) (ret := (some .boolean)) (by decide) rfl ?_
  intro p e s m args below meth c s₁ B hml hv0
  obtain ⟨rfl, hP, hK⟩ := hv0
  have hx := B.exec
  have hb := B.bytes
  have hr := B.returns
  have hts := atoms_spec (ws := wsX2_isLike) B.pre
  have hown : s.vm.findClass RX2 = some m.cls := findClass_of_methodNamed B.named
  have hlocks := B.notSynchronized
  have hl := lv_entry ([.ref h0, .ref h0', .int (nI r)]) (n := 3) (Nat.le_of_ble_eq_true rfl)
  rw [lg_entry_eq]
  generalize (lg_sl ([.ref h0, .ref h0', .int (nI r)]) ++ List.replicate (3 - (lg_sl ([.ref h0, .ref h0', .int (nI r)])).length) Slot.unset).toArray = ls at hl ⊢
  have hl : lv_has ls 3 [(0, .ref h0), (1, .ref h0'), (2, .int (nI r))] := hl
  have hiX2 : ∀ w ∈ wsX20, w ∈ wsX2_isLike := by decide +kernel
  have l9 := hts (.fieldLink RX2 9 "CatalogueHarvester$Records" "isThere" "[Z") (by decide +kernel)
  have l15 := hts (.fieldLink RX2 15 "CatalogueHarvester$Records" "works" "[I") (by decide +kernel)
  have l19 := hts (.fieldLink RX2 19 "CatalogueHarvester$Records" "values" "[I") (by decide +kernel)
  have l22 := hts (.fieldLink RX2 22 "CatalogueHarvester$Records" "stamps" "[I") (by decide +kernel)
  refine lv_aload_n hx hb dX2_isLike_0 rfl (lv_at hl 0 rfl) ?_
  refine va_get (D := (dC, dI)) (ci := 2) (v := .ref aT) (C := RX2) (T := TX2) (N := 4) hx hb hts hiX2 hown hK hP 0 rfl rfl 0 (by decide) l9 (fun _ h9 => h9) rfl dX2_isLike_1 ?_
  refine lv_iload_n hx hb dX2_isLike_4 rfl (lv_at hl 2 rfl) ?_
  refine z_zald hx hb hK hP 1 rfl (zix_nI (by first | assumption | omega) (by decide)) dX2_isLike_5 ?_
  refine z_tv (v := fT r) (rfl) ?_
  refine lv_if_eq (tgt := 18) hx hb dX2_isLike_6 (by decide) (fun c_6 => ?_) (fun c_6 => ?_)
  · skip
    refine lv_aload_n hx hb dX2_isLike_18 rfl (lv_at hl 0 rfl) ?_
    refine va_get (D := (dC, dI)) (ci := 2) (v := .ref aT) (C := RX2) (T := TX2) (N := 4) hx hb hts hiX2 hown hK hP 0 rfl rfl 0 (by decide) l9 (fun _ h9 => h9) rfl dX2_isLike_19 ?_
    refine lv_iload_n hx hb dX2_isLike_22 rfl (lv_at hl 2 rfl) ?_
    refine z_zald hx hb hK hP 1 rfl (zix_nI (by first | assumption | omega) (by decide)) dX2_isLike_23 ?_
    refine z_tv (v := fT r) (rfl) ?_
    refine lv_aload_n hx hb dX2_isLike_24 rfl (lv_at hl 1 rfl) ?_
    refine va_get (D := (dC, dI)) (ci := 2) (v := .ref aT') (C := RX2) (T := TX2) (N := 4) hx hb hts hiX2 hown hK hP 5 rfl rfl 0 (by decide) l9 (fun _ h9 => h9) rfl dX2_isLike_25 ?_
    refine lv_iload_n hx hb dX2_isLike_28 rfl (lv_at hl 2 rfl) ?_
    refine z_zald hx hb hK hP 6 rfl (zix_nI (by first | assumption | omega) (by decide)) dX2_isLike_29 ?_
    refine z_tv (v := fT' r) (rfl) ?_
    refine lv_icmp_ne (tgt := 37) hx hb dX2_isLike_30 (by decide) (fun c_30 => ?_) (fun c_30 => ?_)
    · skip
      refine lv_iconst (v := 0) hx hb dX2_isLike_37 (by decide) ?_
      refine z_tv (v := zlike fT fW fV fS fT' fW' fV' fS' r) (by unfold zlike; grind) ?_
      exact W.zret (ty := .boolean) hx hb hr (z_nl _ _ _ _ _ _ _ _ _) (fun t ht hW => ⟨rfl, ht⟩) (fun _ h => nomatch h) dX2_isLike_38
    · skip
      refine lv_iconst (v := 1) hx hb dX2_isLike_33 (by decide) ?_
      refine lv_goto (tgt := 38) hx hb dX2_isLike_34 (by decide) ?_
      refine z_tv (v := zlike fT fW fV fS fT' fW' fV' fS' r) (by unfold zlike; grind) ?_
      exact W.zret (ty := .boolean) hx hb hr (z_nl _ _ _ _ _ _ _ _ _) (fun t ht hW => ⟨rfl, ht⟩) (fun _ h => nomatch h) dX2_isLike_38
  · skip
    refine lv_aload_n hx hb dX2_isLike_9 rfl (lv_at hl 1 rfl) ?_
    refine va_get (D := (dC, dI)) (ci := 2) (v := .ref aT') (C := RX2) (T := TX2) (N := 4) hx hb hts hiX2 hown hK hP 5 rfl rfl 0 (by decide) l9 (fun _ h9 => h9) rfl dX2_isLike_10 ?_
    refine lv_iload_n hx hb dX2_isLike_13 rfl (lv_at hl 2 rfl) ?_
    refine z_zald hx hb hK hP 6 rfl (zix_nI (by first | assumption | omega) (by decide)) dX2_isLike_14 ?_
    refine z_tv (v := fT' r) (rfl) ?_
    refine lv_if_ne (tgt := 39) hx hb dX2_isLike_15 (by decide) (fun c_15 => ?_) (fun c_15 => ?_)
    · skip
      refine lv_aload_n hx hb dX2_isLike_39 rfl (lv_at hl 0 rfl) ?_
      refine va_get (D := (dC, dI)) (ci := 2) (v := .ref aW) (C := RX2) (T := TX2) (N := 4) hx hb hts hiX2 hown hK hP 0 rfl rfl 1 (by decide) l15 (fun _ h9 => h9) rfl dX2_isLike_40 ?_
      refine lv_iload_n hx hb dX2_isLike_43 rfl (lv_at hl 2 rfl) ?_
      refine z_iald hx hb hK hP 2 rfl (zix_nI (by first | assumption | omega) (by decide)) dX2_isLike_44 ?_
      refine z_tv (v := fW r) (rfl) ?_
      refine lv_aload_n hx hb dX2_isLike_45 rfl (lv_at hl 1 rfl) ?_
      refine va_get (D := (dC, dI)) (ci := 2) (v := .ref aW') (C := RX2) (T := TX2) (N := 4) hx hb hts hiX2 hown hK hP 5 rfl rfl 1 (by decide) l15 (fun _ h9 => h9) rfl dX2_isLike_46 ?_
      refine lv_iload_n hx hb dX2_isLike_49 rfl (lv_at hl 2 rfl) ?_
      refine z_iald hx hb hK hP 7 rfl (zix_nI (by first | assumption | omega) (by decide)) dX2_isLike_50 ?_
      refine z_tv (v := fW' r) (rfl) ?_
      refine lv_icmp_ne (tgt := 88) hx hb dX2_isLike_51 (by decide) (fun c_51 => ?_) (fun c_51 => ?_)
      · skip
        refine lv_iconst (v := 0) hx hb dX2_isLike_88 (by decide) ?_
        refine z_tv (v := zlike fT fW fV fS fT' fW' fV' fS' r) (by unfold zlike; grind) ?_
        exact W.zret (ty := .boolean) hx hb hr (z_nl _ _ _ _ _ _ _ _ _) (fun t ht hW => ⟨rfl, ht⟩) (fun _ h => nomatch h) dX2_isLike_89
      · skip
        refine lv_aload_n hx hb dX2_isLike_54 rfl (lv_at hl 0 rfl) ?_
        refine va_get (D := (dC, dI)) (ci := 2) (v := .ref aV) (C := RX2) (T := TX2) (N := 4) hx hb hts hiX2 hown hK hP 0 rfl rfl 2 (by decide) l19 (fun _ h9 => h9) rfl dX2_isLike_55 ?_
        refine lv_iload_n hx hb dX2_isLike_58 rfl (lv_at hl 2 rfl) ?_
        refine z_iald hx hb hK hP 3 rfl (zix_nI (by first | assumption | omega) (by decide)) dX2_isLike_59 ?_
        refine z_tv (v := fV r) (rfl) ?_
        refine lv_aload_n hx hb dX2_isLike_60 rfl (lv_at hl 1 rfl) ?_
        refine va_get (D := (dC, dI)) (ci := 2) (v := .ref aV') (C := RX2) (T := TX2) (N := 4) hx hb hts hiX2 hown hK hP 5 rfl rfl 2 (by decide) l19 (fun _ h9 => h9) rfl dX2_isLike_61 ?_
        refine lv_iload_n hx hb dX2_isLike_64 rfl (lv_at hl 2 rfl) ?_
        refine z_iald hx hb hK hP 8 rfl (zix_nI (by first | assumption | omega) (by decide)) dX2_isLike_65 ?_
        refine z_tv (v := fV' r) (rfl) ?_
        refine lv_icmp_ne (tgt := 88) hx hb dX2_isLike_66 (by decide) (fun c_66 => ?_) (fun c_66 => ?_)
        · skip
          refine lv_iconst (v := 0) hx hb dX2_isLike_88 (by decide) ?_
          refine z_tv (v := zlike fT fW fV fS fT' fW' fV' fS' r) (by unfold zlike; grind) ?_
          exact W.zret (ty := .boolean) hx hb hr (z_nl _ _ _ _ _ _ _ _ _) (fun t ht hW => ⟨rfl, ht⟩) (fun _ h => nomatch h) dX2_isLike_89
        · skip
          refine lv_aload_n hx hb dX2_isLike_69 rfl (lv_at hl 0 rfl) ?_
          refine va_get (D := (dC, dI)) (ci := 2) (v := .ref aS) (C := RX2) (T := TX2) (N := 4) hx hb hts hiX2 hown hK hP 0 rfl rfl 3 (by decide) l22 (fun _ h9 => h9) rfl dX2_isLike_70 ?_
          refine lv_iload_n hx hb dX2_isLike_73 rfl (lv_at hl 2 rfl) ?_
          refine z_iald hx hb hK hP 4 rfl (zix_nI (by first | assumption | omega) (by decide)) dX2_isLike_74 ?_
          refine z_tv (v := fS r) (rfl) ?_
          refine lv_aload_n hx hb dX2_isLike_75 rfl (lv_at hl 1 rfl) ?_
          refine va_get (D := (dC, dI)) (ci := 2) (v := .ref aS') (C := RX2) (T := TX2) (N := 4) hx hb hts hiX2 hown hK hP 5 rfl rfl 3 (by decide) l22 (fun _ h9 => h9) rfl dX2_isLike_76 ?_
          refine lv_iload_n hx hb dX2_isLike_79 rfl (lv_at hl 2 rfl) ?_
          refine z_iald hx hb hK hP 9 rfl (zix_nI (by first | assumption | omega) (by decide)) dX2_isLike_80 ?_
          refine z_tv (v := fS' r) (rfl) ?_
          refine lv_icmp_ne (tgt := 88) hx hb dX2_isLike_81 (by decide) (fun c_81 => ?_) (fun c_81 => ?_)
          · skip
            refine lv_iconst (v := 0) hx hb dX2_isLike_88 (by decide) ?_
            refine z_tv (v := zlike fT fW fV fS fT' fW' fV' fS' r) (by unfold zlike; grind) ?_
            exact W.zret (ty := .boolean) hx hb hr (z_nl _ _ _ _ _ _ _ _ _) (fun t ht hW => ⟨rfl, ht⟩) (fun _ h => nomatch h) dX2_isLike_89
          · skip
            refine lv_iconst (v := 1) hx hb dX2_isLike_84 (by decide) ?_
            refine lv_goto (tgt := 89) hx hb dX2_isLike_85 (by decide) ?_
            refine z_tv (v := zlike fT fW fV fS fT' fW' fV' fS' r) (by unfold zlike; grind) ?_
            exact W.zret (ty := .boolean) hx hb hr (z_nl _ _ _ _ _ _ _ _ _) (fun t ht hW => ⟨rfl, ht⟩) (fun _ h => nomatch h) dX2_isLike_89
    · skip
      refine lv_aload_n hx hb dX2_isLike_18 rfl (lv_at hl 0 rfl) ?_
      refine va_get (D := (dC, dI)) (ci := 2) (v := .ref aT) (C := RX2) (T := TX2) (N := 4) hx hb hts hiX2 hown hK hP 0 rfl rfl 0 (by decide) l9 (fun _ h9 => h9) rfl dX2_isLike_19 ?_
      refine lv_iload_n hx hb dX2_isLike_22 rfl (lv_at hl 2 rfl) ?_
      refine z_zald hx hb hK hP 1 rfl (zix_nI (by first | assumption | omega) (by decide)) dX2_isLike_23 ?_
      refine z_tv (v := fT r) (rfl) ?_
      refine lv_aload_n hx hb dX2_isLike_24 rfl (lv_at hl 1 rfl) ?_
      refine va_get (D := (dC, dI)) (ci := 2) (v := .ref aT') (C := RX2) (T := TX2) (N := 4) hx hb hts hiX2 hown hK hP 5 rfl rfl 0 (by decide) l9 (fun _ h9 => h9) rfl dX2_isLike_25 ?_
      refine lv_iload_n hx hb dX2_isLike_28 rfl (lv_at hl 2 rfl) ?_
      refine z_zald hx hb hK hP 6 rfl (zix_nI (by first | assumption | omega) (by decide)) dX2_isLike_29 ?_
      refine z_tv (v := fT' r) (rfl) ?_
      refine lv_icmp_ne (tgt := 37) hx hb dX2_isLike_30 (by decide) (fun c_30 => ?_) (fun c_30 => ?_)
      · skip
        refine lv_iconst (v := 0) hx hb dX2_isLike_37 (by decide) ?_
        refine z_tv (v := zlike fT fW fV fS fT' fW' fV' fS' r) (by unfold zlike; grind) ?_
        exact W.zret (ty := .boolean) hx hb hr (z_nl _ _ _ _ _ _ _ _ _) (fun t ht hW => ⟨rfl, ht⟩) (fun _ h => nomatch h) dX2_isLike_38
      · skip
        refine lv_iconst (v := 1) hx hb dX2_isLike_33 (by decide) ?_
        refine lv_goto (tgt := 38) hx hb dX2_isLike_34 (by decide) ?_
        refine z_tv (v := zlike fT fW fV fS fT' fW' fV' fS' r) (by unfold zlike; grind) ?_
        exact W.zret (ty := .boolean) hx hb hr (z_nl _ _ _ _ _ _ _ _ _) (fun t ht hW => ⟨rfl, ht⟩) (fun _ h => nomatch h) dX2_isLike_38
set_option maxHeartbeats 4000000 in
set_option maxRecDepth 100000 in
/-- Records.countUnlike -/
theorem kX2_countUnlike (l : Launch) (dC : Nat → ClassId) (dI : Nat → Nat → Nat) (cI cZ cH cJ : ClassId) (h0 : Nat) (aT : Nat) (aW : Nat) (aV : Nat) (aS : Nat) (h0' : Nat) (aT' : Nat) (aW' : Nat) (aV' : Nat) (aS' : Nat) (fT : zI) (fW : zI) (fV : zI) (fS : zI) (fT' : zI) (fW' : zI) (fV' : zI) (fS' : zI) : Met l yX2_countUnlike wsX2_countUnlike ({ frames := 1, cells := 0, slots := 0, locals := 22 }) (zRc dC dI (zTy cI cZ cH cJ) [.ref h0, .ref h0'] ([(h0, .inr (2, [.ref aT, .ref aW, .ref aV, .ref aS])), (aT, .inl (cZ, 20, .inl fT)), (aW, .inl (cI, 20, .inl fW)), (aV, .inl (cI, 20, .inl fV)), (aS, .inl (cI, 20, .inl fS)), (h0', .inr (2, [.ref aT', .ref aW', .ref aV', .ref aS'])), (aT', .inl (cZ, 20, .inl fT')), (aW', .inl (cI, 20, .inl fW')), (aV', .inl (cI, 20, .inl fV')), (aS', .inl (cI, 20, .inl fS'))])) (zSi (zcu fT fW fV fS fT' fW' fV' fS' 20)) 0 0 (fun _ => False) := by
  refine Met.ofW (cc := cX2_countUnlike) (maxL := 4) (ret := (some .int)) (by decide) rfl ?_
  intro p e s m args below meth c s₁ B hml hv0
  obtain ⟨rfl, hP, hK⟩ := hv0
  have hx := B.exec
  have hb := B.bytes
  have hr := B.returns
  have hts := atoms_spec (ws := wsX2_countUnlike) B.pre
  have hown : s.vm.findClass RX2 = some m.cls := findClass_of_methodNamed B.named
  have hlocks := B.notSynchronized
  have hl := lv_entry ([.ref h0, .ref h0']) (n := 4) (Nat.le_of_ble_eq_true rfl)
  rw [lg_entry_eq]
  generalize (lg_sl ([.ref h0, .ref h0']) ++ List.replicate (4 - (lg_sl ([.ref h0, .ref h0'])).length) Slot.unset).toArray = ls at hl ⊢
  have hl : lv_has ls 4 [(0, .ref h0), (1, .ref h0')] := hl
  refine lv_iconst (v := 0) hx hb dX2_countUnlike_0 (by decide) ?_
  refine lv_istore_n (lv' := [(2, .int 0), (0, .ref h0), (1, .ref h0')]) hx hb dX2_countUnlike_1 rfl hl (by decide) rfl (fun ls hl => ?_)
  refine lv_iconst (v := 0) hx hb dX2_countUnlike_2 (by decide) ?_
  refine lv_istore_n (lv' := [(3, .int 0), (2, .int 0), (0, .ref h0), (1, .ref h0')]) hx hb dX2_countUnlike_3 rfl hl (by decide) rfl (fun ls hl => ?_)
  have LOOP1 : ∀ (n i : Nat), i ≤ 20 → 20 < i + n → ∀ (ls : Array Slot), lv_has ls 4 [(0, .ref h0), (1, .ref h0'), (2, .int (zcu fT fW fV fS fT' fW' fV' fS' i)), (3, .int (nI i))] → W p l e (headSpec wsX2_countUnlike ({ frames := 1, cells := 0, slots := 0, locals := 22 })).room s m ([.ref h0, .ref h0'] : List Value).toArray below meth c s.heap [] 0 0 (MQ below (zSi (zcu fT fW fV fS fT' fW' fV' fS' 20)) ([.ref h0, .ref h0'] : List Value).toArray s 0 0 (fun _ => False)) (F0 m 4 ls []) := by
    intro n
    induction n with
    | zero => intro i h1 h2; exact absurd h2 (by omega)
    | succ n ih =>
      intro i hi hin   ls hl
      refine lv_iload_n hx hb dX2_countUnlike_4 rfl (lv_at hl 3 rfl) ?_
      refine lv_bipush (v := 20) hx hb dX2_countUnlike_5 (by decide) ?_
      refine lv_icmp_ge (tgt := 28) hx hb dX2_countUnlike_7 (by decide) (fun c_7 => ?_) (fun c_7 => ?_)
      · skip
        have e20 : i = 20 := z_ge (n := 20) hi (by decide) c_7
        subst e20
        refine lv_iload_n hx hb dX2_countUnlike_28 rfl (lv_at hl 2 rfl) ?_
        exact W.iret hx hb hr (fun t ht hW => ⟨rfl, ht⟩) (fun _ h => nomatch h) dX2_countUnlike_29
      · skip
        have hlt : i < 20 := z_lt (n := 20) hi (by decide) c_7
        refine lv_aload_n hx hb dX2_countUnlike_10 rfl (lv_at hl 0 rfl) ?_
        refine lv_aload_n hx hb dX2_countUnlike_11 rfl (lv_at hl 1 rfl) ?_
        refine lv_iload_n hx hb dX2_countUnlike_12 rfl (lv_at hl 3 rfl) ?_
        refine z_cRi (va_runV (As := [.ref h0', .int (nI i)]) (rest := []) ⟨hx, hb, hml, hown, hts⟩ (kX2_isLike l dC dI cI cZ cH cJ h0 aT aW aV aS h0' aT' aW' aV' aS' fT fW fV fS fT' fW' fV' fS' i (by first | assumption | omega)) (cwV 2 hts gX2_countUnlike_X2_isLike rfl rfl rfl (by decide +kernel) ⟨Nat.le_of_ble_eq_true rfl, Nat.le_of_ble_eq_true rfl⟩) (zPreR (is := [0, 1, 2, 3, 4, 5, 6, 7, 8, 9]) hK hP rfl (va_recv hK hP (ci := 2) (q0 := 0) rfl rfl)) rfl rfl hl.1 rfl (lv_room (Nat.le_of_ble_eq_true rfl)) dX2_countUnlike_13 ⟨Nat.le_of_ble_eq_true rfl, Nat.le_of_ble_eq_true rfl⟩) ?_
        refine z_tv (v := zlike fT fW fV fS fT' fW' fV' fS' i) rfl ?_
        refine lv_if_ne (tgt := 22) hx hb dX2_countUnlike_16 (by decide) (fun c_16 => ?_) (fun c_16 => ?_)
        · skip
          refine lv_iinc (v := nI (i + 1)) (lv' := [(3, .int (nI (i + 1))), (0, .ref h0), (1, .ref h0'), (2, .int (zcu fT fW fV fS fT' fW' fV' fS' i))]) hx hb dX2_countUnlike_22 hl (k := 3) rfl (z_1) (by decide) rfl (fun ls hl => ?_)
          refine lv_goto (tgt := 4) hx hb dX2_countUnlike_25 (by decide) ?_
          exact ih (i + 1) (by omega) (by omega)  _ (lv_cg (lv_sub (l' := [(0, .ref h0), (1, .ref h0'), (2, .int (zcu fT fW fV fS fT' fW' fV' fS' i)), (3, .int (nI (i + 1)))]) hl [1, 2, 3, 0] rfl) (zl_k (zl_k (zl_c (by grind [zcu]) (zl_k (rfl))))))
        · skip
          refine lv_iinc (v := (zcu fT fW fV fS fT' fW' fV' fS' i) + 1) (lv' := [(2, .int ((zcu fT fW fV fS fT' fW' fV' fS' i) + 1)), (0, .ref h0), (1, .ref h0'), (3, .int (nI i))]) hx hb dX2_countUnlike_19 hl (k := 2) rfl (rfl) (by decide) rfl (fun ls hl => ?_)
          refine lv_iinc (v := nI (i + 1)) (lv' := [(3, .int (nI (i + 1))), (2, .int ((zcu fT fW fV fS fT' fW' fV' fS' i) + 1)), (0, .ref h0), (1, .ref h0')]) hx hb dX2_countUnlike_22 hl (k := 3) rfl (z_1) (by decide) rfl (fun ls hl => ?_)
          refine lv_goto (tgt := 4) hx hb dX2_countUnlike_25 (by decide) ?_
          exact ih (i + 1) (by omega) (by omega)  _ (lv_cg (lv_sub (l' := [(0, .ref h0), (1, .ref h0'), (2, .int ((zcu fT fW fV fS fT' fW' fV' fS' i) + 1)), (3, .int (nI (i + 1)))]) hl [2, 3, 1, 0] rfl) (zl_k (zl_k (zl_c (by grind [zcu]) (zl_k (rfl))))))
  exact LOOP1 (20 + 1) 0 (by omega) (by omega)  _ (lv_cg (lv_sub (l' := [(0, .ref h0), (1, .ref h0'), (2, .int 0), (3, .int 0)]) hl [2, 3, 1, 0] rfl) (zl_k (zl_k (zl_c (rfl) (zl_c (rfl) (rfl))))))
set_option maxHeartbeats 4000000 in
set_option maxRecDepth 100000 in
/-- Records.latestOfWork -/
theorem kX2_latestOfWork (l : Launch) (dC : Nat → ClassId) (dI : Nat → Nat → Nat) (cI cZ cH cJ : ClassId) (h0 : Nat) (aT : Nat) (aW : Nat) (aV : Nat) (aS : Nat) (fT : zI) (fW : zI) (fV : zI) (fS : zI) (w : Int32) : Met l yX2_latestOfWork wsX2_latestOfWork ({ frames := 0, cells := 0, slots := 0, locals := 0 }) (zRc dC dI (zTy cI cZ cH cJ) [.ref h0, .int w] ([(h0, .inr (2, [.ref aT, .ref aW, .ref aV, .ref aS])), (aT, .inl (cZ, 20, .inl fT)), (aW, .inl (cI, 20, .inl fW)), (aV, .inl (cI, 20, .inl fV)), (aS, .inl (cI, 20, .inl fS))])) (zSi ((zlat fT fW fS w 20).1)) 0 0 (fun _ => False) := by
  refine Met.ofW (cc := cX2_latestOfWork) (maxL := 5) (ret := (some .int)) (by decide) rfl ?_
  intro p e s m args below meth c s₁ B hml hv0
  obtain ⟨rfl, hP, hK⟩ := hv0
  have hx := B.exec
  have hb := B.bytes
  have hr := B.returns
  have hts := atoms_spec (ws := wsX2_latestOfWork) B.pre
  have hown : s.vm.findClass RX2 = some m.cls := findClass_of_methodNamed B.named
  have hlocks := B.notSynchronized
  have hl := lv_entry ([.ref h0, .int w]) (n := 5) (Nat.le_of_ble_eq_true rfl)
  rw [lg_entry_eq]
  generalize (lg_sl ([.ref h0, .int w]) ++ List.replicate (5 - (lg_sl ([.ref h0, .int w])).length) Slot.unset).toArray = ls at hl ⊢
  have hl : lv_has ls 5 [(0, .ref h0), (1, .int w)] := hl
  have hiX2 : ∀ w ∈ wsX20, w ∈ wsX2_latestOfWork := by decide +kernel
  have l9 := hts (.fieldLink RX2 9 "CatalogueHarvester$Records" "isThere" "[Z") (by decide +kernel)
  have l15 := hts (.fieldLink RX2 15 "CatalogueHarvester$Records" "works" "[I") (by decide +kernel)
  have l22 := hts (.fieldLink RX2 22 "CatalogueHarvester$Records" "stamps" "[I") (by decide +kernel)
  refine lv_iconst (v := (-1)) hx hb dX2_latestOfWork_0 (by decide) ?_
  refine lv_istore_n (lv' := [(2, .int (-1)), (0, .ref h0), (1, .int w)]) hx hb dX2_latestOfWork_1 rfl hl (by decide) rfl (fun ls hl => ?_)
  refine lv_iconst (v := (-1)) hx hb dX2_latestOfWork_2 (by decide) ?_
  refine lv_istore_n (lv' := [(3, .int (-1)), (2, .int (-1)), (0, .ref h0), (1, .int w)]) hx hb dX2_latestOfWork_3 rfl hl (by decide) rfl (fun ls hl => ?_)
  refine lv_iconst (v := 0) hx hb dX2_latestOfWork_4 (by decide) ?_
  refine lv_istore (lv' := [(4, .int 0), (3, .int (-1)), (2, .int (-1)), (0, .ref h0), (1, .int w)]) hx hb dX2_latestOfWork_5 hl (by decide) rfl (fun ls hl => ?_)
  have LOOP1 : ∀ (n i : Nat), i ≤ 20 → 20 < i + n → ∀ (ls : Array Slot), lv_has ls 5 [(0, .ref h0), (1, .int w), (2, .int ((zlat fT fW fS w i).1)), (3, .int ((zlat fT fW fS w i).2)), (4, .int (nI i))] → W p l e (headSpec wsX2_latestOfWork ({ frames := 0, cells := 0, slots := 0, locals := 0 })).room s m ([.ref h0, .int w] : List Value).toArray below meth c s.heap [] 0 0 (MQ below (zSi ((zlat fT fW fS w 20).1)) ([.ref h0, .int w] : List Value).toArray s 0 0 (fun _ => False)) (F0 m 7 ls []) := by
    intro n
    induction n with
    | zero => intro i h1 h2; exact absurd h2 (by omega)
    | succ n ih =>
      intro i hi hin   ls hl
      refine lv_iload hx hb dX2_latestOfWork_7 (lv_at hl 4 rfl) ?_
      refine lv_bipush (v := 20) hx hb dX2_latestOfWork_9 (by decide) ?_
      refine lv_icmp_ge (tgt := 63) hx hb dX2_latestOfWork_11 (by decide) (fun c_11 => ?_) (fun c_11 => ?_)
      · skip
        have e20 : i = 20 := z_ge (n := 20) hi (by decide) c_11
        subst e20
        refine lv_iload_n hx hb dX2_latestOfWork_63 rfl (lv_at hl 2 rfl) ?_
        exact W.iret hx hb hr (fun t ht hW => ⟨rfl, ht⟩) (fun _ h => nomatch h) dX2_latestOfWork_64
      · skip
        have hlt : i < 20 := z_lt (n := 20) hi (by decide) c_11
        refine lv_aload_n hx hb dX2_latestOfWork_14 rfl (lv_at hl 0 rfl) ?_
        refine va_get (D := (dC, dI)) (ci := 2) (v := .ref aT) (C := RX2) (T := TX2) (N := 4) hx hb hts hiX2 hown hK hP 0 rfl rfl 0 (by decide) l9 (fun _ h9 => h9) rfl dX2_latestOfWork_15 ?_
        refine lv_iload hx hb dX2_latestOfWork_18 (lv_at hl 4 rfl) ?_
        refine z_zald hx hb hK hP 1 rfl (zix_nI (by first | assumption | omega) (by decide)) dX2_latestOfWork_20 ?_
        refine z_tv (v := fT i) (rfl) ?_
        refine lv_if_eq (tgt := 57) hx hb dX2_latestOfWork_21 (by decide) (fun c_21 => ?_) (fun c_21 => ?_)
        · skip
          refine lv_iinc (v := nI (i + 1)) (lv' := [(4, .int (nI (i + 1))), (0, .ref h0), (1, .int w), (2, .int ((zlat fT fW fS w i).1)), (3, .int ((zlat fT fW fS w i).2))]) hx hb dX2_latestOfWork_57 hl (k := 4) rfl (z_1) (by decide) rfl (fun ls hl => ?_)
          refine lv_goto (tgt := 7) hx hb dX2_latestOfWork_60 (by decide) ?_
          exact ih (i + 1) (by omega) (by omega)  _ (lv_cg (lv_sub (l' := [(0, .ref h0), (1, .int w), (2, .int ((zlat fT fW fS w i).1)), (3, .int ((zlat fT fW fS w i).2)), (4, .int (nI (i + 1)))]) hl [1, 2, 3, 4, 0] rfl) (zl_k (zl_k (zl_c (by grind [zlat]) (zl_c (by grind [zlat]) (zl_k (rfl)))))))
        · skip
          refine lv_aload_n hx hb dX2_latestOfWork_24 rfl (lv_at hl 0 rfl) ?_
          refine va_get (D := (dC, dI)) (ci := 2) (v := .ref aW) (C := RX2) (T := TX2) (N := 4) hx hb hts hiX2 hown hK hP 0 rfl rfl 1 (by decide) l15 (fun _ h9 => h9) rfl dX2_latestOfWork_25 ?_
          refine lv_iload hx hb dX2_latestOfWork_28 (lv_at hl 4 rfl) ?_
          refine z_iald hx hb hK hP 2 rfl (zix_nI (by first | assumption | omega) (by decide)) dX2_latestOfWork_30 ?_
          refine z_tv (v := fW i) (rfl) ?_
          refine lv_iload_n hx hb dX2_latestOfWork_31 rfl (lv_at hl 1 rfl) ?_
          refine lv_icmp_ne (tgt := 57) hx hb dX2_latestOfWork_32 (by decide) (fun c_32 => ?_) (fun c_32 => ?_)
          · skip
            refine lv_iinc (v := nI (i + 1)) (lv' := [(4, .int (nI (i + 1))), (0, .ref h0), (1, .int w), (2, .int ((zlat fT fW fS w i).1)), (3, .int ((zlat fT fW fS w i).2))]) hx hb dX2_latestOfWork_57 hl (k := 4) rfl (z_1) (by decide) rfl (fun ls hl => ?_)
            refine lv_goto (tgt := 7) hx hb dX2_latestOfWork_60 (by decide) ?_
            exact ih (i + 1) (by omega) (by omega)  _ (lv_cg (lv_sub (l' := [(0, .ref h0), (1, .int w), (2, .int ((zlat fT fW fS w i).1)), (3, .int ((zlat fT fW fS w i).2)), (4, .int (nI (i + 1)))]) hl [1, 2, 3, 4, 0] rfl) (zl_k (zl_k (zl_c (by grind [zlat]) (zl_c (by grind [zlat]) (zl_k (rfl)))))))
          · skip
            refine lv_aload_n hx hb dX2_latestOfWork_35 rfl (lv_at hl 0 rfl) ?_
            refine va_get (D := (dC, dI)) (ci := 2) (v := .ref aS) (C := RX2) (T := TX2) (N := 4) hx hb hts hiX2 hown hK hP 0 rfl rfl 3 (by decide) l22 (fun _ h9 => h9) rfl dX2_latestOfWork_36 ?_
            refine lv_iload hx hb dX2_latestOfWork_39 (lv_at hl 4 rfl) ?_
            refine z_iald hx hb hK hP 4 rfl (zix_nI (by first | assumption | omega) (by decide)) dX2_latestOfWork_41 ?_
            refine z_tv (v := fS i) (rfl) ?_
            refine lv_iload_n hx hb dX2_latestOfWork_42 rfl (lv_at hl 3 rfl) ?_
            refine lv_icmp_le (tgt := 57) hx hb dX2_latestOfWork_43 (by decide) (fun c_43 => ?_) (fun c_43 => ?_)
            · skip
              refine lv_iinc (v := nI (i + 1)) (lv' := [(4, .int (nI (i + 1))), (0, .ref h0), (1, .int w), (2, .int ((zlat fT fW fS w i).1)), (3, .int ((zlat fT fW fS w i).2))]) hx hb dX2_latestOfWork_57 hl (k := 4) rfl (z_1) (by decide) rfl (fun ls hl => ?_)
              refine lv_goto (tgt := 7) hx hb dX2_latestOfWork_60 (by decide) ?_
              exact ih (i + 1) (by omega) (by omega)  _ (lv_cg (lv_sub (l' := [(0, .ref h0), (1, .int w), (2, .int ((zlat fT fW fS w i).1)), (3, .int ((zlat fT fW fS w i).2)), (4, .int (nI (i + 1)))]) hl [1, 2, 3, 4, 0] rfl) (zl_k (zl_k (zl_c (by grind [zlat]) (zl_c (by grind [zlat]) (zl_k (rfl)))))))
            · skip
              refine lv_iload hx hb dX2_latestOfWork_46 (lv_at hl 4 rfl) ?_
              refine lv_istore_n (lv' := [(2, .int (nI i)), (0, .ref h0), (1, .int w), (3, .int ((zlat fT fW fS w i).2)), (4, .int (nI i))]) hx hb dX2_latestOfWork_48 rfl hl (by decide) rfl (fun ls hl => ?_)
              refine lv_aload_n hx hb dX2_latestOfWork_49 rfl (lv_at hl 1 rfl) ?_
              refine va_get (D := (dC, dI)) (ci := 2) (v := .ref aS) (C := RX2) (T := TX2) (N := 4) hx hb hts hiX2 hown hK hP 0 rfl rfl 3 (by decide) l22 (fun _ h9 => h9) rfl dX2_latestOfWork_50 ?_
              refine lv_iload hx hb dX2_latestOfWork_53 (lv_at hl 4 rfl) ?_
              refine z_iald hx hb hK hP 4 rfl (zix_nI (by first | assumption | omega) (by decide)) dX2_latestOfWork_55 ?_
              refine z_tv (v := fS i) (rfl) ?_
              refine lv_istore_n (lv' := [(3, .int (fS i)), (2, .int (nI i)), (0, .ref h0), (1, .int w), (4, .int (nI i))]) hx hb dX2_latestOfWork_56 rfl hl (by decide) rfl (fun ls hl => ?_)
              refine lv_iinc (v := nI (i + 1)) (lv' := [(4, .int (nI (i + 1))), (3, .int (fS i)), (2, .int (nI i)), (0, .ref h0), (1, .int w)]) hx hb dX2_latestOfWork_57 hl (k := 4) rfl (z_1) (by decide) rfl (fun ls hl => ?_)
              refine lv_goto (tgt := 7) hx hb dX2_latestOfWork_60 (by decide) ?_
              exact ih (i + 1) (by omega) (by omega)  _ (lv_cg (lv_sub (l' := [(0, .ref h0), (1, .int w), (2, .int (nI i)), (3, .int (fS i)), (4, .int (nI (i + 1)))]) hl [3, 4, 2, 1, 0] rfl) (zl_k (zl_k (zl_c (by grind [zlat]) (zl_c (by grind [zlat]) (zl_k (rfl)))))))
  exact LOOP1 (20 + 1) 0 (by omega) (by omega)  _ (lv_cg (lv_sub (l' := [(0, .ref h0), (1, .int w), (2, .int (-1)), (3, .int (-1)), (4, .int 0)]) hl [3, 4, 2, 1, 0] rfl) (zl_k (zl_k (zl_c (rfl) (zl_c (rfl) (zl_c (rfl) (rfl)))))))
