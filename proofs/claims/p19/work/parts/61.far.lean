set_option maxHeartbeats 8000000 in
set_option maxRecDepth 100000 in
/-- far(0), answered -/
theorem kL_far_set (l : Launch) (dC : Nat → ClassId) (dI : Nat → Nat → Nat) (cI cZ cH cJ : ClassId) (x0 : Nat) (xq : Nat) (now : Int32) (xg : Nat → Option Nat) (had : Nat → Nat → Nat) (hg : ∀ i, i < 4 → xg i = some (had i 0)) (σ : Nat → zHS) (ca : Nat) (hca : ca < 4) (b : Int32) (w : Int32) (hb1 : zin b 1 30 = 1) (hw1 : zin w 0 2 = 1) (sz : Nat) : Met l yL_far wsL_far ({ frames := 2, cells := 0, slots := 0, locals := 48 }) (zPc dC dI (zTy cI cZ cH cJ) [.ref x0, .int 0, .int (nI ca), .int b, .int w, .int 0] sz (zOb cI cZ cH x0 xq xg had now σ)) (zQi dC dI (hUn (σ ca)) (zOb cI cZ cH x0 xq xg had now (zup σ ca (hSet (σ ca) b w now))) (va_A (zOb cI cZ cH x0 xq xg had now σ) sz)) 0 0 (va_A (zOb cI cZ cH x0 xq xg had now σ) sz) := by
  refine va_MetW (cc := cL_far) (maxL := 7) (ret := (some .int)) (by decide) rfl ?_
  intro p e s m args below meth c s₁ B hml hv0
  obtain ⟨rfl, hsz, hP, hK, hD0⟩ := hv0
  have hx := B.exec
  have hb := B.bytes
  have hr := B.returns
  have hts := atoms_spec (ws := wsL_far) B.pre
  have hown : s.vm.findClass RL = some m.cls := findClass_of_methodNamed B.named
  have hlocks := B.notSynchronized
  subst hsz
  have hD := hD0.self (sz := s.heap.size)
  generalize hAe : va_A (zOb cI cZ cH x0 xq xg had now σ) s.heap.size = A at hD ⊢
  have hA : ∀ q : Nat, s.heap.size ≤ q → A q := fun q h => by rw [← hAe]; exact Or.inr h
  have hS : va_S A s.heap s.heap [] := va_S.rf
  have hl := lv_entry ([.ref x0, .int 0, .int (nI ca), .int b, .int w, .int 0]) (n := 7) (Nat.le_of_ble_eq_true rfl)
  rw [lg_entry_eq]
  generalize (lg_sl ([.ref x0, .int 0, .int (nI ca), .int b, .int w, .int 0]) ++ List.replicate (7 - (lg_sl ([.ref x0, .int 0, .int (nI ca), .int b, .int w, .int 0])).length) Slot.unset).toArray = ls at hl ⊢
  have hl : lv_has ls 7 [(0, .ref x0), (1, .int 0), (2, .int (nI ca)), (3, .int b), (4, .int w), (5, .int 0)] := hl
  refine lv_iload_n hx hb dL_far_0 rfl (lv_at hl 1 rfl) ?_
  refine lv_if_ne (tgt := 15) hx hb dL_far_1 (by decide) (fun c_1 => absurd c_1 (by decide)) (fun c_1 => ?_)
  refine lv_aload_n hx hb dL_far_4 rfl (lv_at hl 0 rfl) ?_
  refine lv_iload_n hx hb dL_far_5 rfl (lv_at hl 2 rfl) ?_
  refine lv_iload_n hx hb dL_far_6 rfl (lv_at hl 3 rfl) ?_
  refine lv_iload hx hb dL_far_7 (lv_at hl 4 rfl) ?_
  refine z_cGi (wr := []) (big1 := zOb cI cZ cH x0 xq xg had now (zup σ ca (hSet (σ ca) b w now))) (va_runV (As := [.int (nI ca), .int b, .int w]) (rest := []) ⟨hx, hb, hml, hown, hts⟩ (c_set l dC dI cI cZ cH cJ x0 xq now xg had hg σ ca (by first | assumption | omega) b w (by first | assumption | omega) (by first | assumption | omega) s.heap.size) (cwV 3 hts gL_far_X3_setCatalogue rfl rfl rfl (by decide +kernel) ⟨Nat.le_of_ble_eq_true rfl, Nat.le_of_ble_eq_true rfl⟩) (zPreV1 hK hP hD (zrecv hK hP)) rfl rfl hl.1 rfl (lv_room (Nat.le_of_ble_eq_true rfl)) dL_far_9 ⟨Nat.le_of_ble_eq_true rfl, Nat.le_of_ble_eq_true rfl⟩) hP hD hS hA (zeq_nil _) ((zeq_nil _).sy) (fun H locs hP hD hS => ?_)
  have hP : va_P (dC, dI) vwCl (zOb cI cZ cH x0 xq xg had now (zup σ ca (hSet (σ ca) b w now))) H := hP
  have hD : va_D A (zOb cI cZ cH x0 xq xg had now (zup σ ca (hSet (σ ca) b w now))) := hD
  refine z_tv (v := hUn (σ ca)) rfl ?_
  refine lv_goto (tgt := 86) hx hb dL_far_12 (by decide) ?_
  exact W.iret hx hb hr (fun t ht hW => ⟨rfl, ⟨by rw [ht]; exact hP, hD⟩, hS.F ht⟩) hS.2.2 dL_far_86
set_option maxHeartbeats 8000000 in
set_option maxRecDepth 100000 in
/-- far(2), answered -/
theorem kL_far_rem (l : Launch) (dC : Nat → ClassId) (dI : Nat → Nat → Nat) (cI cZ cH cJ : ClassId) (x0 : Nat) (xq : Nat) (now : Int32) (xg : Nat → Option Nat) (had : Nat → Nat → Nat) (hg : ∀ i, i < 4 → xg i = some (had i 0)) (σ : Nat → zHS) (ca : Nat) (hca : ca < 4) (r : Nat) (hrr : r < 20) (hk1 : ¬ hFT (σ ca) r = 0) (sz : Nat) : Met l yL_far wsL_far ({ frames := 3, cells := 0, slots := 0, locals := 66 }) (zPc dC dI (zTy cI cZ cH cJ) [.ref x0, .int 2, .int (nI ca), .int (nI r), .int 0, .int 0] sz (zOb cI cZ cH x0 xq xg had now σ)) (zQi dC dI (if hDe (σ ca) ≠ 2 then (1 : Int32) else 0) (zOb cI cZ cH x0 xq xg had now (zup σ ca (hRem (σ ca) r now))) (va_A (zOb cI cZ cH x0 xq xg had now σ) sz)) 0 0 (va_A (zOb cI cZ cH x0 xq xg had now σ) sz) := by
  refine va_MetW (cc := cL_far) (maxL := 7) (ret := (some .int)) (by decide) rfl ?_
  intro p e s m args below meth c s₁ B hml hv0
  obtain ⟨rfl, hsz, hP, hK, hD0⟩ := hv0
  have hx := B.exec
  have hb := B.bytes
  have hr := B.returns
  have hts := atoms_spec (ws := wsL_far) B.pre
  have hown : s.vm.findClass RL = some m.cls := findClass_of_methodNamed B.named
  have hlocks := B.notSynchronized
  subst hsz
  have hD := hD0.self (sz := s.heap.size)
  generalize hAe : va_A (zOb cI cZ cH x0 xq xg had now σ) s.heap.size = A at hD ⊢
  have hA : ∀ q : Nat, s.heap.size ≤ q → A q := fun q h => by rw [← hAe]; exact Or.inr h
  have hS : va_S A s.heap s.heap [] := va_S.rf
  have hl := lv_entry ([.ref x0, .int 2, .int (nI ca), .int (nI r), .int 0, .int 0]) (n := 7) (Nat.le_of_ble_eq_true rfl)
  rw [lg_entry_eq]
  generalize (lg_sl ([.ref x0, .int 2, .int (nI ca), .int (nI r), .int 0, .int 0]) ++ List.replicate (7 - (lg_sl ([.ref x0, .int 2, .int (nI ca), .int (nI r), .int 0, .int 0])).length) Slot.unset).toArray = ls at hl ⊢
  have hl : lv_has ls 7 [(0, .ref x0), (1, .int 2), (2, .int (nI ca)), (3, .int (nI r)), (4, .int 0), (5, .int 0)] := hl
  refine lv_iload_n hx hb dL_far_0 rfl (lv_at hl 1 rfl) ?_
  refine lv_if_ne (tgt := 15) hx hb dL_far_1 (by decide) (fun c_1 => ?_) (fun c_1 => absurd c_1 (by decide))
  refine lv_iload_n hx hb dL_far_15 rfl (lv_at hl 1 rfl) ?_
  refine lv_iconst (v := 1) hx hb dL_far_16 (by decide) ?_
  refine lv_icmp_ne (tgt := 33) hx hb dL_far_17 (by decide) (fun c_17 => ?_) (fun c_17 => absurd c_17 (by decide))
  refine lv_iload_n hx hb dL_far_33 rfl (lv_at hl 1 rfl) ?_
  refine lv_iconst (v := 2) hx hb dL_far_34 (by decide) ?_
  refine lv_icmp_ne (tgt := 55) hx hb dL_far_35 (by decide) (fun c_35 => absurd c_35 (by decide)) (fun c_35 => ?_)
  refine lv_aload_n hx hb dL_far_38 rfl (lv_at hl 0 rfl) ?_
  refine lv_iload_n hx hb dL_far_39 rfl (lv_at hl 2 rfl) ?_
  refine lv_iload_n hx hb dL_far_40 rfl (lv_at hl 3 rfl) ?_
  refine z_cGi (wr := []) (big1 := zOb cI cZ cH x0 xq xg had now (zup σ ca (hRem (σ ca) r now))) (va_runV (As := [.int (nI ca), .int (nI r)]) (rest := []) ⟨hx, hb, hml, hown, hts⟩ (c_rem l dC dI cI cZ cH cJ x0 xq now xg had hg σ ca (by first | assumption | omega) r (by first | assumption | omega) (by first | assumption | omega) s.heap.size) (cwV 2 hts gL_far_X3_remove rfl rfl rfl (by decide +kernel) ⟨Nat.le_of_ble_eq_true rfl, Nat.le_of_ble_eq_true rfl⟩) (zPreV1 hK hP hD (zrecv hK hP)) rfl rfl hl.1 rfl (lv_room (Nat.le_of_ble_eq_true rfl)) dL_far_41 ⟨Nat.le_of_ble_eq_true rfl, Nat.le_of_ble_eq_true rfl⟩) hP hD hS hA (zeq_nil _) ((zeq_nil _).sy) (fun H locs hP hD hS => ?_)
  have hP : va_P (dC, dI) vwCl (zOb cI cZ cH x0 xq xg had now (zup σ ca (hRem (σ ca) r now))) H := hP
  have hD : va_D A (zOb cI cZ cH x0 xq xg had now (zup σ ca (hRem (σ ca) r now))) := hD
  refine z_tv (v := if (hDe (σ ca)) ≠ 2 then (1 : Int32) else 0) rfl ?_
  refine lv_if_eq (tgt := 51) hx hb dL_far_44 (by decide) (fun c_44 => ?_) (fun c_44 => ?_)
  · skip
    refine lv_iconst (v := 0) hx hb dL_far_51 (by decide) ?_
    refine lv_goto (tgt := 86) hx hb dL_far_52 (by decide) ?_
    refine z_tv (v := if hDe (σ ca) ≠ 2 then (1 : Int32) else 0) (by first | rw [if_pos c_44] | (rw [if_neg]; exact c_44) | grind) ?_
    exact W.iret hx hb hr (fun t ht hW => ⟨rfl, ⟨by rw [ht]; exact hP, hD⟩, hS.F ht⟩) hS.2.2 dL_far_86
  · skip
    refine lv_iconst (v := 1) hx hb dL_far_47 (by decide) ?_
    refine lv_goto (tgt := 86) hx hb dL_far_48 (by decide) ?_
    refine z_tv (v := if hDe (σ ca) ≠ 2 then (1 : Int32) else 0) (by first | rw [if_pos c_44] | (rw [if_neg]; exact c_44) | grind) ?_
    exact W.iret hx hb hr (fun t ht hW => ⟨rfl, ⟨by rw [ht]; exact hP, hD⟩, hS.F ht⟩) hS.2.2 dL_far_86
set_option maxHeartbeats 8000000 in
set_option maxRecDepth 100000 in
/-- far(3), answered -/
theorem kL_far_pas (l : Launch) (dC : Nat → ClassId) (dI : Nat → Nat → Nat) (cI cZ cH cJ : ClassId) (x0 : Nat) (xq : Nat) (now : Int32) (xg : Nat → Option Nat) (had : Nat → Nat → Nat) (hg : ∀ i, i < 4 → xg i = some (had i 0)) (σ : Nat → zHS) (d : Int32) (hd1 : zin d 1 100 = 1) (hle : now + d ≤ 5000) (sz : Nat) : Met l yL_far wsL_far ({ frames := 2, cells := 0, slots := 0, locals := 45 }) (zPc dC dI (zTy cI cZ cH cJ) [.ref x0, .int 3, .int d, .int 0, .int 0, .int 0] sz (zOb cI cZ cH x0 xq xg had now σ)) (zQi dC dI (now + d) (zOb cI cZ cH x0 xq xg had (now + d) (fun j => hAge (σ j) (now + d))) (va_A (zOb cI cZ cH x0 xq xg had now σ) sz)) 0 0 (va_A (zOb cI cZ cH x0 xq xg had now σ) sz) := by
  refine va_MetW (cc := cL_far) (maxL := 7) (ret := (some .int)) (by decide) rfl ?_
  intro p e s m args below meth c s₁ B hml hv0
  obtain ⟨rfl, hsz, hP, hK, hD0⟩ := hv0
  have hx := B.exec
  have hb := B.bytes
  have hr := B.returns
  have hts := atoms_spec (ws := wsL_far) B.pre
  have hown : s.vm.findClass RL = some m.cls := findClass_of_methodNamed B.named
  have hlocks := B.notSynchronized
  subst hsz
  have hD := hD0.self (sz := s.heap.size)
  generalize hAe : va_A (zOb cI cZ cH x0 xq xg had now σ) s.heap.size = A at hD ⊢
  have hA : ∀ q : Nat, s.heap.size ≤ q → A q := fun q h => by rw [← hAe]; exact Or.inr h
  have hS : va_S A s.heap s.heap [] := va_S.rf
  have hl := lv_entry ([.ref x0, .int 3, .int d, .int 0, .int 0, .int 0]) (n := 7) (Nat.le_of_ble_eq_true rfl)
  rw [lg_entry_eq]
  generalize (lg_sl ([.ref x0, .int 3, .int d, .int 0, .int 0, .int 0]) ++ List.replicate (7 - (lg_sl ([.ref x0, .int 3, .int d, .int 0, .int 0, .int 0])).length) Slot.unset).toArray = ls at hl ⊢
  have hl : lv_has ls 7 [(0, .ref x0), (1, .int 3), (2, .int d), (3, .int 0), (4, .int 0), (5, .int 0)] := hl
  refine lv_iload_n hx hb dL_far_0 rfl (lv_at hl 1 rfl) ?_
  refine lv_if_ne (tgt := 15) hx hb dL_far_1 (by decide) (fun c_1 => ?_) (fun c_1 => absurd c_1 (by decide))
  refine lv_iload_n hx hb dL_far_15 rfl (lv_at hl 1 rfl) ?_
  refine lv_iconst (v := 1) hx hb dL_far_16 (by decide) ?_
  refine lv_icmp_ne (tgt := 33) hx hb dL_far_17 (by decide) (fun c_17 => ?_) (fun c_17 => absurd c_17 (by decide))
  refine lv_iload_n hx hb dL_far_33 rfl (lv_at hl 1 rfl) ?_
  refine lv_iconst (v := 2) hx hb dL_far_34 (by decide) ?_
  refine lv_icmp_ne (tgt := 55) hx hb dL_far_35 (by decide) (fun c_35 => ?_) (fun c_35 => absurd c_35 (by decide))
  refine lv_iload_n hx hb dL_far_55 rfl (lv_at hl 1 rfl) ?_
  refine lv_iconst (v := 3) hx hb dL_far_56 (by decide) ?_
  refine lv_icmp_ne (tgt := 68) hx hb dL_far_57 (by decide) (fun c_57 => absurd c_57 (by decide)) (fun c_57 => ?_)
  refine lv_aload_n hx hb dL_far_60 rfl (lv_at hl 0 rfl) ?_
  refine lv_iload_n hx hb dL_far_61 rfl (lv_at hl 2 rfl) ?_
  refine z_cGi (wr := []) (big1 := zOb cI cZ cH x0 xq xg had (now + d) (fun j => hAge (σ j) (now + d))) (va_runV (As := [.int d]) (rest := []) ⟨hx, hb, hml, hown, hts⟩ (c_pass l dC dI cI cZ cH cJ x0 xq now xg had hg σ d (by first | assumption | omega) (by first | assumption | omega) s.heap.size) (cwV 1 hts gL_far_X3_pass rfl rfl rfl (by decide +kernel) ⟨Nat.le_of_ble_eq_true rfl, Nat.le_of_ble_eq_true rfl⟩) (zPreV1 hK hP hD (zrecv hK hP)) rfl rfl hl.1 rfl (lv_room (Nat.le_of_ble_eq_true rfl)) dL_far_62 ⟨Nat.le_of_ble_eq_true rfl, Nat.le_of_ble_eq_true rfl⟩) hP hD hS hA (zeq_nil _) ((zeq_nil _).sy) (fun H locs hP hD hS => ?_)
  have hP : va_P (dC, dI) vwCl (zOb cI cZ cH x0 xq xg had (now + d) (fun j => hAge (σ j) (now + d))) H := hP
  have hD : va_D A (zOb cI cZ cH x0 xq xg had (now + d) (fun j => hAge (σ j) (now + d))) := hD
  refine z_tv (v := now + d) rfl ?_
  refine lv_goto (tgt := 86) hx hb dL_far_65 (by decide) ?_
  exact W.iret hx hb hr (fun t ht hW => ⟨rfl, ⟨by rw [ht]; exact hP, hD⟩, hS.F ht⟩) hS.2.2 dL_far_86
set_option maxHeartbeats 8000000 in
set_option maxRecDepth 100000 in
/-- far(0), refused -/
theorem kL_far_b0 (l : Launch) (dC : Nat → ClassId) (dI : Nat → Nat → Nat) (cI cZ cH cJ : ClassId) (x0 : Nat) (xq : Nat) (now : Int32) (xg : Nat → Option Nat) (had : Nat → Nat → Nat) (hg : ∀ i, i < 4 → xg i = some (had i 0)) (σ : Nat → zHS) (a : Int32) (b : Int32) (w : Int32) (v : Int32) (hv : ¬ (zin a 0 3 = 1 ∧ zin b 1 30 = 1 ∧ zin w 0 2 = 1)) (hst : l.stackTraces = false) : Met l yL_far wsL_far ({ frames := 8, cells := 1, slots := 6, locals := 137 }) (zYc dC dI (zTy cI cZ cH cJ) [.ref x0, .int 0, .int a, .int b, .int w, .int v] (zOb cI cZ cH x0 xq xg had now σ)) (zSg (-992)) 1 6 (fun _ => False) := by
  refine va_MetW (cc := cL_far) (maxL := 7) (ret := (some .int)) (by decide) rfl ?_
  intro p e s m args below meth c s₁ B hml hv0
  obtain ⟨rfl, ⟨hT, hNc⟩, hP, hK⟩ := hv0
  have hx := B.exec
  have hb := B.bytes
  have hr := B.returns
  have hts := atoms_spec (ws := wsL_far) B.pre
  have hown : s.vm.findClass RL = some m.cls := findClass_of_methodNamed B.named
  have hlocks := B.notSynchronized
  have htab := vx_table (x := yL_far) B (hts _ List.mem_cons_self)
  have hl := lv_entry ([.ref x0, .int 0, .int a, .int b, .int w, .int v]) (n := 7) (Nat.le_of_ble_eq_true rfl)
  rw [lg_entry_eq]
  generalize (lg_sl ([.ref x0, .int 0, .int a, .int b, .int w, .int v]) ++ List.replicate (7 - (lg_sl ([.ref x0, .int 0, .int a, .int b, .int w, .int v])).length) Slot.unset).toArray = ls at hl ⊢
  have hl : lv_has ls 7 [(0, .ref x0), (1, .int 0), (2, .int a), (3, .int b), (4, .int w), (5, .int v)] := hl
  refine lv_iload_n hx hb dL_far_0 rfl (lv_at hl 1 rfl) ?_
  refine lv_if_ne (tgt := 15) hx hb dL_far_1 (by decide) (fun c_1 => absurd c_1 (by decide)) (fun c_1 => ?_)
  refine lv_aload_n hx hb dL_far_4 rfl (lv_at hl 0 rfl) ?_
  refine lv_iload_n hx hb dL_far_5 rfl (lv_at hl 2 rfl) ?_
  refine lv_iload_n hx hb dL_far_6 rfl (lv_at hl 3 rfl) ?_
  refine lv_iload hx hb dL_far_7 (lv_at hl 4 rfl) ?_
  refine z_cC (own := RL) (name := zIAE) (vx_runV (As := [.int a, .int b, .int w]) (rest := []) ⟨hx, hb, hml, hown, hts⟩ (c_setB l dC dI cI cZ cH cJ x0 xq now xg had hg σ a b w (hv) hst) (cwV 3 hts gL_far_X3_setCatalogue rfl rfl rfl (by decide +kernel) ⟨Nat.le_of_ble_eq_true rfl, Nat.le_of_ble_eq_true rfl⟩) (zPreX1 hT hK hP (zrecv hK hP)) rfl rfl hl.1 rfl (lv_room (Nat.le_of_ble_eq_true rfl)) dL_far_9 ⟨show _ ≤ 1 by omega, show _ ≤ 6 by omega⟩) hown [] ⟨0, 86, 87, 33⟩ [⟨0, 86, 93, 35⟩] htab (fun _ h => nomatch h) (by decide) (by decide) (hts (.classLink RL 33 zIAE) (by decide +kernel)) (va_Nw.use rfl (hT.2.2.1 (.castable zIAE zIAE) (by simp [zBad]))) (fun q9 H hz1 hk1 => ?_)
  refine lv_astore (lv' := [(6, .ref q9), (0, .ref x0), (1, .int 0), (2, .int a), (3, .int b), (4, .int w), (5, .int v)]) hx hb dL_far_87 hl (by decide) rfl (fun ls hl => ?_)
  refine lv_sipush (v := (-992)) hx hb dL_far_89 (by decide) ?_
  refine W.widen (k := 1) (n := 6) (by omega) (by omega) ?_
  exact W.iret hx hb hr (fun t ht hW => ⟨rfl, by rw [ht]; exact hz1, fun q hq => by rw [ht]; exact hk1 q hq⟩) (fun _ h => nomatch h) dL_far_92
set_option maxHeartbeats 8000000 in
set_option maxRecDepth 100000 in
/-- far(1), refused -/
theorem kL_far_b1 (l : Launch) (dC : Nat → ClassId) (dI : Nat → Nat → Nat) (cI cZ cH cJ : ClassId) (x0 : Nat) (xq : Nat) (now : Int32) (xg : Nat → Option Nat) (had : Nat → Nat → Nat) (hg : ∀ i, i < 4 → xg i = some (had i 0)) (σ : Nat → zHS) (a : Int32) (b : Int32) (w : Int32) (v : Int32) (hv : ¬ (zin a 0 3 = 1 ∧ zin b 0 19 = 1 ∧ zin w 0 9 = 1 ∧ zin v 0 1000 = 1)) (hst : l.stackTraces = false) : Met l yL_far wsL_far ({ frames := 9, cells := 1, slots := 6, locals := 157 }) (zYc dC dI (zTy cI cZ cH cJ) [.ref x0, .int 1, .int a, .int b, .int w, .int v] (zOb cI cZ cH x0 xq xg had now σ)) (zSg (-992)) 1 6 (fun _ => False) := by
  refine va_MetW (cc := cL_far) (maxL := 7) (ret := (some .int)) (by decide) rfl ?_
  intro p e s m args below meth c s₁ B hml hv0
  obtain ⟨rfl, ⟨hT, hNc⟩, hP, hK⟩ := hv0
  have hx := B.exec
  have hb := B.bytes
  have hr := B.returns
  have hts := atoms_spec (ws := wsL_far) B.pre
  have hown : s.vm.findClass RL = some m.cls := findClass_of_methodNamed B.named
  have hlocks := B.notSynchronized
  have htab := vx_table (x := yL_far) B (hts _ List.mem_cons_self)
  have hl := lv_entry ([.ref x0, .int 1, .int a, .int b, .int w, .int v]) (n := 7) (Nat.le_of_ble_eq_true rfl)
  rw [lg_entry_eq]
  generalize (lg_sl ([.ref x0, .int 1, .int a, .int b, .int w, .int v]) ++ List.replicate (7 - (lg_sl ([.ref x0, .int 1, .int a, .int b, .int w, .int v])).length) Slot.unset).toArray = ls at hl ⊢
  have hl : lv_has ls 7 [(0, .ref x0), (1, .int 1), (2, .int a), (3, .int b), (4, .int w), (5, .int v)] := hl
  refine lv_iload_n hx hb dL_far_0 rfl (lv_at hl 1 rfl) ?_
  refine lv_if_ne (tgt := 15) hx hb dL_far_1 (by decide) (fun c_1 => ?_) (fun c_1 => absurd c_1 (by decide))
  refine lv_iload_n hx hb dL_far_15 rfl (lv_at hl 1 rfl) ?_
  refine lv_iconst (v := 1) hx hb dL_far_16 (by decide) ?_
  refine lv_icmp_ne (tgt := 33) hx hb dL_far_17 (by decide) (fun c_17 => absurd c_17 (by decide)) (fun c_17 => ?_)
  refine lv_aload_n hx hb dL_far_20 rfl (lv_at hl 0 rfl) ?_
  refine lv_iload_n hx hb dL_far_21 rfl (lv_at hl 2 rfl) ?_
  refine lv_iload_n hx hb dL_far_22 rfl (lv_at hl 3 rfl) ?_
  refine lv_iload hx hb dL_far_23 (lv_at hl 4 rfl) ?_
  refine lv_iload hx hb dL_far_25 (lv_at hl 5 rfl) ?_
  refine z_cC (own := RL) (name := zIAE) (vx_runV (As := [.int a, .int b, .int w, .int v]) (rest := []) ⟨hx, hb, hml, hown, hts⟩ (c_putB l dC dI cI cZ cH cJ x0 xq now xg had hg σ a b w v (hv) hst) (cwV 4 hts gL_far_X3_put rfl rfl rfl (by decide +kernel) ⟨Nat.le_of_ble_eq_true rfl, Nat.le_of_ble_eq_true rfl⟩) (zPreX1 hT hK hP (zrecv hK hP)) rfl rfl hl.1 rfl (lv_room (Nat.le_of_ble_eq_true rfl)) dL_far_27 ⟨show _ ≤ 1 by omega, show _ ≤ 6 by omega⟩) hown [] ⟨0, 86, 87, 33⟩ [⟨0, 86, 93, 35⟩] htab (fun _ h => nomatch h) (by decide) (by decide) (hts (.classLink RL 33 zIAE) (by decide +kernel)) (va_Nw.use rfl (hT.2.2.1 (.castable zIAE zIAE) (by simp [zBad]))) (fun q9 H hz1 hk1 => ?_)
  refine lv_astore (lv' := [(6, .ref q9), (0, .ref x0), (1, .int 1), (2, .int a), (3, .int b), (4, .int w), (5, .int v)]) hx hb dL_far_87 hl (by decide) rfl (fun ls hl => ?_)
  refine lv_sipush (v := (-992)) hx hb dL_far_89 (by decide) ?_
  refine W.widen (k := 1) (n := 6) (by omega) (by omega) ?_
  exact W.iret hx hb hr (fun t ht hW => ⟨rfl, by rw [ht]; exact hz1, fun q hq => by rw [ht]; exact hk1 q hq⟩) (fun _ h => nomatch h) dL_far_92
set_option maxHeartbeats 8000000 in
set_option maxRecDepth 100000 in
/-- far(2), refused -/
theorem kL_far_b2 (l : Launch) (dC : Nat → ClassId) (dI : Nat → Nat → Nat) (cI cZ cH cJ : ClassId) (x0 : Nat) (xq : Nat) (now : Int32) (xg : Nat → Option Nat) (had : Nat → Nat → Nat) (hg : ∀ i, i < 4 → xg i = some (had i 0)) (σ : Nat → zHS) (a : Int32) (b : Int32) (w : Int32) (v : Int32) (hv : ¬ (zin a 0 3 = 1 ∧ zin b 0 19 = 1)) (hst : l.stackTraces = false) : Met l yL_far wsL_far ({ frames := 9, cells := 1, slots := 6, locals := 155 }) (zYc dC dI (zTy cI cZ cH cJ) [.ref x0, .int 2, .int a, .int b, .int w, .int v] (zOb cI cZ cH x0 xq xg had now σ)) (zSg (-992)) 1 6 (fun _ => False) := by
  refine va_MetW (cc := cL_far) (maxL := 7) (ret := (some .int)) (by decide) rfl ?_
  intro p e s m args below meth c s₁ B hml hv0
  obtain ⟨rfl, ⟨hT, hNc⟩, hP, hK⟩ := hv0
  have hx := B.exec
  have hb := B.bytes
  have hr := B.returns
  have hts := atoms_spec (ws := wsL_far) B.pre
  have hown : s.vm.findClass RL = some m.cls := findClass_of_methodNamed B.named
  have hlocks := B.notSynchronized
  have htab := vx_table (x := yL_far) B (hts _ List.mem_cons_self)
  have hl := lv_entry ([.ref x0, .int 2, .int a, .int b, .int w, .int v]) (n := 7) (Nat.le_of_ble_eq_true rfl)
  rw [lg_entry_eq]
  generalize (lg_sl ([.ref x0, .int 2, .int a, .int b, .int w, .int v]) ++ List.replicate (7 - (lg_sl ([.ref x0, .int 2, .int a, .int b, .int w, .int v])).length) Slot.unset).toArray = ls at hl ⊢
  have hl : lv_has ls 7 [(0, .ref x0), (1, .int 2), (2, .int a), (3, .int b), (4, .int w), (5, .int v)] := hl
  refine lv_iload_n hx hb dL_far_0 rfl (lv_at hl 1 rfl) ?_
  refine lv_if_ne (tgt := 15) hx hb dL_far_1 (by decide) (fun c_1 => ?_) (fun c_1 => absurd c_1 (by decide))
  refine lv_iload_n hx hb dL_far_15 rfl (lv_at hl 1 rfl) ?_
  refine lv_iconst (v := 1) hx hb dL_far_16 (by decide) ?_
  refine lv_icmp_ne (tgt := 33) hx hb dL_far_17 (by decide) (fun c_17 => ?_) (fun c_17 => absurd c_17 (by decide))
  refine lv_iload_n hx hb dL_far_33 rfl (lv_at hl 1 rfl) ?_
  refine lv_iconst (v := 2) hx hb dL_far_34 (by decide) ?_
  refine lv_icmp_ne (tgt := 55) hx hb dL_far_35 (by decide) (fun c_35 => absurd c_35 (by decide)) (fun c_35 => ?_)
  refine lv_aload_n hx hb dL_far_38 rfl (lv_at hl 0 rfl) ?_
  refine lv_iload_n hx hb dL_far_39 rfl (lv_at hl 2 rfl) ?_
  refine lv_iload_n hx hb dL_far_40 rfl (lv_at hl 3 rfl) ?_
  refine z_cC (own := RL) (name := zIAE) (vx_runV (As := [.int a, .int b]) (rest := []) ⟨hx, hb, hml, hown, hts⟩ (c_remB l dC dI cI cZ cH cJ x0 xq now xg had hg σ a b (hv) hst) (cwV 2 hts gL_far_X3_remove rfl rfl rfl (by decide +kernel) ⟨Nat.le_of_ble_eq_true rfl, Nat.le_of_ble_eq_true rfl⟩) (zPreX1 hT hK hP (zrecv hK hP)) rfl rfl hl.1 rfl (lv_room (Nat.le_of_ble_eq_true rfl)) dL_far_41 ⟨show _ ≤ 1 by omega, show _ ≤ 6 by omega⟩) hown [] ⟨0, 86, 87, 33⟩ [⟨0, 86, 93, 35⟩] htab (fun _ h => nomatch h) (by decide) (by decide) (hts (.classLink RL 33 zIAE) (by decide +kernel)) (va_Nw.use rfl (hT.2.2.1 (.castable zIAE zIAE) (by simp [zBad]))) (fun q9 H hz1 hk1 => ?_)
  refine lv_astore (lv' := [(6, .ref q9), (0, .ref x0), (1, .int 2), (2, .int a), (3, .int b), (4, .int w), (5, .int v)]) hx hb dL_far_87 hl (by decide) rfl (fun ls hl => ?_)
  refine lv_sipush (v := (-992)) hx hb dL_far_89 (by decide) ?_
  refine W.widen (k := 1) (n := 6) (by omega) (by omega) ?_
  exact W.iret hx hb hr (fun t ht hW => ⟨rfl, by rw [ht]; exact hz1, fun q hq => by rw [ht]; exact hk1 q hq⟩) (fun _ h => nomatch h) dL_far_92
set_option maxHeartbeats 8000000 in
set_option maxRecDepth 100000 in
/-- far(3), refused -/
theorem kL_far_b3 (l : Launch) (dC : Nat → ClassId) (dI : Nat → Nat → Nat) (cI cZ cH cJ : ClassId) (x0 : Nat) (xq : Nat) (now : Int32) (xg : Nat → Option Nat) (had : Nat → Nat → Nat) (hg : ∀ i, i < 4 → xg i = some (had i 0)) (σ : Nat → zHS) (a : Int32) (b : Int32) (w : Int32) (v : Int32) (hv : ¬ zin a 1 100 = 1) (hst : l.stackTraces = false) : Met l yL_far wsL_far ({ frames := 8, cells := 1, slots := 6, locals := 134 }) (zYc dC dI (zTy cI cZ cH cJ) [.ref x0, .int 3, .int a, .int b, .int w, .int v] (zOb cI cZ cH x0 xq xg had now σ)) (zSg (-992)) 1 6 (fun _ => False) := by
  refine va_MetW (cc := cL_far) (maxL := 7) (ret := (some .int)) (by decide) rfl ?_
  intro p e s m args below meth c s₁ B hml hv0
  obtain ⟨rfl, ⟨hT, hNc⟩, hP, hK⟩ := hv0
  have hx := B.exec
  have hb := B.bytes
  have hr := B.returns
  have hts := atoms_spec (ws := wsL_far) B.pre
  have hown : s.vm.findClass RL = some m.cls := findClass_of_methodNamed B.named
  have hlocks := B.notSynchronized
  have htab := vx_table (x := yL_far) B (hts _ List.mem_cons_self)
  have hl := lv_entry ([.ref x0, .int 3, .int a, .int b, .int w, .int v]) (n := 7) (Nat.le_of_ble_eq_true rfl)
  rw [lg_entry_eq]
  generalize (lg_sl ([.ref x0, .int 3, .int a, .int b, .int w, .int v]) ++ List.replicate (7 - (lg_sl ([.ref x0, .int 3, .int a, .int b, .int w, .int v])).length) Slot.unset).toArray = ls at hl ⊢
  have hl : lv_has ls 7 [(0, .ref x0), (1, .int 3), (2, .int a), (3, .int b), (4, .int w), (5, .int v)] := hl
  refine lv_iload_n hx hb dL_far_0 rfl (lv_at hl 1 rfl) ?_
  refine lv_if_ne (tgt := 15) hx hb dL_far_1 (by decide) (fun c_1 => ?_) (fun c_1 => absurd c_1 (by decide))
  refine lv_iload_n hx hb dL_far_15 rfl (lv_at hl 1 rfl) ?_
  refine lv_iconst (v := 1) hx hb dL_far_16 (by decide) ?_
  refine lv_icmp_ne (tgt := 33) hx hb dL_far_17 (by decide) (fun c_17 => ?_) (fun c_17 => absurd c_17 (by decide))
  refine lv_iload_n hx hb dL_far_33 rfl (lv_at hl 1 rfl) ?_
  refine lv_iconst (v := 2) hx hb dL_far_34 (by decide) ?_
  refine lv_icmp_ne (tgt := 55) hx hb dL_far_35 (by decide) (fun c_35 => ?_) (fun c_35 => absurd c_35 (by decide))
  refine lv_iload_n hx hb dL_far_55 rfl (lv_at hl 1 rfl) ?_
  refine lv_iconst (v := 3) hx hb dL_far_56 (by decide) ?_
  refine lv_icmp_ne (tgt := 68) hx hb dL_far_57 (by decide) (fun c_57 => absurd c_57 (by decide)) (fun c_57 => ?_)
  refine lv_aload_n hx hb dL_far_60 rfl (lv_at hl 0 rfl) ?_
  refine lv_iload_n hx hb dL_far_61 rfl (lv_at hl 2 rfl) ?_
  refine z_cC (own := RL) (name := zIAE) (vx_runV (As := [.int a]) (rest := []) ⟨hx, hb, hml, hown, hts⟩ (c_passB l dC dI cI cZ cH cJ x0 xq now xg had hg σ a (hv) hst) (cwV 1 hts gL_far_X3_pass rfl rfl rfl (by decide +kernel) ⟨Nat.le_of_ble_eq_true rfl, Nat.le_of_ble_eq_true rfl⟩) (zPreX1 hT hK hP (zrecv hK hP)) rfl rfl hl.1 rfl (lv_room (Nat.le_of_ble_eq_true rfl)) dL_far_62 ⟨show _ ≤ 1 by omega, show _ ≤ 6 by omega⟩) hown [] ⟨0, 86, 87, 33⟩ [⟨0, 86, 93, 35⟩] htab (fun _ h => nomatch h) (by decide) (by decide) (hts (.classLink RL 33 zIAE) (by decide +kernel)) (va_Nw.use rfl (hT.2.2.1 (.castable zIAE zIAE) (by simp [zBad]))) (fun q9 H hz1 hk1 => ?_)
  refine lv_astore (lv' := [(6, .ref q9), (0, .ref x0), (1, .int 3), (2, .int a), (3, .int b), (4, .int w), (5, .int v)]) hx hb dL_far_87 hl (by decide) rfl (fun ls hl => ?_)
  refine lv_sipush (v := (-992)) hx hb dL_far_89 (by decide) ?_
  refine W.widen (k := 1) (n := 6) (by omega) (by omega) ?_
  exact W.iret hx hb hr (fun t ht hW => ⟨rfl, by rw [ht]; exact hz1, fun q hq => by rw [ht]; exact hk1 q hq⟩) (fun _ h => nomatch h) dL_far_92
set_option maxHeartbeats 8000000 in
set_option maxRecDepth 100000 in
/-- far(4), refused -/
theorem kL_far_b4 (l : Launch) (dC : Nat → ClassId) (dI : Nat → Nat → Nat) (cI cZ cH cJ : ClassId) (x0 : Nat) (xq : Nat) (now : Int32) (xg : Nat → Option Nat) (had : Nat → Nat → Nat) (hg : ∀ i, i < 4 → xg i = some (had i 0)) (σ : Nat → zHS) (a : Int32) (b : Int32) (w : Int32) (v : Int32) (hv : ¬ zin a 0 3 = 1) (hst : l.stackTraces = false) : Met l yL_far wsL_far ({ frames := 8, cells := 1, slots := 6, locals := 133 }) (zYc dC dI (zTy cI cZ cH cJ) [.ref x0, .int 4, .int a, .int b, .int w, .int v] (zOb cI cZ cH x0 xq xg had now σ)) (zSg (-992)) 1 6 (fun _ => False) := by
  refine va_MetW (cc := cL_far) (maxL := 7) (ret := (some .int)) (by decide) rfl ?_
  intro p e s m args below meth c s₁ B hml hv0
  obtain ⟨rfl, ⟨hT, hNc⟩, hP, hK⟩ := hv0
  have hx := B.exec
  have hb := B.bytes
  have hr := B.returns
  have hts := atoms_spec (ws := wsL_far) B.pre
  have hown : s.vm.findClass RL = some m.cls := findClass_of_methodNamed B.named
  have hlocks := B.notSynchronized
  have htab := vx_table (x := yL_far) B (hts _ List.mem_cons_self)
  have hl := lv_entry ([.ref x0, .int 4, .int a, .int b, .int w, .int v]) (n := 7) (Nat.le_of_ble_eq_true rfl)
  rw [lg_entry_eq]
  generalize (lg_sl ([.ref x0, .int 4, .int a, .int b, .int w, .int v]) ++ List.replicate (7 - (lg_sl ([.ref x0, .int 4, .int a, .int b, .int w, .int v])).length) Slot.unset).toArray = ls at hl ⊢
  have hl : lv_has ls 7 [(0, .ref x0), (1, .int 4), (2, .int a), (3, .int b), (4, .int w), (5, .int v)] := hl
  refine lv_iload_n hx hb dL_far_0 rfl (lv_at hl 1 rfl) ?_
  refine lv_if_ne (tgt := 15) hx hb dL_far_1 (by decide) (fun c_1 => ?_) (fun c_1 => absurd c_1 (by decide))
  refine lv_iload_n hx hb dL_far_15 rfl (lv_at hl 1 rfl) ?_
  refine lv_iconst (v := 1) hx hb dL_far_16 (by decide) ?_
  refine lv_icmp_ne (tgt := 33) hx hb dL_far_17 (by decide) (fun c_17 => ?_) (fun c_17 => absurd c_17 (by decide))
  refine lv_iload_n hx hb dL_far_33 rfl (lv_at hl 1 rfl) ?_
  refine lv_iconst (v := 2) hx hb dL_far_34 (by decide) ?_
  refine lv_icmp_ne (tgt := 55) hx hb dL_far_35 (by decide) (fun c_35 => ?_) (fun c_35 => absurd c_35 (by decide))
  refine lv_iload_n hx hb dL_far_55 rfl (lv_at hl 1 rfl) ?_
  refine lv_iconst (v := 3) hx hb dL_far_56 (by decide) ?_
  refine lv_icmp_ne (tgt := 68) hx hb dL_far_57 (by decide) (fun c_57 => ?_) (fun c_57 => absurd c_57 (by decide))
  refine lv_iload_n hx hb dL_far_68 rfl (lv_at hl 1 rfl) ?_
  refine lv_iconst (v := 4) hx hb dL_far_69 (by decide) ?_
  refine lv_icmp_ne (tgt := 81) hx hb dL_far_70 (by decide) (fun c_70 => absurd c_70 (by decide)) (fun c_70 => ?_)
  refine lv_aload_n hx hb dL_far_73 rfl (lv_at hl 0 rfl) ?_
  refine lv_iload_n hx hb dL_far_74 rfl (lv_at hl 2 rfl) ?_
  refine z_cC (own := RL) (name := zIAE) (vx_runV (As := [.int a]) (rest := []) ⟨hx, hb, hml, hown, hts⟩ (c_farB l dC dI cI cZ cH cJ x0 xq now xg had hg σ a (hv) hst) (cwV 1 hts gL_far_X3_far rfl rfl rfl (by decide +kernel) ⟨Nat.le_of_ble_eq_true rfl, Nat.le_of_ble_eq_true rfl⟩) (zPreX1 hT hK hP (zrecv hK hP)) rfl rfl hl.1 rfl (lv_room (Nat.le_of_ble_eq_true rfl)) dL_far_75 ⟨show _ ≤ 1 by omega, show _ ≤ 6 by omega⟩) hown [] ⟨0, 86, 87, 33⟩ [⟨0, 86, 93, 35⟩] htab (fun _ h => nomatch h) (by decide) (by decide) (hts (.classLink RL 33 zIAE) (by decide +kernel)) (va_Nw.use rfl (hT.2.2.1 (.castable zIAE zIAE) (by simp [zBad]))) (fun q9 H hz1 hk1 => ?_)
  refine lv_astore (lv' := [(6, .ref q9), (0, .ref x0), (1, .int 4), (2, .int a), (3, .int b), (4, .int w), (5, .int v)]) hx hb dL_far_87 hl (by decide) rfl (fun ls hl => ?_)
  refine lv_sipush (v := (-992)) hx hb dL_far_89 (by decide) ?_
  refine W.widen (k := 1) (n := 6) (by omega) (by omega) ?_
  exact W.iret hx hb hr (fun t ht hW => ⟨rfl, by rw [ht]; exact hz1, fun q hq => by rw [ht]; exact hk1 q hq⟩) (fun _ h => nomatch h) dL_far_92
set_option maxHeartbeats 8000000 in
set_option maxRecDepth 100000 in
/-- far(5), refused -/
theorem kL_far_b5 (l : Launch) (dC : Nat → ClassId) (dI : Nat → Nat → Nat) (cI cZ cH cJ : ClassId) (x0 : Nat) (xq : Nat) (now : Int32) (xg : Nat → Option Nat) (had : Nat → Nat → Nat) (hg : ∀ i, i < 4 → xg i = some (had i 0)) (σ : Nat → zHS) (a : Int32) (b : Int32) (w : Int32) (v : Int32) (hv : ¬ zin a 0 3 = 1) (hst : l.stackTraces = false) : Met l yL_far wsL_far ({ frames := 8, cells := 1, slots := 6, locals := 133 }) (zYc dC dI (zTy cI cZ cH cJ) [.ref x0, .int 5, .int a, .int b, .int w, .int v] (zOb cI cZ cH x0 xq xg had now σ)) (zSg (-992)) 1 6 (fun _ => False) := by
  refine va_MetW (cc := cL_far) (maxL := 7) (ret := (some .int)) (by decide) rfl ?_
  intro p e s m args below meth c s₁ B hml hv0
  obtain ⟨rfl, ⟨hT, hNc⟩, hP, hK⟩ := hv0
  have hx := B.exec
  have hb := B.bytes
  have hr := B.returns
  have hts := atoms_spec (ws := wsL_far) B.pre
  have hown : s.vm.findClass RL = some m.cls := findClass_of_methodNamed B.named
  have hlocks := B.notSynchronized
  have htab := vx_table (x := yL_far) B (hts _ List.mem_cons_self)
  have hl := lv_entry ([.ref x0, .int 5, .int a, .int b, .int w, .int v]) (n := 7) (Nat.le_of_ble_eq_true rfl)
  rw [lg_entry_eq]
  generalize (lg_sl ([.ref x0, .int 5, .int a, .int b, .int w, .int v]) ++ List.replicate (7 - (lg_sl ([.ref x0, .int 5, .int a, .int b, .int w, .int v])).length) Slot.unset).toArray = ls at hl ⊢
  have hl : lv_has ls 7 [(0, .ref x0), (1, .int 5), (2, .int a), (3, .int b), (4, .int w), (5, .int v)] := hl
  refine lv_iload_n hx hb dL_far_0 rfl (lv_at hl 1 rfl) ?_
  refine lv_if_ne (tgt := 15) hx hb dL_far_1 (by decide) (fun c_1 => ?_) (fun c_1 => absurd c_1 (by decide))
  refine lv_iload_n hx hb dL_far_15 rfl (lv_at hl 1 rfl) ?_
  refine lv_iconst (v := 1) hx hb dL_far_16 (by decide) ?_
  refine lv_icmp_ne (tgt := 33) hx hb dL_far_17 (by decide) (fun c_17 => ?_) (fun c_17 => absurd c_17 (by decide))
  refine lv_iload_n hx hb dL_far_33 rfl (lv_at hl 1 rfl) ?_
  refine lv_iconst (v := 2) hx hb dL_far_34 (by decide) ?_
  refine lv_icmp_ne (tgt := 55) hx hb dL_far_35 (by decide) (fun c_35 => ?_) (fun c_35 => absurd c_35 (by decide))
  refine lv_iload_n hx hb dL_far_55 rfl (lv_at hl 1 rfl) ?_
  refine lv_iconst (v := 3) hx hb dL_far_56 (by decide) ?_
  refine lv_icmp_ne (tgt := 68) hx hb dL_far_57 (by decide) (fun c_57 => ?_) (fun c_57 => absurd c_57 (by decide))
  refine lv_iload_n hx hb dL_far_68 rfl (lv_at hl 1 rfl) ?_
  refine lv_iconst (v := 4) hx hb dL_far_69 (by decide) ?_
  refine lv_icmp_ne (tgt := 81) hx hb dL_far_70 (by decide) (fun c_70 => ?_) (fun c_70 => absurd c_70 (by decide))
  refine lv_aload_n hx hb dL_far_81 rfl (lv_at hl 0 rfl) ?_
  refine lv_iload_n hx hb dL_far_82 rfl (lv_at hl 2 rfl) ?_
  refine z_cC (own := RL) (name := zIAE) (vx_runV (As := [.int a]) (rest := []) ⟨hx, hb, hml, hown, hts⟩ (c_toldB l dC dI cI cZ cH cJ x0 xq now xg had hg σ a (hv) hst) (cwV 1 hts gL_far_X3_told rfl rfl rfl (by decide +kernel) ⟨Nat.le_of_ble_eq_true rfl, Nat.le_of_ble_eq_true rfl⟩) (zPreX1 hT hK hP (zrecv hK hP)) rfl rfl hl.1 rfl (lv_room (Nat.le_of_ble_eq_true rfl)) dL_far_83 ⟨show _ ≤ 1 by omega, show _ ≤ 6 by omega⟩) hown [] ⟨0, 86, 87, 33⟩ [⟨0, 86, 93, 35⟩] htab (fun _ h => nomatch h) (by decide) (by decide) (hts (.classLink RL 33 zIAE) (by decide +kernel)) (va_Nw.use rfl (hT.2.2.1 (.castable zIAE zIAE) (by simp [zBad]))) (fun q9 H hz1 hk1 => ?_)
  refine lv_astore (lv' := [(6, .ref q9), (0, .ref x0), (1, .int 5), (2, .int a), (3, .int b), (4, .int w), (5, .int v)]) hx hb dL_far_87 hl (by decide) rfl (fun ls hl => ?_)
  refine lv_sipush (v := (-992)) hx hb dL_far_89 (by decide) ?_
  refine W.widen (k := 1) (n := 6) (by omega) (by omega) ?_
  exact W.iret hx hb hr (fun t ht hW => ⟨rfl, by rw [ht]; exact hz1, fun q hq => by rw [ht]; exact hk1 q hq⟩) (fun _ h => nomatch h) dL_far_92
set_option maxHeartbeats 8000000 in
set_option maxRecDepth 100000 in
/-- far(2): not there -/
theorem kL_far_n2 (l : Launch) (dC : Nat → ClassId) (dI : Nat → Nat → Nat) (cI cZ cH cJ : ClassId) (x0 : Nat) (xq : Nat) (now : Int32) (xg : Nat → Option Nat) (had : Nat → Nat → Nat) (hg : ∀ i, i < 4 → xg i = some (had i 0)) (σ : Nat → zHS) (ca : Nat) (hca : ca < 4) (r : Nat) (hrr : r < 20) (hk1 : hFT (σ ca) r = 0) (w : Int32) (v : Int32) (hst : l.stackTraces = false) : Met l yL_far wsL_far ({ frames := 9, cells := 1, slots := 6, locals := 155 }) (zYc dC dI (zTy cI cZ cH cJ) [.ref x0, .int 2, .int (nI ca), .int (nI r), .int w, .int v] (zOb cI cZ cH x0 xq xg had now σ)) (zSg (-993)) 1 6 (fun _ => False) := by
  refine va_MetW (cc := cL_far) (maxL := 7) (ret := (some .int)) (by decide) rfl ?_
  intro p e s m args below meth c s₁ B hml hv0
  obtain ⟨rfl, ⟨hT, hNc⟩, hP, hK⟩ := hv0
  have hx := B.exec
  have hb := B.bytes
  have hr := B.returns
  have hts := atoms_spec (ws := wsL_far) B.pre
  have hown : s.vm.findClass RL = some m.cls := findClass_of_methodNamed B.named
  have hlocks := B.notSynchronized
  have htab := vx_table (x := yL_far) B (hts _ List.mem_cons_self)
  have hl := lv_entry ([.ref x0, .int 2, .int (nI ca), .int (nI r), .int w, .int v]) (n := 7) (Nat.le_of_ble_eq_true rfl)
  rw [lg_entry_eq]
  generalize (lg_sl ([.ref x0, .int 2, .int (nI ca), .int (nI r), .int w, .int v]) ++ List.replicate (7 - (lg_sl ([.ref x0, .int 2, .int (nI ca), .int (nI r), .int w, .int v])).length) Slot.unset).toArray = ls at hl ⊢
  have hl : lv_has ls 7 [(0, .ref x0), (1, .int 2), (2, .int (nI ca)), (3, .int (nI r)), (4, .int w), (5, .int v)] := hl
  refine lv_iload_n hx hb dL_far_0 rfl (lv_at hl 1 rfl) ?_
  refine lv_if_ne (tgt := 15) hx hb dL_far_1 (by decide) (fun c_1 => ?_) (fun c_1 => absurd c_1 (by decide))
  refine lv_iload_n hx hb dL_far_15 rfl (lv_at hl 1 rfl) ?_
  refine lv_iconst (v := 1) hx hb dL_far_16 (by decide) ?_
  refine lv_icmp_ne (tgt := 33) hx hb dL_far_17 (by decide) (fun c_17 => ?_) (fun c_17 => absurd c_17 (by decide))
  refine lv_iload_n hx hb dL_far_33 rfl (lv_at hl 1 rfl) ?_
  refine lv_iconst (v := 2) hx hb dL_far_34 (by decide) ?_
  refine lv_icmp_ne (tgt := 55) hx hb dL_far_35 (by decide) (fun c_35 => absurd c_35 (by decide)) (fun c_35 => ?_)
  refine lv_aload_n hx hb dL_far_38 rfl (lv_at hl 0 rfl) ?_
  refine lv_iload_n hx hb dL_far_39 rfl (lv_at hl 2 rfl) ?_
  refine lv_iload_n hx hb dL_far_40 rfl (lv_at hl 3 rfl) ?_
  refine z_cC (own := RL) (name := zISE) (vx_runV (As := [.int (nI ca), .int (nI r)]) (rest := []) ⟨hx, hb, hml, hown, hts⟩ (c_remN l dC dI cI cZ cH cJ x0 xq now xg had hg σ ca (by first | assumption | omega) r (by first | assumption | omega) (by first | assumption | omega) hst) (cwV 2 hts gL_far_X3_remove rfl rfl rfl (by decide +kernel) ⟨Nat.le_of_ble_eq_true rfl, Nat.le_of_ble_eq_true rfl⟩) (zPreX1 hT hK hP (zrecv hK hP)) rfl rfl hl.1 rfl (lv_room (Nat.le_of_ble_eq_true rfl)) dL_far_41 ⟨show _ ≤ 1 by omega, show _ ≤ 6 by omega⟩) hown [⟨0, 86, 87, 33⟩] ⟨0, 86, 93, 35⟩ [] htab (fun z h => by rw [List.mem_singleton.mp h]; exact Or.inr ⟨by decide, zIAE, hts (.classLink RL 33 zIAE) (by decide +kernel), hNc⟩) (by decide) (by decide) (hts (.classLink RL 35 zISE) (by decide +kernel)) (va_Nw.use rfl (hT.2.2.1 (.castable zISE zISE) (by simp [zBad]))) (fun q9 H hz1 hk1 => ?_)
  refine lv_astore (lv' := [(6, .ref q9), (0, .ref x0), (1, .int 2), (2, .int (nI ca)), (3, .int (nI r)), (4, .int w), (5, .int v)]) hx hb dL_far_93 hl (by decide) rfl (fun ls hl => ?_)
  refine lv_sipush (v := (-993)) hx hb dL_far_95 (by decide) ?_
  refine W.widen (k := 1) (n := 6) (by omega) (by omega) ?_
  exact W.iret hx hb hr (fun t ht hW => ⟨rfl, by rw [ht]; exact hz1, fun q hq => by rw [ht]; exact hk1 q hq⟩) (fun _ h => nomatch h) dL_far_98
set_option maxHeartbeats 8000000 in
set_option maxRecDepth 100000 in
/-- far(3): too far -/
theorem kL_far_n3 (l : Launch) (dC : Nat → ClassId) (dI : Nat → Nat → Nat) (cI cZ cH cJ : ClassId) (x0 : Nat) (xq : Nat) (now : Int32) (xg : Nat → Option Nat) (had : Nat → Nat → Nat) (hg : ∀ i, i < 4 → xg i = some (had i 0)) (σ : Nat → zHS) (d : Int32) (hd1 : zin d 1 100 = 1) (hle : ¬ now + d ≤ 5000) (hst : l.stackTraces = false) : Met l yL_far wsL_far ({ frames := 8, cells := 1, slots := 6, locals := 134 }) (zYc dC dI (zTy cI cZ cH cJ) [.ref x0, .int 3, .int d, .int 0, .int 0, .int 0] (zOb cI cZ cH x0 xq xg had now σ)) (zSg (-993)) 1 6 (fun _ => False) := by
  refine va_MetW (cc := cL_far) (maxL := 7) (ret := (some .int)) (by decide) rfl ?_
  intro p e s m args below meth c s₁ B hml hv0
  obtain ⟨rfl, ⟨hT, hNc⟩, hP, hK⟩ := hv0
  have hx := B.exec
  have hb := B.bytes
  have hr := B.returns
  have hts := atoms_spec (ws := wsL_far) B.pre
  have hown : s.vm.findClass RL = some m.cls := findClass_of_methodNamed B.named
  have hlocks := B.notSynchronized
  have htab := vx_table (x := yL_far) B (hts _ List.mem_cons_self)
  have hl := lv_entry ([.ref x0, .int 3, .int d, .int 0, .int 0, .int 0]) (n := 7) (Nat.le_of_ble_eq_true rfl)
  rw [lg_entry_eq]
  generalize (lg_sl ([.ref x0, .int 3, .int d, .int 0, .int 0, .int 0]) ++ List.replicate (7 - (lg_sl ([.ref x0, .int 3, .int d, .int 0, .int 0, .int 0])).length) Slot.unset).toArray = ls at hl ⊢
  have hl : lv_has ls 7 [(0, .ref x0), (1, .int 3), (2, .int d), (3, .int 0), (4, .int 0), (5, .int 0)] := hl
  refine lv_iload_n hx hb dL_far_0 rfl (lv_at hl 1 rfl) ?_
  refine lv_if_ne (tgt := 15) hx hb dL_far_1 (by decide) (fun c_1 => ?_) (fun c_1 => absurd c_1 (by decide))
  refine lv_iload_n hx hb dL_far_15 rfl (lv_at hl 1 rfl) ?_
  refine lv_iconst (v := 1) hx hb dL_far_16 (by decide) ?_
  refine lv_icmp_ne (tgt := 33) hx hb dL_far_17 (by decide) (fun c_17 => ?_) (fun c_17 => absurd c_17 (by decide))
  refine lv_iload_n hx hb dL_far_33 rfl (lv_at hl 1 rfl) ?_
  refine lv_iconst (v := 2) hx hb dL_far_34 (by decide) ?_
  refine lv_icmp_ne (tgt := 55) hx hb dL_far_35 (by decide) (fun c_35 => ?_) (fun c_35 => absurd c_35 (by decide))
  refine lv_iload_n hx hb dL_far_55 rfl (lv_at hl 1 rfl) ?_
  refine lv_iconst (v := 3) hx hb dL_far_56 (by decide) ?_
  refine lv_icmp_ne (tgt := 68) hx hb dL_far_57 (by decide) (fun c_57 => absurd c_57 (by decide)) (fun c_57 => ?_)
  refine lv_aload_n hx hb dL_far_60 rfl (lv_at hl 0 rfl) ?_
  refine lv_iload_n hx hb dL_far_61 rfl (lv_at hl 2 rfl) ?_
  refine z_cC (own := RL) (name := zISE) (vx_runV (As := [.int d]) (rest := []) ⟨hx, hb, hml, hown, hts⟩ (c_passN l dC dI cI cZ cH cJ x0 xq now xg had hg σ d (by first | assumption | omega) (by first | assumption | omega) hst) (cwV 1 hts gL_far_X3_pass rfl rfl rfl (by decide +kernel) ⟨Nat.le_of_ble_eq_true rfl, Nat.le_of_ble_eq_true rfl⟩) (zPreX1 hT hK hP (zrecv hK hP)) rfl rfl hl.1 rfl (lv_room (Nat.le_of_ble_eq_true rfl)) dL_far_62 ⟨show _ ≤ 1 by omega, show _ ≤ 6 by omega⟩) hown [⟨0, 86, 87, 33⟩] ⟨0, 86, 93, 35⟩ [] htab (fun z h => by rw [List.mem_singleton.mp h]; exact Or.inr ⟨by decide, zIAE, hts (.classLink RL 33 zIAE) (by decide +kernel), hNc⟩) (by decide) (by decide) (hts (.classLink RL 35 zISE) (by decide +kernel)) (va_Nw.use rfl (hT.2.2.1 (.castable zISE zISE) (by simp [zBad]))) (fun q9 H hz1 hk1 => ?_)
  refine lv_astore (lv' := [(6, .ref q9), (0, .ref x0), (1, .int 3), (2, .int d), (3, .int 0), (4, .int 0), (5, .int 0)]) hx hb dL_far_93 hl (by decide) rfl (fun ls hl => ?_)
  refine lv_sipush (v := (-993)) hx hb dL_far_95 (by decide) ?_
  refine W.widen (k := 1) (n := 6) (by omega) (by omega) ?_
  exact W.iret hx hb hr (fun t ht hW => ⟨rfl, by rw [ht]; exact hz1, fun q hq => by rw [ht]; exact hk1 q hq⟩) (fun _ h => nomatch h) dL_far_98
