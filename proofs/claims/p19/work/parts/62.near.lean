set_option maxHeartbeats 8000000 in
set_option maxRecDepth 100000 in
/-- near(0), refused -/
theorem kL_near_b0 (l : Launch) (dC : Nat → ClassId) (dI : Nat → Nat → Nat) (cI cZ cH cJ : ClassId) (x0 : Nat) (xq : Nat) (now : Int32) (xg : Nat → Option Nat) (had : Nat → Nat → Nat) (hg : ∀ i, i < 4 → xg i = some (had i 0)) (σ : Nat → zHS) (a : Int32) (hv : ¬ zin a 0 3 = 1) (hst : l.stackTraces = false) : Met l yL_near wsL_near ({ frames := 8, cells := 1, slots := 6, locals := 135 }) (zYc dC dI (zTy cI cZ cH cJ) [.ref x0, .int 0, .int a, .int 0] (zOb cI cZ cH x0 xq xg had now σ)) (zSg (-992)) 1 6 (fun _ => False) := by
  refine va_MetW (cc := cL_near) (maxL := 5) (ret := (some .int)) (by decide) rfl ?_
  intro p e s m args below meth c s₁ B hml hv0
  obtain ⟨rfl, ⟨hT, hNc⟩, hP, hK⟩ := hv0
  have hx := B.exec
  have hb := B.bytes
  have hr := B.returns
  have hts := atoms_spec (ws := wsL_near) B.pre
  have hown : s.vm.findClass RL = some m.cls := findClass_of_methodNamed B.named
  have hlocks := B.notSynchronized
  have htab := vx_table (x := yL_near) B (hts _ List.mem_cons_self)
  have hl := lv_entry ([.ref x0, .int 0, .int a, .int 0]) (n := 5) (Nat.le_of_ble_eq_true rfl)
  rw [lg_entry_eq]
  generalize (lg_sl ([.ref x0, .int 0, .int a, .int 0]) ++ List.replicate (5 - (lg_sl ([.ref x0, .int 0, .int a, .int 0])).length) Slot.unset).toArray = ls at hl ⊢
  have hl : lv_has ls 5 [(0, .ref x0), (1, .int 0), (2, .int a), (3, .int 0)] := hl
  refine lv_iload_n hx hb dL_near_0 rfl (lv_at hl 1 rfl) ?_
  refine lv_if_ne (tgt := 22) hx hb dL_near_1 (by decide) (fun c_1 => absurd c_1 (by decide)) (fun c_1 => ?_)
  refine lv_aload_n hx hb dL_near_4 rfl (lv_at hl 0 rfl) ?_
  refine lv_iload_n hx hb dL_near_5 rfl (lv_at hl 2 rfl) ?_
  refine lv_iload_n hx hb dL_near_6 rfl (lv_at hl 3 rfl) ?_
  refine lv_iconst (v := 1) hx hb dL_near_7 (by decide) ?_
  refine lv_icmp_ne (tgt := 15) hx hb dL_near_8 (by decide) (fun c_8 => ?_) (fun c_8 => absurd c_8 (by decide))
  refine lv_iconst (v := 0) hx hb dL_near_15 (by decide) ?_
  refine z_cC (own := RL) (name := zIAE) (vx_runV (As := [.int a, .int 0]) (rest := []) ⟨hx, hb, hml, hown, hts⟩ (c_openB l dC dI cI cZ cH cJ x0 xq now xg had hg σ a 0 (hv) hst) (cwV 2 hts gL_near_X3_open rfl rfl rfl (by decide +kernel) ⟨Nat.le_of_ble_eq_true rfl, Nat.le_of_ble_eq_true rfl⟩) (zPreX1 hT hK hP (zrecv hK hP)) rfl rfl hl.1 rfl (lv_room (Nat.le_of_ble_eq_true rfl)) dL_near_16 ⟨show _ ≤ 1 by omega, show _ ≤ 6 by omega⟩) hown [] ⟨0, 129, 130, 33⟩ [⟨0, 129, 136, 35⟩] htab (fun _ h => nomatch h) (by decide) (by decide) (hts (.classLink RL 33 zIAE) (by decide +kernel)) (va_Nw.use rfl (hT.2.2.1 (.castable zIAE zIAE) (by simp [zBad]))) (fun q9 H hz1 hk1 => ?_)
  refine lv_astore (lv' := [(4, .ref q9), (0, .ref x0), (1, .int 0), (2, .int a), (3, .int 0)]) hx hb dL_near_130 hl (by decide) rfl (fun ls hl => ?_)
  refine lv_sipush (v := (-992)) hx hb dL_near_132 (by decide) ?_
  refine W.widen (k := 1) (n := 6) (by omega) (by omega) ?_
  exact W.iret hx hb hr (fun t ht hW => ⟨rfl, by rw [ht]; exact hz1, fun q hq => by rw [ht]; exact hk1 q hq⟩) (fun _ h => nomatch h) dL_near_135
set_option maxHeartbeats 8000000 in
set_option maxRecDepth 100000 in
/-- near(1), refused -/
theorem kL_near_b1 (l : Launch) (dC : Nat → ClassId) (dI : Nat → Nat → Nat) (cI cZ cH cJ : ClassId) (x0 : Nat) (xq : Nat) (now : Int32) (xg : Nat → Option Nat) (had : Nat → Nat → Nat) (hg : ∀ i, i < 4 → xg i = some (had i 0)) (σ : Nat → zHS) (a : Int32) (hv : ¬ zin a 0 3 = 1) (hst : l.stackTraces = false) : Met l yL_near wsL_near ({ frames := 8, cells := 1, slots := 6, locals := 134 }) (zYc dC dI (zTy cI cZ cH cJ) [.ref x0, .int 1, .int a, .int 0] (zOb cI cZ cH x0 xq xg had now σ)) (zSg (-992)) 1 6 (fun _ => False) := by
  refine va_MetW (cc := cL_near) (maxL := 5) (ret := (some .int)) (by decide) rfl ?_
  intro p e s m args below meth c s₁ B hml hv0
  obtain ⟨rfl, ⟨hT, hNc⟩, hP, hK⟩ := hv0
  have hx := B.exec
  have hb := B.bytes
  have hr := B.returns
  have hts := atoms_spec (ws := wsL_near) B.pre
  have hown : s.vm.findClass RL = some m.cls := findClass_of_methodNamed B.named
  have hlocks := B.notSynchronized
  have htab := vx_table (x := yL_near) B (hts _ List.mem_cons_self)
  have hl := lv_entry ([.ref x0, .int 1, .int a, .int 0]) (n := 5) (Nat.le_of_ble_eq_true rfl)
  rw [lg_entry_eq]
  generalize (lg_sl ([.ref x0, .int 1, .int a, .int 0]) ++ List.replicate (5 - (lg_sl ([.ref x0, .int 1, .int a, .int 0])).length) Slot.unset).toArray = ls at hl ⊢
  have hl : lv_has ls 5 [(0, .ref x0), (1, .int 1), (2, .int a), (3, .int 0)] := hl
  refine lv_iload_n hx hb dL_near_0 rfl (lv_at hl 1 rfl) ?_
  refine lv_if_ne (tgt := 22) hx hb dL_near_1 (by decide) (fun c_1 => ?_) (fun c_1 => absurd c_1 (by decide))
  refine lv_iload_n hx hb dL_near_22 rfl (lv_at hl 1 rfl) ?_
  refine lv_iconst (v := 1) hx hb dL_near_23 (by decide) ?_
  refine lv_icmp_ne (tgt := 35) hx hb dL_near_24 (by decide) (fun c_24 => absurd c_24 (by decide)) (fun c_24 => ?_)
  refine lv_aload_n hx hb dL_near_27 rfl (lv_at hl 0 rfl) ?_
  refine lv_iload_n hx hb dL_near_28 rfl (lv_at hl 2 rfl) ?_
  refine z_cC (own := RL) (name := zIAE) (vx_runV (As := [.int a]) (rest := []) ⟨hx, hb, hml, hown, hts⟩ (c_readB l dC dI cI cZ cH cJ x0 xq now xg had hg σ a (hv) hst) (cwV 1 hts gL_near_X3_read rfl rfl rfl (by decide +kernel) ⟨Nat.le_of_ble_eq_true rfl, Nat.le_of_ble_eq_true rfl⟩) (zPreX1 hT hK hP (zrecv hK hP)) rfl rfl hl.1 rfl (lv_room (Nat.le_of_ble_eq_true rfl)) dL_near_29 ⟨show _ ≤ 1 by omega, show _ ≤ 6 by omega⟩) hown [] ⟨0, 129, 130, 33⟩ [⟨0, 129, 136, 35⟩] htab (fun _ h => nomatch h) (by decide) (by decide) (hts (.classLink RL 33 zIAE) (by decide +kernel)) (va_Nw.use rfl (hT.2.2.1 (.castable zIAE zIAE) (by simp [zBad]))) (fun q9 H hz1 hk1 => ?_)
  refine lv_astore (lv' := [(4, .ref q9), (0, .ref x0), (1, .int 1), (2, .int a), (3, .int 0)]) hx hb dL_near_130 hl (by decide) rfl (fun ls hl => ?_)
  refine lv_sipush (v := (-992)) hx hb dL_near_132 (by decide) ?_
  refine W.widen (k := 1) (n := 6) (by omega) (by omega) ?_
  exact W.iret hx hb hr (fun t ht hW => ⟨rfl, by rw [ht]; exact hz1, fun q hq => by rw [ht]; exact hk1 q hq⟩) (fun _ h => nomatch h) dL_near_135
set_option maxHeartbeats 8000000 in
set_option maxRecDepth 100000 in
/-- near(2), refused -/
theorem kL_near_b2 (l : Launch) (dC : Nat → ClassId) (dI : Nat → Nat → Nat) (cI cZ cH cJ : ClassId) (x0 : Nat) (xq : Nat) (now : Int32) (xg : Nat → Option Nat) (had : Nat → Nat → Nat) (hg : ∀ i, i < 4 → xg i = some (had i 0)) (σ : Nat → zHS) (a : Int32) (hv : ¬ zin a 0 3 = 1) (hst : l.stackTraces = false) : Met l yL_near wsL_near ({ frames := 8, cells := 1, slots := 6, locals := 133 }) (zYc dC dI (zTy cI cZ cH cJ) [.ref x0, .int 2, .int a, .int 0] (zOb cI cZ cH x0 xq xg had now σ)) (zSg (-992)) 1 6 (fun _ => False) := by
  refine va_MetW (cc := cL_near) (maxL := 5) (ret := (some .int)) (by decide) rfl ?_
  intro p e s m args below meth c s₁ B hml hv0
  obtain ⟨rfl, ⟨hT, hNc⟩, hP, hK⟩ := hv0
  have hx := B.exec
  have hb := B.bytes
  have hr := B.returns
  have hts := atoms_spec (ws := wsL_near) B.pre
  have hown : s.vm.findClass RL = some m.cls := findClass_of_methodNamed B.named
  have hlocks := B.notSynchronized
  have htab := vx_table (x := yL_near) B (hts _ List.mem_cons_self)
  have hl := lv_entry ([.ref x0, .int 2, .int a, .int 0]) (n := 5) (Nat.le_of_ble_eq_true rfl)
  rw [lg_entry_eq]
  generalize (lg_sl ([.ref x0, .int 2, .int a, .int 0]) ++ List.replicate (5 - (lg_sl ([.ref x0, .int 2, .int a, .int 0])).length) Slot.unset).toArray = ls at hl ⊢
  have hl : lv_has ls 5 [(0, .ref x0), (1, .int 2), (2, .int a), (3, .int 0)] := hl
  refine lv_iload_n hx hb dL_near_0 rfl (lv_at hl 1 rfl) ?_
  refine lv_if_ne (tgt := 22) hx hb dL_near_1 (by decide) (fun c_1 => ?_) (fun c_1 => absurd c_1 (by decide))
  refine lv_iload_n hx hb dL_near_22 rfl (lv_at hl 1 rfl) ?_
  refine lv_iconst (v := 1) hx hb dL_near_23 (by decide) ?_
  refine lv_icmp_ne (tgt := 35) hx hb dL_near_24 (by decide) (fun c_24 => ?_) (fun c_24 => absurd c_24 (by decide))
  refine lv_iload_n hx hb dL_near_35 rfl (lv_at hl 1 rfl) ?_
  refine lv_iconst (v := 2) hx hb dL_near_36 (by decide) ?_
  refine lv_icmp_ne (tgt := 56) hx hb dL_near_37 (by decide) (fun c_37 => absurd c_37 (by decide)) (fun c_37 => ?_)
  refine lv_aload_n hx hb dL_near_40 rfl (lv_at hl 0 rfl) ?_
  refine lv_iload_n hx hb dL_near_41 rfl (lv_at hl 2 rfl) ?_
  refine z_cC (own := RL) (name := zIAE) (vx_runV (As := [.int a]) (rest := []) ⟨hx, hb, hml, hown, hts⟩ (c_isOpenB l dC dI cI cZ cH cJ x0 xq now xg had hg σ a (hv) hst) (cwV 1 hts gL_near_X3_isOpen rfl rfl rfl (by decide +kernel) ⟨Nat.le_of_ble_eq_true rfl, Nat.le_of_ble_eq_true rfl⟩) (zPreX1 hT hK hP (zrecv hK hP)) rfl rfl hl.1 rfl (lv_room (Nat.le_of_ble_eq_true rfl)) dL_near_42 ⟨show _ ≤ 1 by omega, show _ ≤ 6 by omega⟩) hown [] ⟨0, 129, 130, 33⟩ [⟨0, 129, 136, 35⟩] htab (fun _ h => nomatch h) (by decide) (by decide) (hts (.classLink RL 33 zIAE) (by decide +kernel)) (va_Nw.use rfl (hT.2.2.1 (.castable zIAE zIAE) (by simp [zBad]))) (fun q9 H hz1 hk1 => ?_)
  refine lv_astore (lv' := [(4, .ref q9), (0, .ref x0), (1, .int 2), (2, .int a), (3, .int 0)]) hx hb dL_near_130 hl (by decide) rfl (fun ls hl => ?_)
  refine lv_sipush (v := (-992)) hx hb dL_near_132 (by decide) ?_
  refine W.widen (k := 1) (n := 6) (by omega) (by omega) ?_
  exact W.iret hx hb hr (fun t ht hW => ⟨rfl, by rw [ht]; exact hz1, fun q hq => by rw [ht]; exact hk1 q hq⟩) (fun _ h => nomatch h) dL_near_135
set_option maxHeartbeats 8000000 in
set_option maxRecDepth 100000 in
/-- near(3), refused -/
theorem kL_near_b3 (l : Launch) (dC : Nat → ClassId) (dI : Nat → Nat → Nat) (cI cZ cH cJ : ClassId) (x0 : Nat) (xq : Nat) (now : Int32) (xg : Nat → Option Nat) (had : Nat → Nat → Nat) (hg : ∀ i, i < 4 → xg i = some (had i 0)) (σ : Nat → zHS) (a : Int32) (hv : ¬ zin a 0 3 = 1) (hst : l.stackTraces = false) : Met l yL_near wsL_near ({ frames := 8, cells := 1, slots := 6, locals := 133 }) (zYc dC dI (zTy cI cZ cH cJ) [.ref x0, .int 3, .int a, .int 0] (zOb cI cZ cH x0 xq xg had now σ)) (zSg (-992)) 1 6 (fun _ => False) := by
  refine va_MetW (cc := cL_near) (maxL := 5) (ret := (some .int)) (by decide) rfl ?_
  intro p e s m args below meth c s₁ B hml hv0
  obtain ⟨rfl, ⟨hT, hNc⟩, hP, hK⟩ := hv0
  have hx := B.exec
  have hb := B.bytes
  have hr := B.returns
  have hts := atoms_spec (ws := wsL_near) B.pre
  have hown : s.vm.findClass RL = some m.cls := findClass_of_methodNamed B.named
  have hlocks := B.notSynchronized
  have htab := vx_table (x := yL_near) B (hts _ List.mem_cons_self)
  have hl := lv_entry ([.ref x0, .int 3, .int a, .int 0]) (n := 5) (Nat.le_of_ble_eq_true rfl)
  rw [lg_entry_eq]
  generalize (lg_sl ([.ref x0, .int 3, .int a, .int 0]) ++ List.replicate (5 - (lg_sl ([.ref x0, .int 3, .int a, .int 0])).length) Slot.unset).toArray = ls at hl ⊢
  have hl : lv_has ls 5 [(0, .ref x0), (1, .int 3), (2, .int a), (3, .int 0)] := hl
  refine lv_iload_n hx hb dL_near_0 rfl (lv_at hl 1 rfl) ?_
  refine lv_if_ne (tgt := 22) hx hb dL_near_1 (by decide) (fun c_1 => ?_) (fun c_1 => absurd c_1 (by decide))
  refine lv_iload_n hx hb dL_near_22 rfl (lv_at hl 1 rfl) ?_
  refine lv_iconst (v := 1) hx hb dL_near_23 (by decide) ?_
  refine lv_icmp_ne (tgt := 35) hx hb dL_near_24 (by decide) (fun c_24 => ?_) (fun c_24 => absurd c_24 (by decide))
  refine lv_iload_n hx hb dL_near_35 rfl (lv_at hl 1 rfl) ?_
  refine lv_iconst (v := 2) hx hb dL_near_36 (by decide) ?_
  refine lv_icmp_ne (tgt := 56) hx hb dL_near_37 (by decide) (fun c_37 => ?_) (fun c_37 => absurd c_37 (by decide))
  refine lv_iload_n hx hb dL_near_56 rfl (lv_at hl 1 rfl) ?_
  refine lv_iconst (v := 3) hx hb dL_near_57 (by decide) ?_
  refine lv_icmp_ne (tgt := 69) hx hb dL_near_58 (by decide) (fun c_58 => absurd c_58 (by decide)) (fun c_58 => ?_)
  refine lv_aload_n hx hb dL_near_61 rfl (lv_at hl 0 rfl) ?_
  refine lv_iload_n hx hb dL_near_62 rfl (lv_at hl 2 rfl) ?_
  refine z_cC (own := RL) (name := zIAE) (vx_runV (As := [.int a]) (rest := []) ⟨hx, hb, hml, hown, hts⟩ (c_markB l dC dI cI cZ cH cJ x0 xq now xg had hg σ a (hv) hst) (cwV 1 hts gL_near_X3_mark rfl rfl rfl (by decide +kernel) ⟨Nat.le_of_ble_eq_true rfl, Nat.le_of_ble_eq_true rfl⟩) (zPreX1 hT hK hP (zrecv hK hP)) rfl rfl hl.1 rfl (lv_room (Nat.le_of_ble_eq_true rfl)) dL_near_63 ⟨show _ ≤ 1 by omega, show _ ≤ 6 by omega⟩) hown [] ⟨0, 129, 130, 33⟩ [⟨0, 129, 136, 35⟩] htab (fun _ h => nomatch h) (by decide) (by decide) (hts (.classLink RL 33 zIAE) (by decide +kernel)) (va_Nw.use rfl (hT.2.2.1 (.castable zIAE zIAE) (by simp [zBad]))) (fun q9 H hz1 hk1 => ?_)
  refine lv_astore (lv' := [(4, .ref q9), (0, .ref x0), (1, .int 3), (2, .int a), (3, .int 0)]) hx hb dL_near_130 hl (by decide) rfl (fun ls hl => ?_)
  refine lv_sipush (v := (-992)) hx hb dL_near_132 (by decide) ?_
  refine W.widen (k := 1) (n := 6) (by omega) (by omega) ?_
  exact W.iret hx hb hr (fun t ht hW => ⟨rfl, by rw [ht]; exact hz1, fun q hq => by rw [ht]; exact hk1 q hq⟩) (fun _ h => nomatch h) dL_near_135
set_option maxHeartbeats 8000000 in
set_option maxRecDepth 100000 in
/-- near(4), refused -/
theorem kL_near_b4 (l : Launch) (dC : Nat → ClassId) (dI : Nat → Nat → Nat) (cI cZ cH cJ : ClassId) (x0 : Nat) (xq : Nat) (now : Int32) (xg : Nat → Option Nat) (had : Nat → Nat → Nat) (hg : ∀ i, i < 4 → xg i = some (had i 0)) (σ : Nat → zHS) (a : Int32) (b : Int32) (hv : ¬ (zin a 0 3 = 1 ∧ zin b 0 19 = 1)) (hst : l.stackTraces = false) : Met l yL_near wsL_near ({ frames := 9, cells := 1, slots := 6, locals := 155 }) (zYc dC dI (zTy cI cZ cH cJ) [.ref x0, .int 4, .int a, .int b] (zOb cI cZ cH x0 xq xg had now σ)) (zSg (-992)) 1 6 (fun _ => False) := by
  refine va_MetW (cc := cL_near) (maxL := 5) (ret := (some .int)) (by decide) rfl ?_
  intro p e s m args below meth c s₁ B hml hv0
  obtain ⟨rfl, ⟨hT, hNc⟩, hP, hK⟩ := hv0
  have hx := B.exec
  have hb := B.bytes
  have hr := B.returns
  have hts := atoms_spec (ws := wsL_near) B.pre
  have hown : s.vm.findClass RL = some m.cls := findClass_of_methodNamed B.named
  have hlocks := B.notSynchronized
  have htab := vx_table (x := yL_near) B (hts _ List.mem_cons_self)
  have hl := lv_entry ([.ref x0, .int 4, .int a, .int b]) (n := 5) (Nat.le_of_ble_eq_true rfl)
  rw [lg_entry_eq]
  generalize (lg_sl ([.ref x0, .int 4, .int a, .int b]) ++ List.replicate (5 - (lg_sl ([.ref x0, .int 4, .int a, .int b])).length) Slot.unset).toArray = ls at hl ⊢
  have hl : lv_has ls 5 [(0, .ref x0), (1, .int 4), (2, .int a), (3, .int b)] := hl
  refine lv_iload_n hx hb dL_near_0 rfl (lv_at hl 1 rfl) ?_
  refine lv_if_ne (tgt := 22) hx hb dL_near_1 (by decide) (fun c_1 => ?_) (fun c_1 => absurd c_1 (by decide))
  refine lv_iload_n hx hb dL_near_22 rfl (lv_at hl 1 rfl) ?_
  refine lv_iconst (v := 1) hx hb dL_near_23 (by decide) ?_
  refine lv_icmp_ne (tgt := 35) hx hb dL_near_24 (by decide) (fun c_24 => ?_) (fun c_24 => absurd c_24 (by decide))
  refine lv_iload_n hx hb dL_near_35 rfl (lv_at hl 1 rfl) ?_
  refine lv_iconst (v := 2) hx hb dL_near_36 (by decide) ?_
  refine lv_icmp_ne (tgt := 56) hx hb dL_near_37 (by decide) (fun c_37 => ?_) (fun c_37 => absurd c_37 (by decide))
  refine lv_iload_n hx hb dL_near_56 rfl (lv_at hl 1 rfl) ?_
  refine lv_iconst (v := 3) hx hb dL_near_57 (by decide) ?_
  refine lv_icmp_ne (tgt := 69) hx hb dL_near_58 (by decide) (fun c_58 => ?_) (fun c_58 => absurd c_58 (by decide))
  refine lv_iload_n hx hb dL_near_69 rfl (lv_at hl 1 rfl) ?_
  refine lv_iconst (v := 4) hx hb dL_near_70 (by decide) ?_
  refine lv_icmp_ne (tgt := 83) hx hb dL_near_71 (by decide) (fun c_71 => absurd c_71 (by decide)) (fun c_71 => ?_)
  refine lv_aload_n hx hb dL_near_74 rfl (lv_at hl 0 rfl) ?_
  refine lv_iload_n hx hb dL_near_75 rfl (lv_at hl 2 rfl) ?_
  refine lv_iload_n hx hb dL_near_76 rfl (lv_at hl 3 rfl) ?_
  refine z_cC (own := RL) (name := zIAE) (vx_runV (As := [.int a, .int b]) (rest := []) ⟨hx, hb, hml, hown, hts⟩ (c_storedB l dC dI cI cZ cH cJ x0 xq now xg had hg σ a b (hv) hst) (cwV 2 hts gL_near_X3_stored rfl rfl rfl (by decide +kernel) ⟨Nat.le_of_ble_eq_true rfl, Nat.le_of_ble_eq_true rfl⟩) (zPreX1 hT hK hP (zrecv hK hP)) rfl rfl hl.1 rfl (lv_room (Nat.le_of_ble_eq_true rfl)) dL_near_77 ⟨show _ ≤ 1 by omega, show _ ≤ 6 by omega⟩) hown [] ⟨0, 129, 130, 33⟩ [⟨0, 129, 136, 35⟩] htab (fun _ h => nomatch h) (by decide) (by decide) (hts (.classLink RL 33 zIAE) (by decide +kernel)) (va_Nw.use rfl (hT.2.2.1 (.castable zIAE zIAE) (by simp [zBad]))) (fun q9 H hz1 hk1 => ?_)
  refine lv_astore (lv' := [(4, .ref q9), (0, .ref x0), (1, .int 4), (2, .int a), (3, .int b)]) hx hb dL_near_130 hl (by decide) rfl (fun ls hl => ?_)
  refine lv_sipush (v := (-992)) hx hb dL_near_132 (by decide) ?_
  refine W.widen (k := 1) (n := 6) (by omega) (by omega) ?_
  exact W.iret hx hb hr (fun t ht hW => ⟨rfl, by rw [ht]; exact hz1, fun q hq => by rw [ht]; exact hk1 q hq⟩) (fun _ h => nomatch h) dL_near_135
set_option maxHeartbeats 8000000 in
set_option maxRecDepth 100000 in
/-- near(5), refused -/
theorem kL_near_b5 (l : Launch) (dC : Nat → ClassId) (dI : Nat → Nat → Nat) (cI cZ cH cJ : ClassId) (x0 : Nat) (xq : Nat) (now : Int32) (xg : Nat → Option Nat) (had : Nat → Nat → Nat) (hg : ∀ i, i < 4 → xg i = some (had i 0)) (σ : Nat → zHS) (a : Int32) (hv : ¬ zin a 0 3 = 1) (hst : l.stackTraces = false) : Met l yL_near wsL_near ({ frames := 8, cells := 1, slots := 6, locals := 133 }) (zYc dC dI (zTy cI cZ cH cJ) [.ref x0, .int 5, .int a, .int 0] (zOb cI cZ cH x0 xq xg had now σ)) (zSg (-992)) 1 6 (fun _ => False) := by
  refine va_MetW (cc := cL_near) (maxL := 5) (ret := (some .int)) (by decide) rfl ?_
  intro p e s m args below meth c s₁ B hml hv0
  obtain ⟨rfl, ⟨hT, hNc⟩, hP, hK⟩ := hv0
  have hx := B.exec
  have hb := B.bytes
  have hr := B.returns
  have hts := atoms_spec (ws := wsL_near) B.pre
  have hown : s.vm.findClass RL = some m.cls := findClass_of_methodNamed B.named
  have hlocks := B.notSynchronized
  have htab := vx_table (x := yL_near) B (hts _ List.mem_cons_self)
  have hl := lv_entry ([.ref x0, .int 5, .int a, .int 0]) (n := 5) (Nat.le_of_ble_eq_true rfl)
  rw [lg_entry_eq]
  generalize (lg_sl ([.ref x0, .int 5, .int a, .int 0]) ++ List.replicate (5 - (lg_sl ([.ref x0, .int 5, .int a, .int 0])).length) Slot.unset).toArray = ls at hl ⊢
  have hl : lv_has ls 5 [(0, .ref x0), (1, .int 5), (2, .int a), (3, .int 0)] := hl
  refine lv_iload_n hx hb dL_near_0 rfl (lv_at hl 1 rfl) ?_
  refine lv_if_ne (tgt := 22) hx hb dL_near_1 (by decide) (fun c_1 => ?_) (fun c_1 => absurd c_1 (by decide))
  refine lv_iload_n hx hb dL_near_22 rfl (lv_at hl 1 rfl) ?_
  refine lv_iconst (v := 1) hx hb dL_near_23 (by decide) ?_
  refine lv_icmp_ne (tgt := 35) hx hb dL_near_24 (by decide) (fun c_24 => ?_) (fun c_24 => absurd c_24 (by decide))
  refine lv_iload_n hx hb dL_near_35 rfl (lv_at hl 1 rfl) ?_
  refine lv_iconst (v := 2) hx hb dL_near_36 (by decide) ?_
  refine lv_icmp_ne (tgt := 56) hx hb dL_near_37 (by decide) (fun c_37 => ?_) (fun c_37 => absurd c_37 (by decide))
  refine lv_iload_n hx hb dL_near_56 rfl (lv_at hl 1 rfl) ?_
  refine lv_iconst (v := 3) hx hb dL_near_57 (by decide) ?_
  refine lv_icmp_ne (tgt := 69) hx hb dL_near_58 (by decide) (fun c_58 => ?_) (fun c_58 => absurd c_58 (by decide))
  refine lv_iload_n hx hb dL_near_69 rfl (lv_at hl 1 rfl) ?_
  refine lv_iconst (v := 4) hx hb dL_near_70 (by decide) ?_
  refine lv_icmp_ne (tgt := 83) hx hb dL_near_71 (by decide) (fun c_71 => ?_) (fun c_71 => absurd c_71 (by decide))
  refine lv_iload_n hx hb dL_near_83 rfl (lv_at hl 1 rfl) ?_
  refine lv_iconst (v := 5) hx hb dL_near_84 (by decide) ?_
  refine lv_icmp_ne (tgt := 96) hx hb dL_near_85 (by decide) (fun c_85 => absurd c_85 (by decide)) (fun c_85 => ?_)
  refine lv_aload_n hx hb dL_near_88 rfl (lv_at hl 0 rfl) ?_
  refine lv_iload_n hx hb dL_near_89 rfl (lv_at hl 2 rfl) ?_
  refine z_cC (own := RL) (name := zIAE) (vx_runV (As := [.int a]) (rest := []) ⟨hx, hb, hml, hown, hts⟩ (c_heldB l dC dI cI cZ cH cJ x0 xq now xg had hg σ a (hv) hst) (cwV 1 hts gL_near_X3_held rfl rfl rfl (by decide +kernel) ⟨Nat.le_of_ble_eq_true rfl, Nat.le_of_ble_eq_true rfl⟩) (zPreX1 hT hK hP (zrecv hK hP)) rfl rfl hl.1 rfl (lv_room (Nat.le_of_ble_eq_true rfl)) dL_near_90 ⟨show _ ≤ 1 by omega, show _ ≤ 6 by omega⟩) hown [] ⟨0, 129, 130, 33⟩ [⟨0, 129, 136, 35⟩] htab (fun _ h => nomatch h) (by decide) (by decide) (hts (.classLink RL 33 zIAE) (by decide +kernel)) (va_Nw.use rfl (hT.2.2.1 (.castable zIAE zIAE) (by simp [zBad]))) (fun q9 H hz1 hk1 => ?_)
  refine lv_astore (lv' := [(4, .ref q9), (0, .ref x0), (1, .int 5), (2, .int a), (3, .int 0)]) hx hb dL_near_130 hl (by decide) rfl (fun ls hl => ?_)
  refine lv_sipush (v := (-992)) hx hb dL_near_132 (by decide) ?_
  refine W.widen (k := 1) (n := 6) (by omega) (by omega) ?_
  exact W.iret hx hb hr (fun t ht hW => ⟨rfl, by rw [ht]; exact hz1, fun q hq => by rw [ht]; exact hk1 q hq⟩) (fun _ h => nomatch h) dL_near_135
set_option maxHeartbeats 8000000 in
set_option maxRecDepth 100000 in
/-- near(6), refused -/
theorem kL_near_b6 (l : Launch) (dC : Nat → ClassId) (dI : Nat → Nat → Nat) (cI cZ cH cJ : ClassId) (x0 : Nat) (xq : Nat) (now : Int32) (xg : Nat → Option Nat) (had : Nat → Nat → Nat) (hg : ∀ i, i < 4 → xg i = some (had i 0)) (σ : Nat → zHS) (a : Int32) (hv : ¬ zin a 0 3 = 1) (hst : l.stackTraces = false) : Met l yL_near wsL_near ({ frames := 8, cells := 1, slots := 6, locals := 134 }) (zYc dC dI (zTy cI cZ cH cJ) [.ref x0, .int 6, .int a, .int 0] (zOb cI cZ cH x0 xq xg had now σ)) (zSg (-992)) 1 6 (fun _ => False) := by
  refine va_MetW (cc := cL_near) (maxL := 5) (ret := (some .int)) (by decide) rfl ?_
  intro p e s m args below meth c s₁ B hml hv0
  obtain ⟨rfl, ⟨hT, hNc⟩, hP, hK⟩ := hv0
  have hx := B.exec
  have hb := B.bytes
  have hr := B.returns
  have hts := atoms_spec (ws := wsL_near) B.pre
  have hown : s.vm.findClass RL = some m.cls := findClass_of_methodNamed B.named
  have hlocks := B.notSynchronized
  have htab := vx_table (x := yL_near) B (hts _ List.mem_cons_self)
  have hl := lv_entry ([.ref x0, .int 6, .int a, .int 0]) (n := 5) (Nat.le_of_ble_eq_true rfl)
  rw [lg_entry_eq]
  generalize (lg_sl ([.ref x0, .int 6, .int a, .int 0]) ++ List.replicate (5 - (lg_sl ([.ref x0, .int 6, .int a, .int 0])).length) Slot.unset).toArray = ls at hl ⊢
  have hl : lv_has ls 5 [(0, .ref x0), (1, .int 6), (2, .int a), (3, .int 0)] := hl
  refine lv_iload_n hx hb dL_near_0 rfl (lv_at hl 1 rfl) ?_
  refine lv_if_ne (tgt := 22) hx hb dL_near_1 (by decide) (fun c_1 => ?_) (fun c_1 => absurd c_1 (by decide))
  refine lv_iload_n hx hb dL_near_22 rfl (lv_at hl 1 rfl) ?_
  refine lv_iconst (v := 1) hx hb dL_near_23 (by decide) ?_
  refine lv_icmp_ne (tgt := 35) hx hb dL_near_24 (by decide) (fun c_24 => ?_) (fun c_24 => absurd c_24 (by decide))
  refine lv_iload_n hx hb dL_near_35 rfl (lv_at hl 1 rfl) ?_
  refine lv_iconst (v := 2) hx hb dL_near_36 (by decide) ?_
  refine lv_icmp_ne (tgt := 56) hx hb dL_near_37 (by decide) (fun c_37 => ?_) (fun c_37 => absurd c_37 (by decide))
  refine lv_iload_n hx hb dL_near_56 rfl (lv_at hl 1 rfl) ?_
  refine lv_iconst (v := 3) hx hb dL_near_57 (by decide) ?_
  refine lv_icmp_ne (tgt := 69) hx hb dL_near_58 (by decide) (fun c_58 => ?_) (fun c_58 => absurd c_58 (by decide))
  refine lv_iload_n hx hb dL_near_69 rfl (lv_at hl 1 rfl) ?_
  refine lv_iconst (v := 4) hx hb dL_near_70 (by decide) ?_
  refine lv_icmp_ne (tgt := 83) hx hb dL_near_71 (by decide) (fun c_71 => ?_) (fun c_71 => absurd c_71 (by decide))
  refine lv_iload_n hx hb dL_near_83 rfl (lv_at hl 1 rfl) ?_
  refine lv_iconst (v := 5) hx hb dL_near_84 (by decide) ?_
  refine lv_icmp_ne (tgt := 96) hx hb dL_near_85 (by decide) (fun c_85 => ?_) (fun c_85 => absurd c_85 (by decide))
  refine lv_iload_n hx hb dL_near_96 rfl (lv_at hl 1 rfl) ?_
  refine lv_bipush (v := 6) hx hb dL_near_97 (by decide) ?_
  refine lv_icmp_ne (tgt := 110) hx hb dL_near_99 (by decide) (fun c_99 => absurd c_99 (by decide)) (fun c_99 => ?_)
  refine lv_aload_n hx hb dL_near_102 rfl (lv_at hl 0 rfl) ?_
  refine lv_iload_n hx hb dL_near_103 rfl (lv_at hl 2 rfl) ?_
  refine z_cC (own := RL) (name := zIAE) (vx_runV (As := [.int a]) (rest := []) ⟨hx, hb, hml, hown, hts⟩ (c_wrongB l dC dI cI cZ cH cJ x0 xq now xg had hg σ a (hv) hst) (cwV 1 hts gL_near_X3_wrong rfl rfl rfl (by decide +kernel) ⟨Nat.le_of_ble_eq_true rfl, Nat.le_of_ble_eq_true rfl⟩) (zPreX1 hT hK hP (zrecv hK hP)) rfl rfl hl.1 rfl (lv_room (Nat.le_of_ble_eq_true rfl)) dL_near_104 ⟨show _ ≤ 1 by omega, show _ ≤ 6 by omega⟩) hown [] ⟨0, 129, 130, 33⟩ [⟨0, 129, 136, 35⟩] htab (fun _ h => nomatch h) (by decide) (by decide) (hts (.classLink RL 33 zIAE) (by decide +kernel)) (va_Nw.use rfl (hT.2.2.1 (.castable zIAE zIAE) (by simp [zBad]))) (fun q9 H hz1 hk1 => ?_)
  refine lv_astore (lv' := [(4, .ref q9), (0, .ref x0), (1, .int 6), (2, .int a), (3, .int 0)]) hx hb dL_near_130 hl (by decide) rfl (fun ls hl => ?_)
  refine lv_sipush (v := (-992)) hx hb dL_near_132 (by decide) ?_
  refine W.widen (k := 1) (n := 6) (by omega) (by omega) ?_
  exact W.iret hx hb hr (fun t ht hW => ⟨rfl, by rw [ht]; exact hz1, fun q hq => by rw [ht]; exact hk1 q hq⟩) (fun _ h => nomatch h) dL_near_135
set_option maxHeartbeats 8000000 in
set_option maxRecDepth 100000 in
/-- near(7), refused -/
theorem kL_near_b7 (l : Launch) (dC : Nat → ClassId) (dI : Nat → Nat → Nat) (cI cZ cH cJ : ClassId) (x0 : Nat) (xq : Nat) (now : Int32) (xg : Nat → Option Nat) (had : Nat → Nat → Nat) (hg : ∀ i, i < 4 → xg i = some (had i 0)) (σ : Nat → zHS) (a : Int32) (hv : ¬ zin a 0 9 = 1) (hst : l.stackTraces = false) : Met l yL_near wsL_near ({ frames := 8, cells := 1, slots := 6, locals := 135 }) (zYc dC dI (zTy cI cZ cH cJ) [.ref x0, .int 7, .int a, .int 0] (zOb cI cZ cH x0 xq xg had now σ)) (zSg (-992)) 1 6 (fun _ => False) := by
  refine va_MetW (cc := cL_near) (maxL := 5) (ret := (some .int)) (by decide) rfl ?_
  intro p e s m args below meth c s₁ B hml hv0
  obtain ⟨rfl, ⟨hT, hNc⟩, hP, hK⟩ := hv0
  have hx := B.exec
  have hb := B.bytes
  have hr := B.returns
  have hts := atoms_spec (ws := wsL_near) B.pre
  have hown : s.vm.findClass RL = some m.cls := findClass_of_methodNamed B.named
  have hlocks := B.notSynchronized
  have htab := vx_table (x := yL_near) B (hts _ List.mem_cons_self)
  have hl := lv_entry ([.ref x0, .int 7, .int a, .int 0]) (n := 5) (Nat.le_of_ble_eq_true rfl)
  rw [lg_entry_eq]
  generalize (lg_sl ([.ref x0, .int 7, .int a, .int 0]) ++ List.replicate (5 - (lg_sl ([.ref x0, .int 7, .int a, .int 0])).length) Slot.unset).toArray = ls at hl ⊢
  have hl : lv_has ls 5 [(0, .ref x0), (1, .int 7), (2, .int a), (3, .int 0)] := hl
  refine lv_iload_n hx hb dL_near_0 rfl (lv_at hl 1 rfl) ?_
  refine lv_if_ne (tgt := 22) hx hb dL_near_1 (by decide) (fun c_1 => ?_) (fun c_1 => absurd c_1 (by decide))
  refine lv_iload_n hx hb dL_near_22 rfl (lv_at hl 1 rfl) ?_
  refine lv_iconst (v := 1) hx hb dL_near_23 (by decide) ?_
  refine lv_icmp_ne (tgt := 35) hx hb dL_near_24 (by decide) (fun c_24 => ?_) (fun c_24 => absurd c_24 (by decide))
  refine lv_iload_n hx hb dL_near_35 rfl (lv_at hl 1 rfl) ?_
  refine lv_iconst (v := 2) hx hb dL_near_36 (by decide) ?_
  refine lv_icmp_ne (tgt := 56) hx hb dL_near_37 (by decide) (fun c_37 => ?_) (fun c_37 => absurd c_37 (by decide))
  refine lv_iload_n hx hb dL_near_56 rfl (lv_at hl 1 rfl) ?_
  refine lv_iconst (v := 3) hx hb dL_near_57 (by decide) ?_
  refine lv_icmp_ne (tgt := 69) hx hb dL_near_58 (by decide) (fun c_58 => ?_) (fun c_58 => absurd c_58 (by decide))
  refine lv_iload_n hx hb dL_near_69 rfl (lv_at hl 1 rfl) ?_
  refine lv_iconst (v := 4) hx hb dL_near_70 (by decide) ?_
  refine lv_icmp_ne (tgt := 83) hx hb dL_near_71 (by decide) (fun c_71 => ?_) (fun c_71 => absurd c_71 (by decide))
  refine lv_iload_n hx hb dL_near_83 rfl (lv_at hl 1 rfl) ?_
  refine lv_iconst (v := 5) hx hb dL_near_84 (by decide) ?_
  refine lv_icmp_ne (tgt := 96) hx hb dL_near_85 (by decide) (fun c_85 => ?_) (fun c_85 => absurd c_85 (by decide))
  refine lv_iload_n hx hb dL_near_96 rfl (lv_at hl 1 rfl) ?_
  refine lv_bipush (v := 6) hx hb dL_near_97 (by decide) ?_
  refine lv_icmp_ne (tgt := 110) hx hb dL_near_99 (by decide) (fun c_99 => ?_) (fun c_99 => absurd c_99 (by decide))
  refine lv_iload_n hx hb dL_near_110 rfl (lv_at hl 1 rfl) ?_
  refine lv_bipush (v := 7) hx hb dL_near_111 (by decide) ?_
  refine lv_icmp_ne (tgt := 124) hx hb dL_near_113 (by decide) (fun c_113 => absurd c_113 (by decide)) (fun c_113 => ?_)
  refine lv_aload_n hx hb dL_near_116 rfl (lv_at hl 0 rfl) ?_
  refine lv_iload_n hx hb dL_near_117 rfl (lv_at hl 2 rfl) ?_
  refine z_cC (own := RL) (name := zIAE) (vx_runV (As := [.int a]) (rest := []) ⟨hx, hb, hml, hown, hts⟩ (c_copiesB l dC dI cI cZ cH cJ x0 xq now xg had hg σ a (hv) hst) (cwV 1 hts gL_near_X3_copies rfl rfl rfl (by decide +kernel) ⟨Nat.le_of_ble_eq_true rfl, Nat.le_of_ble_eq_true rfl⟩) (zPreX1 hT hK hP (zrecv hK hP)) rfl rfl hl.1 rfl (lv_room (Nat.le_of_ble_eq_true rfl)) dL_near_118 ⟨show _ ≤ 1 by omega, show _ ≤ 6 by omega⟩) hown [] ⟨0, 129, 130, 33⟩ [⟨0, 129, 136, 35⟩] htab (fun _ h => nomatch h) (by decide) (by decide) (hts (.classLink RL 33 zIAE) (by decide +kernel)) (va_Nw.use rfl (hT.2.2.1 (.castable zIAE zIAE) (by simp [zBad]))) (fun q9 H hz1 hk1 => ?_)
  refine lv_astore (lv' := [(4, .ref q9), (0, .ref x0), (1, .int 7), (2, .int a), (3, .int 0)]) hx hb dL_near_130 hl (by decide) rfl (fun ls hl => ?_)
  refine lv_sipush (v := (-992)) hx hb dL_near_132 (by decide) ?_
  refine W.widen (k := 1) (n := 6) (by omega) (by omega) ?_
  exact W.iret hx hb hr (fun t ht hW => ⟨rfl, by rw [ht]; exact hz1, fun q hq => by rw [ht]; exact hk1 q hq⟩) (fun _ h => nomatch h) dL_near_135
set_option maxHeartbeats 8000000 in
set_option maxRecDepth 100000 in
/-- near(8), refused -/
theorem kL_near_b8 (l : Launch) (dC : Nat → ClassId) (dI : Nat → Nat → Nat) (cI cZ cH cJ : ClassId) (x0 : Nat) (xq : Nat) (now : Int32) (xg : Nat → Option Nat) (had : Nat → Nat → Nat) (hg : ∀ i, i < 4 → xg i = some (had i 0)) (σ : Nat → zHS) (a : Int32) (hv : ¬ zin a 0 9 = 1) (hst : l.stackTraces = false) : Met l yL_near wsL_near ({ frames := 8, cells := 1, slots := 6, locals := 138 }) (zYc dC dI (zTy cI cZ cH cJ) [.ref x0, .int 8, .int a, .int 0] (zOb cI cZ cH x0 xq xg had now σ)) (zSg (-992)) 1 6 (fun _ => False) := by
  refine va_MetW (cc := cL_near) (maxL := 5) (ret := (some .int)) (by decide) rfl ?_
  intro p e s m args below meth c s₁ B hml hv0
  obtain ⟨rfl, ⟨hT, hNc⟩, hP, hK⟩ := hv0
  have hx := B.exec
  have hb := B.bytes
  have hr := B.returns
  have hts := atoms_spec (ws := wsL_near) B.pre
  have hown : s.vm.findClass RL = some m.cls := findClass_of_methodNamed B.named
  have hlocks := B.notSynchronized
  have htab := vx_table (x := yL_near) B (hts _ List.mem_cons_self)
  have hl := lv_entry ([.ref x0, .int 8, .int a, .int 0]) (n := 5) (Nat.le_of_ble_eq_true rfl)
  rw [lg_entry_eq]
  generalize (lg_sl ([.ref x0, .int 8, .int a, .int 0]) ++ List.replicate (5 - (lg_sl ([.ref x0, .int 8, .int a, .int 0])).length) Slot.unset).toArray = ls at hl ⊢
  have hl : lv_has ls 5 [(0, .ref x0), (1, .int 8), (2, .int a), (3, .int 0)] := hl
  refine lv_iload_n hx hb dL_near_0 rfl (lv_at hl 1 rfl) ?_
  refine lv_if_ne (tgt := 22) hx hb dL_near_1 (by decide) (fun c_1 => ?_) (fun c_1 => absurd c_1 (by decide))
  refine lv_iload_n hx hb dL_near_22 rfl (lv_at hl 1 rfl) ?_
  refine lv_iconst (v := 1) hx hb dL_near_23 (by decide) ?_
  refine lv_icmp_ne (tgt := 35) hx hb dL_near_24 (by decide) (fun c_24 => ?_) (fun c_24 => absurd c_24 (by decide))
  refine lv_iload_n hx hb dL_near_35 rfl (lv_at hl 1 rfl) ?_
  refine lv_iconst (v := 2) hx hb dL_near_36 (by decide) ?_
  refine lv_icmp_ne (tgt := 56) hx hb dL_near_37 (by decide) (fun c_37 => ?_) (fun c_37 => absurd c_37 (by decide))
  refine lv_iload_n hx hb dL_near_56 rfl (lv_at hl 1 rfl) ?_
  refine lv_iconst (v := 3) hx hb dL_near_57 (by decide) ?_
  refine lv_icmp_ne (tgt := 69) hx hb dL_near_58 (by decide) (fun c_58 => ?_) (fun c_58 => absurd c_58 (by decide))
  refine lv_iload_n hx hb dL_near_69 rfl (lv_at hl 1 rfl) ?_
  refine lv_iconst (v := 4) hx hb dL_near_70 (by decide) ?_
  refine lv_icmp_ne (tgt := 83) hx hb dL_near_71 (by decide) (fun c_71 => ?_) (fun c_71 => absurd c_71 (by decide))
  refine lv_iload_n hx hb dL_near_83 rfl (lv_at hl 1 rfl) ?_
  refine lv_iconst (v := 5) hx hb dL_near_84 (by decide) ?_
  refine lv_icmp_ne (tgt := 96) hx hb dL_near_85 (by decide) (fun c_85 => ?_) (fun c_85 => absurd c_85 (by decide))
  refine lv_iload_n hx hb dL_near_96 rfl (lv_at hl 1 rfl) ?_
  refine lv_bipush (v := 6) hx hb dL_near_97 (by decide) ?_
  refine lv_icmp_ne (tgt := 110) hx hb dL_near_99 (by decide) (fun c_99 => ?_) (fun c_99 => absurd c_99 (by decide))
  refine lv_iload_n hx hb dL_near_110 rfl (lv_at hl 1 rfl) ?_
  refine lv_bipush (v := 7) hx hb dL_near_111 (by decide) ?_
  refine lv_icmp_ne (tgt := 124) hx hb dL_near_113 (by decide) (fun c_113 => ?_) (fun c_113 => absurd c_113 (by decide))
  refine lv_aload_n hx hb dL_near_124 rfl (lv_at hl 0 rfl) ?_
  refine lv_iload_n hx hb dL_near_125 rfl (lv_at hl 2 rfl) ?_
  refine z_cC (own := RL) (name := zIAE) (vx_runV (As := [.int a]) (rest := []) ⟨hx, hb, hml, hown, hts⟩ (c_bestB l dC dI cI cZ cH cJ x0 xq now xg had hg σ a (hv) hst) (cwV 1 hts gL_near_X3_best rfl rfl rfl (by decide +kernel) ⟨Nat.le_of_ble_eq_true rfl, Nat.le_of_ble_eq_true rfl⟩) (zPreX1 hT hK hP (zrecv hK hP)) rfl rfl hl.1 rfl (lv_room (Nat.le_of_ble_eq_true rfl)) dL_near_126 ⟨show _ ≤ 1 by omega, show _ ≤ 6 by omega⟩) hown [] ⟨0, 129, 130, 33⟩ [⟨0, 129, 136, 35⟩] htab (fun _ h => nomatch h) (by decide) (by decide) (hts (.classLink RL 33 zIAE) (by decide +kernel)) (va_Nw.use rfl (hT.2.2.1 (.castable zIAE zIAE) (by simp [zBad]))) (fun q9 H hz1 hk1 => ?_)
  refine lv_astore (lv' := [(4, .ref q9), (0, .ref x0), (1, .int 8), (2, .int a), (3, .int 0)]) hx hb dL_near_130 hl (by decide) rfl (fun ls hl => ?_)
  refine lv_sipush (v := (-992)) hx hb dL_near_132 (by decide) ?_
  refine W.widen (k := 1) (n := 6) (by omega) (by omega) ?_
  exact W.iret hx hb hr (fun t ht hW => ⟨rfl, by rw [ht]; exact hz1, fun q hq => by rw [ht]; exact hk1 q hq⟩) (fun _ h => nomatch h) dL_near_135
set_option maxHeartbeats 8000000 in
set_option maxRecDepth 100000 in
/-- near(1): no list -/
theorem kL_near_n1 (l : Launch) (dC : Nat → ClassId) (dI : Nat → Nat → Nat) (cI cZ cH cJ : ClassId) (x0 : Nat) (xq : Nat) (now : Int32) (xg : Nat → Option Nat) (had : Nat → Nat → Nat) (hg : ∀ i, i < 4 → xg i = some (had i 0)) (σ : Nat → zHS) (ca : Nat) (hca : ca < 4) (hop : hHo (σ ca) = 0) (hst : l.stackTraces = false) : Met l yL_near wsL_near ({ frames := 8, cells := 1, slots := 6, locals := 134 }) (zYc dC dI (zTy cI cZ cH cJ) [.ref x0, .int 1, .int (nI ca), .int 0] (zOb cI cZ cH x0 xq xg had now σ)) (zSg (-993)) 1 6 (fun _ => False) := by
  refine va_MetW (cc := cL_near) (maxL := 5) (ret := (some .int)) (by decide) rfl ?_
  intro p e s m args below meth c s₁ B hml hv0
  obtain ⟨rfl, ⟨hT, hNc⟩, hP, hK⟩ := hv0
  have hx := B.exec
  have hb := B.bytes
  have hr := B.returns
  have hts := atoms_spec (ws := wsL_near) B.pre
  have hown : s.vm.findClass RL = some m.cls := findClass_of_methodNamed B.named
  have hlocks := B.notSynchronized
  have htab := vx_table (x := yL_near) B (hts _ List.mem_cons_self)
  have hl := lv_entry ([.ref x0, .int 1, .int (nI ca), .int 0]) (n := 5) (Nat.le_of_ble_eq_true rfl)
  rw [lg_entry_eq]
  generalize (lg_sl ([.ref x0, .int 1, .int (nI ca), .int 0]) ++ List.replicate (5 - (lg_sl ([.ref x0, .int 1, .int (nI ca), .int 0])).length) Slot.unset).toArray = ls at hl ⊢
  have hl : lv_has ls 5 [(0, .ref x0), (1, .int 1), (2, .int (nI ca)), (3, .int 0)] := hl
  refine lv_iload_n hx hb dL_near_0 rfl (lv_at hl 1 rfl) ?_
  refine lv_if_ne (tgt := 22) hx hb dL_near_1 (by decide) (fun c_1 => ?_) (fun c_1 => absurd c_1 (by decide))
  refine lv_iload_n hx hb dL_near_22 rfl (lv_at hl 1 rfl) ?_
  refine lv_iconst (v := 1) hx hb dL_near_23 (by decide) ?_
  refine lv_icmp_ne (tgt := 35) hx hb dL_near_24 (by decide) (fun c_24 => absurd c_24 (by decide)) (fun c_24 => ?_)
  refine lv_aload_n hx hb dL_near_27 rfl (lv_at hl 0 rfl) ?_
  refine lv_iload_n hx hb dL_near_28 rfl (lv_at hl 2 rfl) ?_
  refine z_cC (own := RL) (name := zISE) (vx_runV (As := [.int (nI ca)]) (rest := []) ⟨hx, hb, hml, hown, hts⟩ (c_readN l dC dI cI cZ cH cJ x0 xq now xg had hg σ ca (by first | assumption | omega) (by first | assumption | omega) hst) (cwV 1 hts gL_near_X3_read rfl rfl rfl (by decide +kernel) ⟨Nat.le_of_ble_eq_true rfl, Nat.le_of_ble_eq_true rfl⟩) (zPreX1 hT hK hP (zrecv hK hP)) rfl rfl hl.1 rfl (lv_room (Nat.le_of_ble_eq_true rfl)) dL_near_29 ⟨show _ ≤ 1 by omega, show _ ≤ 6 by omega⟩) hown [⟨0, 129, 130, 33⟩] ⟨0, 129, 136, 35⟩ [] htab (fun z h => by rw [List.mem_singleton.mp h]; exact Or.inr ⟨by decide, zIAE, hts (.classLink RL 33 zIAE) (by decide +kernel), hNc⟩) (by decide) (by decide) (hts (.classLink RL 35 zISE) (by decide +kernel)) (va_Nw.use rfl (hT.2.2.1 (.castable zISE zISE) (by simp [zBad]))) (fun q9 H hz1 hk1 => ?_)
  refine lv_astore (lv' := [(4, .ref q9), (0, .ref x0), (1, .int 1), (2, .int (nI ca)), (3, .int 0)]) hx hb dL_near_136 hl (by decide) rfl (fun ls hl => ?_)
  refine lv_sipush (v := (-993)) hx hb dL_near_138 (by decide) ?_
  refine W.widen (k := 1) (n := 6) (by omega) (by omega) ?_
  exact W.iret hx hb hr (fun t ht hW => ⟨rfl, by rw [ht]; exact hz1, fun q hq => by rw [ht]; exact hk1 q hq⟩) (fun _ h => nomatch h) dL_near_141
