set_option maxHeartbeats 4000000 in
set_option maxRecDepth 100000 in
/-- the law's setCatalogue, refused -/
theorem kL_setCatalogue_bad (l : Launch) (dC : Nat → ClassId) (dI : Nat → Nat → Nat) (cI cZ cH cJ : ClassId) (x0 : Nat) (xq : Nat) (now : Int32) (xg : Nat → Option Nat) (had : Nat → Nat → Nat) (hg : ∀ i, i < 4 → xg i = some (had i 0)) (a : Int32) (b : Int32) (w : Int32) (hv : ¬ (zin a 0 3 = 1 ∧ zin b 1 30 = 1 ∧ zin w 0 2 = 1)) (o : Nat) (hst : l.stackTraces = false) : Met l yL_setCatalogue wsL_setCatalogue ({ frames := 8, cells := 1, slots := 6, locals := 137 }) (zYc dC dI (zTy cI cZ cH cJ) [.ref x0, .int a, .int b, .int w, .ref o] ([(x0, .inr (3, [.ref xq, .int now])), (xq, .inl (cH, 4, .inr (.inr (.inr (.inr xg)))))])) (zSg 1) 1 6 (fun _ => False) := by
  refine va_MetW (cc := cL_setCatalogue) (maxL := 6) (ret := (some .int)) (by decide) rfl ?_
  intro p e s m args below meth c s₁ B hml hv0
  obtain ⟨rfl, ⟨hT, hN⟩, hP, hK⟩ := hv0
  have hx := B.exec
  have hb := B.bytes
  have hr := B.returns
  have hts := atoms_spec (ws := wsL_setCatalogue) B.pre
  have hown : s.vm.findClass RL = some m.cls := findClass_of_methodNamed B.named
  have hlocks := B.notSynchronized
  have htab := vx_table (x := yL_setCatalogue) B (hts _ List.mem_cons_self)
  have hl := lv_entry ([.ref x0, .int a, .int b, .int w, .ref o]) (n := 6) (Nat.le_of_ble_eq_true rfl)
  rw [lg_entry_eq]
  generalize (lg_sl ([.ref x0, .int a, .int b, .int w, .ref o]) ++ List.replicate (6 - (lg_sl ([.ref x0, .int a, .int b, .int w, .ref o])).length) Slot.unset).toArray = ls at hl ⊢
  have hl : lv_has ls 6 [(0, .ref x0), (1, .int a), (2, .int b), (3, .int w), (4, .ref o)] := hl
  refine lv_aload hx hb dL_setCatalogue_0 (lv_at hl 4 rfl) ?_
  refine lv_iconst (v := 0) hx hb dL_setCatalogue_2 (by decide) ?_
  refine lv_aload_n hx hb dL_setCatalogue_3 rfl (lv_at hl 0 rfl) ?_
  refine lv_iload_n hx hb dL_setCatalogue_4 rfl (lv_at hl 1 rfl) ?_
  refine lv_iload_n hx hb dL_setCatalogue_5 rfl (lv_at hl 2 rfl) ?_
  refine lv_iload_n hx hb dL_setCatalogue_6 rfl (lv_at hl 3 rfl) ?_
  refine z_cC (own := RL) (name := zIAE) (vx_runV (As := [.int a, .int b, .int w]) (rest := [.int 0, .ref o]) ⟨hx, hb, hml, hown, hts⟩ (kX3_setCatalogue_bad l dC dI cI cZ cH cJ x0 xq now xg (by first | assumption | omega) (by first | assumption | omega) a b w (by first | assumption | omega) hst) (cwV 3 hts gL_setCatalogue_X3_setCatalogue rfl rfl rfl (by decide +kernel) ⟨Nat.le_of_ble_eq_true rfl, Nat.le_of_ble_eq_true rfl⟩) (zPreX (is := [0, 1]) hT hK hP rfl (va_recv hK hP (ci := 3) (q0 := 0) rfl rfl)) rfl rfl hl.1 rfl (lv_room (Nat.le_of_ble_eq_true rfl)) dL_setCatalogue_7 ⟨Nat.le_of_ble_eq_true rfl, Nat.le_of_ble_eq_true rfl⟩) hown [] ⟨0, 12, 15, 13⟩ [] htab (fun _ h => nomatch h) (by decide) (by decide) (hts (.classLink RL 13 zIAE) (by decide +kernel)) (va_Nw.use rfl (hT.2.2.1 (.castable zIAE zIAE) (by simp [zBad]))) (fun q9 H hz1 hk1 => ?_)
  refine lv_astore (lv' := [(5, .ref q9), (0, .ref x0), (1, .int a), (2, .int b), (3, .int w), (4, .ref o)]) hx hb dL_setCatalogue_15 hl (by decide) rfl (fun ls hl => ?_)
  refine lv_iconst (v := 1) hx hb dL_setCatalogue_17 (by decide) ?_
  exact W.iret hx hb hr (fun t ht hW => ⟨rfl, by rw [ht]; exact hz1, fun q hq => by rw [ht]; exact hk1 q hq⟩) (fun _ h => nomatch h) dL_setCatalogue_18
set_option maxHeartbeats 4000000 in
set_option maxRecDepth 100000 in
/-- the law's put, refused -/
theorem kL_put_bad (l : Launch) (dC : Nat → ClassId) (dI : Nat → Nat → Nat) (cI cZ cH cJ : ClassId) (x0 : Nat) (xq : Nat) (now : Int32) (xg : Nat → Option Nat) (had : Nat → Nat → Nat) (hg : ∀ i, i < 4 → xg i = some (had i 0)) (a : Int32) (b : Int32) (w : Int32) (v : Int32) (hv : ¬ (zin a 0 3 = 1 ∧ zin b 0 19 = 1 ∧ zin w 0 9 = 1 ∧ zin v 0 1000 = 1)) (o : Nat) (hst : l.stackTraces = false) : Met l yL_put wsL_put ({ frames := 9, cells := 1, slots := 6, locals := 157 }) (zYc dC dI (zTy cI cZ cH cJ) [.ref x0, .int a, .int b, .int w, .int v, .ref o] ([(x0, .inr (3, [.ref xq, .int now])), (xq, .inl (cH, 4, .inr (.inr (.inr (.inr xg)))))])) (zSg 1) 1 6 (fun _ => False) := by
  refine va_MetW (cc := cL_put) (maxL := 7) (ret := (some .int)) (by decide) rfl ?_
  intro p e s m args below meth c s₁ B hml hv0
  obtain ⟨rfl, ⟨hT, hN⟩, hP, hK⟩ := hv0
  have hx := B.exec
  have hb := B.bytes
  have hr := B.returns
  have hts := atoms_spec (ws := wsL_put) B.pre
  have hown : s.vm.findClass RL = some m.cls := findClass_of_methodNamed B.named
  have hlocks := B.notSynchronized
  have htab := vx_table (x := yL_put) B (hts _ List.mem_cons_self)
  have hl := lv_entry ([.ref x0, .int a, .int b, .int w, .int v, .ref o]) (n := 7) (Nat.le_of_ble_eq_true rfl)
  rw [lg_entry_eq]
  generalize (lg_sl ([.ref x0, .int a, .int b, .int w, .int v, .ref o]) ++ List.replicate (7 - (lg_sl ([.ref x0, .int a, .int b, .int w, .int v, .ref o])).length) Slot.unset).toArray = ls at hl ⊢
  have hl : lv_has ls 7 [(0, .ref x0), (1, .int a), (2, .int b), (3, .int w), (4, .int v), (5, .ref o)] := hl
  refine lv_aload hx hb dL_put_0 (lv_at hl 5 rfl) ?_
  refine lv_iconst (v := 0) hx hb dL_put_2 (by decide) ?_
  refine lv_aload_n hx hb dL_put_3 rfl (lv_at hl 0 rfl) ?_
  refine lv_iload_n hx hb dL_put_4 rfl (lv_at hl 1 rfl) ?_
  refine lv_iload_n hx hb dL_put_5 rfl (lv_at hl 2 rfl) ?_
  refine lv_iload_n hx hb dL_put_6 rfl (lv_at hl 3 rfl) ?_
  refine lv_iload hx hb dL_put_7 (lv_at hl 4 rfl) ?_
  refine z_cC (own := RL) (name := zIAE) (vx_runV (As := [.int a, .int b, .int w, .int v]) (rest := [.int 0, .ref o]) ⟨hx, hb, hml, hown, hts⟩ (kX3_put_bad l dC dI cI cZ cH cJ x0 xq now xg (by first | assumption | omega) (by first | assumption | omega) a b w v (by first | assumption | omega) hst) (cwV 4 hts gL_put_X3_put rfl rfl rfl (by decide +kernel) ⟨Nat.le_of_ble_eq_true rfl, Nat.le_of_ble_eq_true rfl⟩) (zPreX (is := [0, 1]) hT hK hP rfl (va_recv hK hP (ci := 3) (q0 := 0) rfl rfl)) rfl rfl hl.1 rfl (lv_room (Nat.le_of_ble_eq_true rfl)) dL_put_9 ⟨Nat.le_of_ble_eq_true rfl, Nat.le_of_ble_eq_true rfl⟩) hown [] ⟨0, 14, 17, 13⟩ [] htab (fun _ h => nomatch h) (by decide) (by decide) (hts (.classLink RL 13 zIAE) (by decide +kernel)) (va_Nw.use rfl (hT.2.2.1 (.castable zIAE zIAE) (by simp [zBad]))) (fun q9 H hz1 hk1 => ?_)
  refine lv_astore (lv' := [(6, .ref q9), (0, .ref x0), (1, .int a), (2, .int b), (3, .int w), (4, .int v), (5, .ref o)]) hx hb dL_put_17 hl (by decide) rfl (fun ls hl => ?_)
  refine lv_iconst (v := 1) hx hb dL_put_19 (by decide) ?_
  exact W.iret hx hb hr (fun t ht hW => ⟨rfl, by rw [ht]; exact hz1, fun q hq => by rw [ht]; exact hk1 q hq⟩) (fun _ h => nomatch h) dL_put_20
set_option maxHeartbeats 4000000 in
set_option maxRecDepth 100000 in
/-- the law's remove, refused -/
theorem kL_remove_no (l : Launch) (dC : Nat → ClassId) (dI : Nat → Nat → Nat) (cI cZ cH cJ : ClassId) (x0 : Nat) (xq : Nat) (now : Int32) (xg : Nat → Option Nat) (ca : Nat) (hca : ca < 4) (ha : Nat → Nat) (hg : xg ca = some (ha 0)) (mk : Int32) (ho : Int32) (fl : Int32) (od : Int32) (td : Int32) (ps : Int32) (pr : Int32) (un : Int32) (de : Int32) (fT : zI) (r : Nat) (hrr : r < 20) (hk1 : fT r = 0) (o : Nat) (hst : l.stackTraces = false) : Met l yL_remove wsL_remove ({ frames := 9, cells := 1, slots := 6, locals := 155 }) (zYc dC dI (zTy cI cZ cH cJ) [.ref x0, .int (nI ca), .int (nI r), .ref o] ([(x0, .inr (3, [.ref xq, .int now])), (xq, .inl (cH, 4, .inr (.inr (.inr (.inr xg))))), (ha 0, .inr (1, [.ref (ha 1), .ref (ha 2), .int mk, .int ho, .int fl, .int od, .int td, .int ps, .int pr, .ref (ha 3)])), (ha 1, .inr (0, [.ref (ha 4), .ref (ha 5), .ref (ha 6), .ref (ha 7), .int un, .int de])), (ha 4, .inr (2, [.ref (ha 12), .ref (ha 13), .ref (ha 14), .ref (ha 15)])), (ha 12, .inl (cZ, 20, .inl fT))])) (zSg 2) 1 6 (fun _ => False) := by
  refine va_MetW (cc := cL_remove) (maxL := 5) (ret := (some .int)) (by decide) rfl ?_
  intro p e s m args below meth c s₁ B hml hv0
  obtain ⟨rfl, ⟨hT, hN⟩, hP, hK⟩ := hv0
  have hx := B.exec
  have hb := B.bytes
  have hr := B.returns
  have hts := atoms_spec (ws := wsL_remove) B.pre
  have hown : s.vm.findClass RL = some m.cls := findClass_of_methodNamed B.named
  have hlocks := B.notSynchronized
  have htab := vx_table (x := yL_remove) B (hts _ List.mem_cons_self)
  have hl := lv_entry ([.ref x0, .int (nI ca), .int (nI r), .ref o]) (n := 5) (Nat.le_of_ble_eq_true rfl)
  rw [lg_entry_eq]
  generalize (lg_sl ([.ref x0, .int (nI ca), .int (nI r), .ref o]) ++ List.replicate (5 - (lg_sl ([.ref x0, .int (nI ca), .int (nI r), .ref o])).length) Slot.unset).toArray = ls at hl ⊢
  have hl : lv_has ls 5 [(0, .ref x0), (1, .int (nI ca)), (2, .int (nI r)), (3, .ref o)] := hl
  refine lv_aload_n hx hb dL_remove_0 rfl (lv_at hl 3 rfl) ?_
  refine lv_iconst (v := 0) hx hb dL_remove_1 (by decide) ?_
  refine lv_aload_n hx hb dL_remove_2 rfl (lv_at hl 0 rfl) ?_
  refine lv_iload_n hx hb dL_remove_3 rfl (lv_at hl 1 rfl) ?_
  refine lv_iload_n hx hb dL_remove_4 rfl (lv_at hl 2 rfl) ?_
  refine z_cC (own := RL) (name := zISE) (vx_runV (As := [.int (nI ca), .int (nI r)]) (rest := [.int 0, .ref o]) ⟨hx, hb, hml, hown, hts⟩ (kX3_remove_no l dC dI cI cZ cH cJ x0 xq now xg ca (by first | assumption | omega) ha (by first | assumption | omega) mk ho fl od td ps pr un de fT r (by first | assumption | omega) (by first | assumption | omega) hst) (cwV 2 hts gL_remove_X3_remove rfl rfl rfl (by decide +kernel) ⟨Nat.le_of_ble_eq_true rfl, Nat.le_of_ble_eq_true rfl⟩) (zPreX (is := [0, 1, 2, 3, 4, 5]) hT hK hP rfl (va_recv hK hP (ci := 3) (q0 := 0) rfl rfl)) rfl rfl hl.1 rfl (lv_room (Nat.le_of_ble_eq_true rfl)) dL_remove_5 ⟨Nat.le_of_ble_eq_true rfl, Nat.le_of_ble_eq_true rfl⟩) hown [⟨0, 17, 20, 13⟩] ⟨0, 17, 24, 23⟩ [] htab (fun z h => by rw [List.mem_singleton.mp h]; exact Or.inr ⟨by decide, zIAE, hts (.classLink RL 13 zIAE) (by decide +kernel), hN⟩) (by decide) (by decide) (hts (.classLink RL 23 zISE) (by decide +kernel)) (va_Nw.use rfl (hT.2.2.1 (.castable zISE zISE) (by simp [zBad]))) (fun q9 H hz1 hk1 => ?_)
  refine lv_astore (lv' := [(4, .ref q9), (0, .ref x0), (1, .int (nI ca)), (2, .int (nI r)), (3, .ref o)]) hx hb dL_remove_24 hl (by decide) rfl (fun ls hl => ?_)
  refine lv_iconst (v := 2) hx hb dL_remove_26 (by decide) ?_
  exact W.iret hx hb hr (fun t ht hW => ⟨rfl, by rw [ht]; exact hz1, fun q hq => by rw [ht]; exact hk1 q hq⟩) (fun _ h => nomatch h) dL_remove_27
set_option maxHeartbeats 4000000 in
set_option maxRecDepth 100000 in
/-- the law's remove, refused -/
theorem kL_remove_bad (l : Launch) (dC : Nat → ClassId) (dI : Nat → Nat → Nat) (cI cZ cH cJ : ClassId) (x0 : Nat) (xq : Nat) (now : Int32) (xg : Nat → Option Nat) (had : Nat → Nat → Nat) (hg : ∀ i, i < 4 → xg i = some (had i 0)) (a : Int32) (b : Int32) (hv : ¬ (zin a 0 3 = 1 ∧ zin b 0 19 = 1)) (o : Nat) (hst : l.stackTraces = false) : Met l yL_remove wsL_remove ({ frames := 9, cells := 1, slots := 6, locals := 155 }) (zYc dC dI (zTy cI cZ cH cJ) [.ref x0, .int a, .int b, .ref o] ([(x0, .inr (3, [.ref xq, .int now])), (xq, .inl (cH, 4, .inr (.inr (.inr (.inr xg)))))])) (zSg 1) 1 6 (fun _ => False) := by
  refine va_MetW (cc := cL_remove) (maxL := 5) (ret := (some .int)) (by decide) rfl ?_
  intro p e s m args below meth c s₁ B hml hv0
  obtain ⟨rfl, ⟨hT, hN⟩, hP, hK⟩ := hv0
  have hx := B.exec
  have hb := B.bytes
  have hr := B.returns
  have hts := atoms_spec (ws := wsL_remove) B.pre
  have hown : s.vm.findClass RL = some m.cls := findClass_of_methodNamed B.named
  have hlocks := B.notSynchronized
  have htab := vx_table (x := yL_remove) B (hts _ List.mem_cons_self)
  have hl := lv_entry ([.ref x0, .int a, .int b, .ref o]) (n := 5) (Nat.le_of_ble_eq_true rfl)
  rw [lg_entry_eq]
  generalize (lg_sl ([.ref x0, .int a, .int b, .ref o]) ++ List.replicate (5 - (lg_sl ([.ref x0, .int a, .int b, .ref o])).length) Slot.unset).toArray = ls at hl ⊢
  have hl : lv_has ls 5 [(0, .ref x0), (1, .int a), (2, .int b), (3, .ref o)] := hl
  refine lv_aload_n hx hb dL_remove_0 rfl (lv_at hl 3 rfl) ?_
  refine lv_iconst (v := 0) hx hb dL_remove_1 (by decide) ?_
  refine lv_aload_n hx hb dL_remove_2 rfl (lv_at hl 0 rfl) ?_
  refine lv_iload_n hx hb dL_remove_3 rfl (lv_at hl 1 rfl) ?_
  refine lv_iload_n hx hb dL_remove_4 rfl (lv_at hl 2 rfl) ?_
  refine z_cC (own := RL) (name := zIAE) (vx_runV (As := [.int a, .int b]) (rest := [.int 0, .ref o]) ⟨hx, hb, hml, hown, hts⟩ (kX3_remove_bad l dC dI cI cZ cH cJ x0 xq now xg (by first | assumption | omega) (by first | assumption | omega) a b (by first | assumption | omega) hst) (cwV 2 hts gL_remove_X3_remove rfl rfl rfl (by decide +kernel) ⟨Nat.le_of_ble_eq_true rfl, Nat.le_of_ble_eq_true rfl⟩) (zPreX (is := [0, 1]) hT hK hP rfl (va_recv hK hP (ci := 3) (q0 := 0) rfl rfl)) rfl rfl hl.1 rfl (lv_room (Nat.le_of_ble_eq_true rfl)) dL_remove_5 ⟨Nat.le_of_ble_eq_true rfl, Nat.le_of_ble_eq_true rfl⟩) hown [] ⟨0, 17, 20, 13⟩ [⟨0, 17, 24, 23⟩] htab (fun _ h => nomatch h) (by decide) (by decide) (hts (.classLink RL 13 zIAE) (by decide +kernel)) (va_Nw.use rfl (hT.2.2.1 (.castable zIAE zIAE) (by simp [zBad]))) (fun q9 H hz1 hk1 => ?_)
  refine lv_astore (lv' := [(4, .ref q9), (0, .ref x0), (1, .int a), (2, .int b), (3, .ref o)]) hx hb dL_remove_20 hl (by decide) rfl (fun ls hl => ?_)
  refine lv_iconst (v := 1) hx hb dL_remove_22 (by decide) ?_
  exact W.iret hx hb hr (fun t ht hW => ⟨rfl, by rw [ht]; exact hz1, fun q hq => by rw [ht]; exact hk1 q hq⟩) (fun _ h => nomatch h) dL_remove_23
set_option maxHeartbeats 4000000 in
set_option maxRecDepth 100000 in
/-- the law's pass, refused -/
theorem kL_pass_no (l : Launch) (dC : Nat → ClassId) (dI : Nat → Nat → Nat) (cI cZ cH cJ : ClassId) (x0 : Nat) (xq : Nat) (now : Int32) (xg : Nat → Option Nat) (d : Int32) (hd1 : zin d 1 100 = 1) (hle : ¬ now + d ≤ 5000) (o : Nat) (hst : l.stackTraces = false) : Met l yL_pass wsL_pass ({ frames := 8, cells := 1, slots := 6, locals := 134 }) (zYc dC dI (zTy cI cZ cH cJ) [.ref x0, .int d, .ref o] ([(x0, .inr (3, [.ref xq, .int now])), (xq, .inl (cH, 4, .inr (.inr (.inr (.inr xg)))))])) (zSg 2) 1 6 (fun _ => False) := by
  refine va_MetW (cc := cL_pass) (maxL := 4) (ret := (some .int)) (by decide) rfl ?_
  intro p e s m args below meth c s₁ B hml hv0
  obtain ⟨rfl, ⟨hT, hN⟩, hP, hK⟩ := hv0
  have hx := B.exec
  have hb := B.bytes
  have hr := B.returns
  have hts := atoms_spec (ws := wsL_pass) B.pre
  have hown : s.vm.findClass RL = some m.cls := findClass_of_methodNamed B.named
  have hlocks := B.notSynchronized
  have htab := vx_table (x := yL_pass) B (hts _ List.mem_cons_self)
  have hl := lv_entry ([.ref x0, .int d, .ref o]) (n := 4) (Nat.le_of_ble_eq_true rfl)
  rw [lg_entry_eq]
  generalize (lg_sl ([.ref x0, .int d, .ref o]) ++ List.replicate (4 - (lg_sl ([.ref x0, .int d, .ref o])).length) Slot.unset).toArray = ls at hl ⊢
  have hl : lv_has ls 4 [(0, .ref x0), (1, .int d), (2, .ref o)] := hl
  refine lv_aload_n hx hb dL_pass_0 rfl (lv_at hl 2 rfl) ?_
  refine lv_iconst (v := 0) hx hb dL_pass_1 (by decide) ?_
  refine lv_aload_n hx hb dL_pass_2 rfl (lv_at hl 0 rfl) ?_
  refine lv_iload_n hx hb dL_pass_3 rfl (lv_at hl 1 rfl) ?_
  refine z_cC (own := RL) (name := zISE) (vx_runV (As := [.int d]) (rest := [.int 0, .ref o]) ⟨hx, hb, hml, hown, hts⟩ (kX3_pass_no l dC dI cI cZ cH cJ x0 xq now xg d (by first | assumption | omega) (by first | assumption | omega) hst) (cwV 1 hts gL_pass_X3_pass rfl rfl rfl (by decide +kernel) ⟨Nat.le_of_ble_eq_true rfl, Nat.le_of_ble_eq_true rfl⟩) (zPreX (is := [0, 1]) hT hK hP rfl (va_recv hK hP (ci := 3) (q0 := 0) rfl rfl)) rfl rfl hl.1 rfl (lv_room (Nat.le_of_ble_eq_true rfl)) dL_pass_4 ⟨Nat.le_of_ble_eq_true rfl, Nat.le_of_ble_eq_true rfl⟩) hown [⟨0, 9, 12, 13⟩] ⟨0, 9, 15, 23⟩ [] htab (fun z h => by rw [List.mem_singleton.mp h]; exact Or.inr ⟨by decide, zIAE, hts (.classLink RL 13 zIAE) (by decide +kernel), hN⟩) (by decide) (by decide) (hts (.classLink RL 23 zISE) (by decide +kernel)) (va_Nw.use rfl (hT.2.2.1 (.castable zISE zISE) (by simp [zBad]))) (fun q9 H hz1 hk1 => ?_)
  refine lv_astore_n (lv' := [(3, .ref q9), (0, .ref x0), (1, .int d), (2, .ref o)]) hx hb dL_pass_15 rfl hl (by decide) rfl (fun ls hl => ?_)
  refine lv_iconst (v := 2) hx hb dL_pass_16 (by decide) ?_
  exact W.iret hx hb hr (fun t ht hW => ⟨rfl, by rw [ht]; exact hz1, fun q hq => by rw [ht]; exact hk1 q hq⟩) (fun _ h => nomatch h) dL_pass_17
set_option maxHeartbeats 4000000 in
set_option maxRecDepth 100000 in
/-- the law's pass, refused -/
theorem kL_pass_bad (l : Launch) (dC : Nat → ClassId) (dI : Nat → Nat → Nat) (cI cZ cH cJ : ClassId) (x0 : Nat) (xq : Nat) (now : Int32) (xg : Nat → Option Nat) (d : Int32) (hv : ¬ zin d 1 100 = 1) (o : Nat) (hst : l.stackTraces = false) : Met l yL_pass wsL_pass ({ frames := 8, cells := 1, slots := 6, locals := 134 }) (zYc dC dI (zTy cI cZ cH cJ) [.ref x0, .int d, .ref o] ([(x0, .inr (3, [.ref xq, .int now])), (xq, .inl (cH, 4, .inr (.inr (.inr (.inr xg)))))])) (zSg 1) 1 6 (fun _ => False) := by
  refine va_MetW (cc := cL_pass) (maxL := 4) (ret := (some .int)) (by decide) rfl ?_
  intro p e s m args below meth c s₁ B hml hv0
  obtain ⟨rfl, ⟨hT, hN⟩, hP, hK⟩ := hv0
  have hx := B.exec
  have hb := B.bytes
  have hr := B.returns
  have hts := atoms_spec (ws := wsL_pass) B.pre
  have hown : s.vm.findClass RL = some m.cls := findClass_of_methodNamed B.named
  have hlocks := B.notSynchronized
  have htab := vx_table (x := yL_pass) B (hts _ List.mem_cons_self)
  have hl := lv_entry ([.ref x0, .int d, .ref o]) (n := 4) (Nat.le_of_ble_eq_true rfl)
  rw [lg_entry_eq]
  generalize (lg_sl ([.ref x0, .int d, .ref o]) ++ List.replicate (4 - (lg_sl ([.ref x0, .int d, .ref o])).length) Slot.unset).toArray = ls at hl ⊢
  have hl : lv_has ls 4 [(0, .ref x0), (1, .int d), (2, .ref o)] := hl
  refine lv_aload_n hx hb dL_pass_0 rfl (lv_at hl 2 rfl) ?_
  refine lv_iconst (v := 0) hx hb dL_pass_1 (by decide) ?_
  refine lv_aload_n hx hb dL_pass_2 rfl (lv_at hl 0 rfl) ?_
  refine lv_iload_n hx hb dL_pass_3 rfl (lv_at hl 1 rfl) ?_
  refine z_cC (own := RL) (name := zIAE) (vx_runV (As := [.int d]) (rest := [.int 0, .ref o]) ⟨hx, hb, hml, hown, hts⟩ (kX3_pass_bad l dC dI cI cZ cH cJ x0 xq now xg d (by first | assumption | omega) hst) (cwV 1 hts gL_pass_X3_pass rfl rfl rfl (by decide +kernel) ⟨Nat.le_of_ble_eq_true rfl, Nat.le_of_ble_eq_true rfl⟩) (zPreX (is := [0, 1]) hT hK hP rfl (va_recv hK hP (ci := 3) (q0 := 0) rfl rfl)) rfl rfl hl.1 rfl (lv_room (Nat.le_of_ble_eq_true rfl)) dL_pass_4 ⟨Nat.le_of_ble_eq_true rfl, Nat.le_of_ble_eq_true rfl⟩) hown [] ⟨0, 9, 12, 13⟩ [⟨0, 9, 15, 23⟩] htab (fun _ h => nomatch h) (by decide) (by decide) (hts (.classLink RL 13 zIAE) (by decide +kernel)) (va_Nw.use rfl (hT.2.2.1 (.castable zIAE zIAE) (by simp [zBad]))) (fun q9 H hz1 hk1 => ?_)
  refine lv_astore_n (lv' := [(3, .ref q9), (0, .ref x0), (1, .int d), (2, .ref o)]) hx hb dL_pass_12 rfl hl (by decide) rfl (fun ls hl => ?_)
  refine lv_iconst (v := 1) hx hb dL_pass_13 (by decide) ?_
  exact W.iret hx hb hr (fun t ht hW => ⟨rfl, by rw [ht]; exact hz1, fun q hq => by rw [ht]; exact hk1 q hq⟩) (fun _ h => nomatch h) dL_pass_14
set_option maxHeartbeats 4000000 in
set_option maxRecDepth 100000 in
/-- the law's far, refused -/
theorem kL_far_bad (l : Launch) (dC : Nat → ClassId) (dI : Nat → Nat → Nat) (cI cZ cH cJ : ClassId) (x0 : Nat) (xq : Nat) (now : Int32) (xg : Nat → Option Nat) (had : Nat → Nat → Nat) (hg : ∀ i, i < 4 → xg i = some (had i 0)) (v : Int32) (hv : ¬ zin v 0 3 = 1) (o : Nat) (hst : l.stackTraces = false) : Met l yL_far wsL_far ({ frames := 8, cells := 1, slots := 6, locals := 133 }) (zYc dC dI (zTy cI cZ cH cJ) [.ref x0, .int v, .ref o] ([(x0, .inr (3, [.ref xq, .int now])), (xq, .inl (cH, 4, .inr (.inr (.inr (.inr xg)))))])) (zSg 1) 1 6 (fun _ => False) := by
  refine va_MetW (cc := cL_far) (maxL := 4) (ret := (some .int)) (by decide) rfl ?_
  intro p e s m args below meth c s₁ B hml hv0
  obtain ⟨rfl, ⟨hT, hN⟩, hP, hK⟩ := hv0
  have hx := B.exec
  have hb := B.bytes
  have hr := B.returns
  have hts := atoms_spec (ws := wsL_far) B.pre
  have hown : s.vm.findClass RL = some m.cls := findClass_of_methodNamed B.named
  have hlocks := B.notSynchronized
  have htab := vx_table (x := yL_far) B (hts _ List.mem_cons_self)
  have hl := lv_entry ([.ref x0, .int v, .ref o]) (n := 4) (Nat.le_of_ble_eq_true rfl)
  rw [lg_entry_eq]
  generalize (lg_sl ([.ref x0, .int v, .ref o]) ++ List.replicate (4 - (lg_sl ([.ref x0, .int v, .ref o])).length) Slot.unset).toArray = ls at hl ⊢
  have hl : lv_has ls 4 [(0, .ref x0), (1, .int v), (2, .ref o)] := hl
  refine lv_aload_n hx hb dL_far_0 rfl (lv_at hl 2 rfl) ?_
  refine lv_iconst (v := 0) hx hb dL_far_1 (by decide) ?_
  refine lv_aload_n hx hb dL_far_2 rfl (lv_at hl 0 rfl) ?_
  refine lv_iload_n hx hb dL_far_3 rfl (lv_at hl 1 rfl) ?_
  refine z_cC (own := RL) (name := zIAE) (vx_runV (As := [.int v]) (rest := [.int 0, .ref o]) ⟨hx, hb, hml, hown, hts⟩ (kX3_far_bad l dC dI cI cZ cH cJ x0 xq now xg (by first | assumption | omega) (by first | assumption | omega) v (by first | assumption | omega) hst) (cwV 1 hts gL_far_X3_far rfl rfl rfl (by decide +kernel) ⟨Nat.le_of_ble_eq_true rfl, Nat.le_of_ble_eq_true rfl⟩) (zPreX (is := [0, 1]) hT hK hP rfl (va_recv hK hP (ci := 3) (q0 := 0) rfl rfl)) rfl rfl hl.1 rfl (lv_room (Nat.le_of_ble_eq_true rfl)) dL_far_4 ⟨Nat.le_of_ble_eq_true rfl, Nat.le_of_ble_eq_true rfl⟩) hown [] ⟨0, 9, 12, 13⟩ [] htab (fun _ h => nomatch h) (by decide) (by decide) (hts (.classLink RL 13 zIAE) (by decide +kernel)) (va_Nw.use rfl (hT.2.2.1 (.castable zIAE zIAE) (by simp [zBad]))) (fun q9 H hz1 hk1 => ?_)
  refine lv_astore_n (lv' := [(3, .ref q9), (0, .ref x0), (1, .int v), (2, .ref o)]) hx hb dL_far_12 rfl hl (by decide) rfl (fun ls hl => ?_)
  refine lv_iconst (v := 1) hx hb dL_far_13 (by decide) ?_
  exact W.iret hx hb hr (fun t ht hW => ⟨rfl, by rw [ht]; exact hz1, fun q hq => by rw [ht]; exact hk1 q hq⟩) (fun _ h => nomatch h) dL_far_14
set_option maxHeartbeats 4000000 in
set_option maxRecDepth 100000 in
/-- the law's told, refused -/
theorem kL_told_bad (l : Launch) (dC : Nat → ClassId) (dI : Nat → Nat → Nat) (cI cZ cH cJ : ClassId) (x0 : Nat) (xq : Nat) (now : Int32) (xg : Nat → Option Nat) (had : Nat → Nat → Nat) (hg : ∀ i, i < 4 → xg i = some (had i 0)) (v : Int32) (hv : ¬ zin v 0 3 = 1) (o : Nat) (hst : l.stackTraces = false) : Met l yL_told wsL_told ({ frames := 8, cells := 1, slots := 6, locals := 133 }) (zYc dC dI (zTy cI cZ cH cJ) [.ref x0, .int v, .ref o] ([(x0, .inr (3, [.ref xq, .int now])), (xq, .inl (cH, 4, .inr (.inr (.inr (.inr xg)))))])) (zSg 1) 1 6 (fun _ => False) := by
  refine va_MetW (cc := cL_told) (maxL := 4) (ret := (some .int)) (by decide) rfl ?_
  intro p e s m args below meth c s₁ B hml hv0
  obtain ⟨rfl, ⟨hT, hN⟩, hP, hK⟩ := hv0
  have hx := B.exec
  have hb := B.bytes
  have hr := B.returns
  have hts := atoms_spec (ws := wsL_told) B.pre
  have hown : s.vm.findClass RL = some m.cls := findClass_of_methodNamed B.named
  have hlocks := B.notSynchronized
  have htab := vx_table (x := yL_told) B (hts _ List.mem_cons_self)
  have hl := lv_entry ([.ref x0, .int v, .ref o]) (n := 4) (Nat.le_of_ble_eq_true rfl)
  rw [lg_entry_eq]
  generalize (lg_sl ([.ref x0, .int v, .ref o]) ++ List.replicate (4 - (lg_sl ([.ref x0, .int v, .ref o])).length) Slot.unset).toArray = ls at hl ⊢
  have hl : lv_has ls 4 [(0, .ref x0), (1, .int v), (2, .ref o)] := hl
  refine lv_aload_n hx hb dL_told_0 rfl (lv_at hl 2 rfl) ?_
  refine lv_iconst (v := 0) hx hb dL_told_1 (by decide) ?_
  refine lv_aload_n hx hb dL_told_2 rfl (lv_at hl 0 rfl) ?_
  refine lv_iload_n hx hb dL_told_3 rfl (lv_at hl 1 rfl) ?_
  refine z_cC (own := RL) (name := zIAE) (vx_runV (As := [.int v]) (rest := [.int 0, .ref o]) ⟨hx, hb, hml, hown, hts⟩ (kX3_told_bad l dC dI cI cZ cH cJ x0 xq now xg (by first | assumption | omega) (by first | assumption | omega) v (by first | assumption | omega) hst) (cwV 1 hts gL_told_X3_told rfl rfl rfl (by decide +kernel) ⟨Nat.le_of_ble_eq_true rfl, Nat.le_of_ble_eq_true rfl⟩) (zPreX (is := [0, 1]) hT hK hP rfl (va_recv hK hP (ci := 3) (q0 := 0) rfl rfl)) rfl rfl hl.1 rfl (lv_room (Nat.le_of_ble_eq_true rfl)) dL_told_4 ⟨Nat.le_of_ble_eq_true rfl, Nat.le_of_ble_eq_true rfl⟩) hown [] ⟨0, 9, 12, 13⟩ [] htab (fun _ h => nomatch h) (by decide) (by decide) (hts (.classLink RL 13 zIAE) (by decide +kernel)) (va_Nw.use rfl (hT.2.2.1 (.castable zIAE zIAE) (by simp [zBad]))) (fun q9 H hz1 hk1 => ?_)
  refine lv_astore_n (lv' := [(3, .ref q9), (0, .ref x0), (1, .int v), (2, .ref o)]) hx hb dL_told_12 rfl hl (by decide) rfl (fun ls hl => ?_)
  refine lv_iconst (v := 1) hx hb dL_told_13 (by decide) ?_
  exact W.iret hx hb hr (fun t ht hW => ⟨rfl, by rw [ht]; exact hz1, fun q hq => by rw [ht]; exact hk1 q hq⟩) (fun _ h => nomatch h) dL_told_14
set_option maxHeartbeats 4000000 in
set_option maxRecDepth 100000 in
/-- the law's open, refused -/
theorem kL_open_bad (l : Launch) (dC : Nat → ClassId) (dI : Nat → Nat → Nat) (cI cZ cH cJ : ClassId) (x0 : Nat) (xq : Nat) (now : Int32) (xg : Nat → Option Nat) (had : Nat → Nat → Nat) (hg : ∀ i, i < 4 → xg i = some (had i 0)) (v : Int32) (full : Int32) (hv : ¬ zin v 0 3 = 1) (o : Nat) (hst : l.stackTraces = false) : Met l yL_open wsL_open ({ frames := 8, cells := 1, slots := 6, locals := 135 }) (zYc dC dI (zTy cI cZ cH cJ) [.ref x0, .int v, .int full, .ref o] ([(x0, .inr (3, [.ref xq, .int now])), (xq, .inl (cH, 4, .inr (.inr (.inr (.inr xg)))))])) (zSg 1) 1 6 (fun _ => False) := by
  refine va_MetW (cc := cL_open) (maxL := 5) (ret := (some .int)) (by decide) rfl ?_
  intro p e s m args below meth c s₁ B hml hv0
  obtain ⟨rfl, ⟨hT, hN⟩, hP, hK⟩ := hv0
  have hx := B.exec
  have hb := B.bytes
  have hr := B.returns
  have hts := atoms_spec (ws := wsL_open) B.pre
  have hown : s.vm.findClass RL = some m.cls := findClass_of_methodNamed B.named
  have hlocks := B.notSynchronized
  have htab := vx_table (x := yL_open) B (hts _ List.mem_cons_self)
  have hl := lv_entry ([.ref x0, .int v, .int full, .ref o]) (n := 5) (Nat.le_of_ble_eq_true rfl)
  rw [lg_entry_eq]
  generalize (lg_sl ([.ref x0, .int v, .int full, .ref o]) ++ List.replicate (5 - (lg_sl ([.ref x0, .int v, .int full, .ref o])).length) Slot.unset).toArray = ls at hl ⊢
  have hl : lv_has ls 5 [(0, .ref x0), (1, .int v), (2, .int full), (3, .ref o)] := hl
  refine lv_aload_n hx hb dL_open_0 rfl (lv_at hl 3 rfl) ?_
  refine lv_iconst (v := 0) hx hb dL_open_1 (by decide) ?_
  refine lv_aload_n hx hb dL_open_2 rfl (lv_at hl 0 rfl) ?_
  refine lv_iload_n hx hb dL_open_3 rfl (lv_at hl 1 rfl) ?_
  refine lv_iload_n hx hb dL_open_4 rfl (lv_at hl 2 rfl) ?_
  refine z_cC (own := RL) (name := zIAE) (vx_runV (As := [.int v, .int full]) (rest := [.int 0, .ref o]) ⟨hx, hb, hml, hown, hts⟩ (kX3_open_bad l dC dI cI cZ cH cJ x0 xq now xg (by first | assumption | omega) (by first | assumption | omega) v full (by first | assumption | omega) hst) (cwV 2 hts gL_open_X3_open rfl rfl rfl (by decide +kernel) ⟨Nat.le_of_ble_eq_true rfl, Nat.le_of_ble_eq_true rfl⟩) (zPreX (is := [0, 1]) hT hK hP rfl (va_recv hK hP (ci := 3) (q0 := 0) rfl rfl)) rfl rfl hl.1 rfl (lv_room (Nat.le_of_ble_eq_true rfl)) dL_open_5 ⟨Nat.le_of_ble_eq_true rfl, Nat.le_of_ble_eq_true rfl⟩) hown [] ⟨0, 10, 13, 13⟩ [] htab (fun _ h => nomatch h) (by decide) (by decide) (hts (.classLink RL 13 zIAE) (by decide +kernel)) (va_Nw.use rfl (hT.2.2.1 (.castable zIAE zIAE) (by simp [zBad]))) (fun q9 H hz1 hk1 => ?_)
  refine lv_astore (lv' := [(4, .ref q9), (0, .ref x0), (1, .int v), (2, .int full), (3, .ref o)]) hx hb dL_open_13 hl (by decide) rfl (fun ls hl => ?_)
  refine lv_iconst (v := 1) hx hb dL_open_15 (by decide) ?_
  exact W.iret hx hb hr (fun t ht hW => ⟨rfl, by rw [ht]; exact hz1, fun q hq => by rw [ht]; exact hk1 q hq⟩) (fun _ h => nomatch h) dL_open_16
set_option maxHeartbeats 4000000 in
set_option maxRecDepth 100000 in
/-- the law's read, refused -/
theorem kL_read_no (l : Launch) (dC : Nat → ClassId) (dI : Nat → Nat → Nat) (cI cZ cH cJ : ClassId) (x0 : Nat) (xq : Nat) (now : Int32) (xg : Nat → Option Nat) (ca : Nat) (hca : ca < 4) (ha : Nat → Nat) (hg : xg ca = some (ha 0)) (mk : Int32) (ho : Int32) (fl : Int32) (od : Int32) (td : Int32) (ps : Int32) (pr : Int32) (hop : ho = 0) (o : Nat) (hst : l.stackTraces = false) : Met l yL_read wsL_read ({ frames := 8, cells := 1, slots := 6, locals := 134 }) (zYc dC dI (zTy cI cZ cH cJ) [.ref x0, .int (nI ca), .ref o] ([(x0, .inr (3, [.ref xq, .int now])), (xq, .inl (cH, 4, .inr (.inr (.inr (.inr xg))))), (ha 0, .inr (1, [.ref (ha 1), .ref (ha 2), .int mk, .int ho, .int fl, .int od, .int td, .int ps, .int pr, .ref (ha 3)]))])) (zSg 2) 1 6 (fun _ => False) := by
  refine va_MetW (cc := cL_read) (maxL := 4) (ret := (some .int)) (by decide) rfl ?_
  intro p e s m args below meth c s₁ B hml hv0
  obtain ⟨rfl, ⟨hT, hN⟩, hP, hK⟩ := hv0
  have hx := B.exec
  have hb := B.bytes
  have hr := B.returns
  have hts := atoms_spec (ws := wsL_read) B.pre
  have hown : s.vm.findClass RL = some m.cls := findClass_of_methodNamed B.named
  have hlocks := B.notSynchronized
  have htab := vx_table (x := yL_read) B (hts _ List.mem_cons_self)
  have hl := lv_entry ([.ref x0, .int (nI ca), .ref o]) (n := 4) (Nat.le_of_ble_eq_true rfl)
  rw [lg_entry_eq]
  generalize (lg_sl ([.ref x0, .int (nI ca), .ref o]) ++ List.replicate (4 - (lg_sl ([.ref x0, .int (nI ca), .ref o])).length) Slot.unset).toArray = ls at hl ⊢
  have hl : lv_has ls 4 [(0, .ref x0), (1, .int (nI ca)), (2, .ref o)] := hl
  refine lv_aload_n hx hb dL_read_0 rfl (lv_at hl 2 rfl) ?_
  refine lv_iconst (v := 0) hx hb dL_read_1 (by decide) ?_
  refine lv_aload_n hx hb dL_read_2 rfl (lv_at hl 0 rfl) ?_
  refine lv_iload_n hx hb dL_read_3 rfl (lv_at hl 1 rfl) ?_
  refine z_cC (own := RL) (name := zISE) (vx_runV (As := [.int (nI ca)]) (rest := [.int 0, .ref o]) ⟨hx, hb, hml, hown, hts⟩ (kX3_read_no l dC dI cI cZ cH cJ x0 xq now xg ca (by first | assumption | omega) ha (by first | assumption | omega) mk ho fl od td ps pr (by first | assumption | omega) hst) (cwV 1 hts gL_read_X3_read rfl rfl rfl (by decide +kernel) ⟨Nat.le_of_ble_eq_true rfl, Nat.le_of_ble_eq_true rfl⟩) (zPreX (is := [0, 1, 2]) hT hK hP rfl (va_recv hK hP (ci := 3) (q0 := 0) rfl rfl)) rfl rfl hl.1 rfl (lv_room (Nat.le_of_ble_eq_true rfl)) dL_read_4 ⟨Nat.le_of_ble_eq_true rfl, Nat.le_of_ble_eq_true rfl⟩) hown [⟨0, 9, 12, 13⟩] ⟨0, 9, 15, 23⟩ [] htab (fun z h => by rw [List.mem_singleton.mp h]; exact Or.inr ⟨by decide, zIAE, hts (.classLink RL 13 zIAE) (by decide +kernel), hN⟩) (by decide) (by decide) (hts (.classLink RL 23 zISE) (by decide +kernel)) (va_Nw.use rfl (hT.2.2.1 (.castable zISE zISE) (by simp [zBad]))) (fun q9 H hz1 hk1 => ?_)
  refine lv_astore_n (lv' := [(3, .ref q9), (0, .ref x0), (1, .int (nI ca)), (2, .ref o)]) hx hb dL_read_15 rfl hl (by decide) rfl (fun ls hl => ?_)
  refine lv_iconst (v := 2) hx hb dL_read_16 (by decide) ?_
  exact W.iret hx hb hr (fun t ht hW => ⟨rfl, by rw [ht]; exact hz1, fun q hq => by rw [ht]; exact hk1 q hq⟩) (fun _ h => nomatch h) dL_read_17
set_option maxHeartbeats 4000000 in
set_option maxRecDepth 100000 in
/-- the law's read, refused -/
theorem kL_read_bad (l : Launch) (dC : Nat → ClassId) (dI : Nat → Nat → Nat) (cI cZ cH cJ : ClassId) (x0 : Nat) (xq : Nat) (now : Int32) (xg : Nat → Option Nat) (had : Nat → Nat → Nat) (hg : ∀ i, i < 4 → xg i = some (had i 0)) (v : Int32) (hv : ¬ zin v 0 3 = 1) (o : Nat) (hst : l.stackTraces = false) : Met l yL_read wsL_read ({ frames := 8, cells := 1, slots := 6, locals := 134 }) (zYc dC dI (zTy cI cZ cH cJ) [.ref x0, .int v, .ref o] ([(x0, .inr (3, [.ref xq, .int now])), (xq, .inl (cH, 4, .inr (.inr (.inr (.inr xg)))))])) (zSg 1) 1 6 (fun _ => False) := by
  refine va_MetW (cc := cL_read) (maxL := 4) (ret := (some .int)) (by decide) rfl ?_
  intro p e s m args below meth c s₁ B hml hv0
  obtain ⟨rfl, ⟨hT, hN⟩, hP, hK⟩ := hv0
  have hx := B.exec
  have hb := B.bytes
  have hr := B.returns
  have hts := atoms_spec (ws := wsL_read) B.pre
  have hown : s.vm.findClass RL = some m.cls := findClass_of_methodNamed B.named
  have hlocks := B.notSynchronized
  have htab := vx_table (x := yL_read) B (hts _ List.mem_cons_self)
  have hl := lv_entry ([.ref x0, .int v, .ref o]) (n := 4) (Nat.le_of_ble_eq_true rfl)
  rw [lg_entry_eq]
  generalize (lg_sl ([.ref x0, .int v, .ref o]) ++ List.replicate (4 - (lg_sl ([.ref x0, .int v, .ref o])).length) Slot.unset).toArray = ls at hl ⊢
  have hl : lv_has ls 4 [(0, .ref x0), (1, .int v), (2, .ref o)] := hl
  refine lv_aload_n hx hb dL_read_0 rfl (lv_at hl 2 rfl) ?_
  refine lv_iconst (v := 0) hx hb dL_read_1 (by decide) ?_
  refine lv_aload_n hx hb dL_read_2 rfl (lv_at hl 0 rfl) ?_
  refine lv_iload_n hx hb dL_read_3 rfl (lv_at hl 1 rfl) ?_
  refine z_cC (own := RL) (name := zIAE) (vx_runV (As := [.int v]) (rest := [.int 0, .ref o]) ⟨hx, hb, hml, hown, hts⟩ (kX3_read_bad l dC dI cI cZ cH cJ x0 xq now xg (by first | assumption | omega) (by first | assumption | omega) v (by first | assumption | omega) hst) (cwV 1 hts gL_read_X3_read rfl rfl rfl (by decide +kernel) ⟨Nat.le_of_ble_eq_true rfl, Nat.le_of_ble_eq_true rfl⟩) (zPreX (is := [0, 1]) hT hK hP rfl (va_recv hK hP (ci := 3) (q0 := 0) rfl rfl)) rfl rfl hl.1 rfl (lv_room (Nat.le_of_ble_eq_true rfl)) dL_read_4 ⟨Nat.le_of_ble_eq_true rfl, Nat.le_of_ble_eq_true rfl⟩) hown [] ⟨0, 9, 12, 13⟩ [⟨0, 9, 15, 23⟩] htab (fun _ h => nomatch h) (by decide) (by decide) (hts (.classLink RL 13 zIAE) (by decide +kernel)) (va_Nw.use rfl (hT.2.2.1 (.castable zIAE zIAE) (by simp [zBad]))) (fun q9 H hz1 hk1 => ?_)
  refine lv_astore_n (lv' := [(3, .ref q9), (0, .ref x0), (1, .int v), (2, .ref o)]) hx hb dL_read_12 rfl hl (by decide) rfl (fun ls hl => ?_)
  refine lv_iconst (v := 1) hx hb dL_read_13 (by decide) ?_
  exact W.iret hx hb hr (fun t ht hW => ⟨rfl, by rw [ht]; exact hz1, fun q hq => by rw [ht]; exact hk1 q hq⟩) (fun _ h => nomatch h) dL_read_14
set_option maxHeartbeats 4000000 in
set_option maxRecDepth 100000 in
/-- the law's isOpen, refused -/
theorem kL_isOpen_bad (l : Launch) (dC : Nat → ClassId) (dI : Nat → Nat → Nat) (cI cZ cH cJ : ClassId) (x0 : Nat) (xq : Nat) (now : Int32) (xg : Nat → Option Nat) (had : Nat → Nat → Nat) (hg : ∀ i, i < 4 → xg i = some (had i 0)) (v : Int32) (hv : ¬ zin v 0 3 = 1) (o : Nat) (hst : l.stackTraces = false) : Met l yL_isOpen wsL_isOpen ({ frames := 8, cells := 1, slots := 6, locals := 133 }) (zYc dC dI (zTy cI cZ cH cJ) [.ref x0, .int v, .ref o] ([(x0, .inr (3, [.ref xq, .int now])), (xq, .inl (cH, 4, .inr (.inr (.inr (.inr xg)))))])) (zSg 1) 1 6 (fun _ => False) := by
  refine va_MetW (cc := cL_isOpen) (maxL := 4) (ret := (some .int)) (by decide) rfl ?_
  intro p e s m args below meth c s₁ B hml hv0
  obtain ⟨rfl, ⟨hT, hN⟩, hP, hK⟩ := hv0
  have hx := B.exec
  have hb := B.bytes
  have hr := B.returns
  have hts := atoms_spec (ws := wsL_isOpen) B.pre
  have hown : s.vm.findClass RL = some m.cls := findClass_of_methodNamed B.named
  have hlocks := B.notSynchronized
  have htab := vx_table (x := yL_isOpen) B (hts _ List.mem_cons_self)
  have hl := lv_entry ([.ref x0, .int v, .ref o]) (n := 4) (Nat.le_of_ble_eq_true rfl)
  rw [lg_entry_eq]
  generalize (lg_sl ([.ref x0, .int v, .ref o]) ++ List.replicate (4 - (lg_sl ([.ref x0, .int v, .ref o])).length) Slot.unset).toArray = ls at hl ⊢
  have hl : lv_has ls 4 [(0, .ref x0), (1, .int v), (2, .ref o)] := hl
  refine lv_aload_n hx hb dL_isOpen_0 rfl (lv_at hl 2 rfl) ?_
  refine lv_iconst (v := 0) hx hb dL_isOpen_1 (by decide) ?_
  refine lv_aload_n hx hb dL_isOpen_2 rfl (lv_at hl 0 rfl) ?_
  refine lv_iload_n hx hb dL_isOpen_3 rfl (lv_at hl 1 rfl) ?_
  refine z_cC (own := RL) (name := zIAE) (vx_runV (As := [.int v]) (rest := [.int 0, .ref o]) ⟨hx, hb, hml, hown, hts⟩ (kX3_isOpen_bad l dC dI cI cZ cH cJ x0 xq now xg (by first | assumption | omega) (by first | assumption | omega) v (by first | assumption | omega) hst) (cwV 1 hts gL_isOpen_X3_isOpen rfl rfl rfl (by decide +kernel) ⟨Nat.le_of_ble_eq_true rfl, Nat.le_of_ble_eq_true rfl⟩) (zPreX (is := [0, 1]) hT hK hP rfl (va_recv hK hP (ci := 3) (q0 := 0) rfl rfl)) rfl rfl hl.1 rfl (lv_room (Nat.le_of_ble_eq_true rfl)) dL_isOpen_4 ⟨Nat.le_of_ble_eq_true rfl, Nat.le_of_ble_eq_true rfl⟩) hown [] ⟨0, 16, 19, 13⟩ [] htab (fun _ h => nomatch h) (by decide) (by decide) (hts (.classLink RL 13 zIAE) (by decide +kernel)) (va_Nw.use rfl (hT.2.2.1 (.castable zIAE zIAE) (by simp [zBad]))) (fun q9 H hz1 hk1 => ?_)
  refine lv_astore_n (lv' := [(3, .ref q9), (0, .ref x0), (1, .int v), (2, .ref o)]) hx hb dL_isOpen_19 rfl hl (by decide) rfl (fun ls hl => ?_)
  refine lv_iconst (v := 1) hx hb dL_isOpen_20 (by decide) ?_
  exact W.iret hx hb hr (fun t ht hW => ⟨rfl, by rw [ht]; exact hz1, fun q hq => by rw [ht]; exact hk1 q hq⟩) (fun _ h => nomatch h) dL_isOpen_21
set_option maxHeartbeats 4000000 in
set_option maxRecDepth 100000 in
/-- the law's mark, refused -/
theorem kL_mark_bad (l : Launch) (dC : Nat → ClassId) (dI : Nat → Nat → Nat) (cI cZ cH cJ : ClassId) (x0 : Nat) (xq : Nat) (now : Int32) (xg : Nat → Option Nat) (had : Nat → Nat → Nat) (hg : ∀ i, i < 4 → xg i = some (had i 0)) (v : Int32) (hv : ¬ zin v 0 3 = 1) (o : Nat) (hst : l.stackTraces = false) : Met l yL_mark wsL_mark ({ frames := 8, cells := 1, slots := 6, locals := 133 }) (zYc dC dI (zTy cI cZ cH cJ) [.ref x0, .int v, .ref o] ([(x0, .inr (3, [.ref xq, .int now])), (xq, .inl (cH, 4, .inr (.inr (.inr (.inr xg)))))])) (zSg 1) 1 6 (fun _ => False) := by
  refine va_MetW (cc := cL_mark) (maxL := 4) (ret := (some .int)) (by decide) rfl ?_
  intro p e s m args below meth c s₁ B hml hv0
  obtain ⟨rfl, ⟨hT, hN⟩, hP, hK⟩ := hv0
  have hx := B.exec
  have hb := B.bytes
  have hr := B.returns
  have hts := atoms_spec (ws := wsL_mark) B.pre
  have hown : s.vm.findClass RL = some m.cls := findClass_of_methodNamed B.named
  have hlocks := B.notSynchronized
  have htab := vx_table (x := yL_mark) B (hts _ List.mem_cons_self)
  have hl := lv_entry ([.ref x0, .int v, .ref o]) (n := 4) (Nat.le_of_ble_eq_true rfl)
  rw [lg_entry_eq]
  generalize (lg_sl ([.ref x0, .int v, .ref o]) ++ List.replicate (4 - (lg_sl ([.ref x0, .int v, .ref o])).length) Slot.unset).toArray = ls at hl ⊢
  have hl : lv_has ls 4 [(0, .ref x0), (1, .int v), (2, .ref o)] := hl
  refine lv_aload_n hx hb dL_mark_0 rfl (lv_at hl 2 rfl) ?_
  refine lv_iconst (v := 0) hx hb dL_mark_1 (by decide) ?_
  refine lv_aload_n hx hb dL_mark_2 rfl (lv_at hl 0 rfl) ?_
  refine lv_iload_n hx hb dL_mark_3 rfl (lv_at hl 1 rfl) ?_
  refine z_cC (own := RL) (name := zIAE) (vx_runV (As := [.int v]) (rest := [.int 0, .ref o]) ⟨hx, hb, hml, hown, hts⟩ (kX3_mark_bad l dC dI cI cZ cH cJ x0 xq now xg (by first | assumption | omega) (by first | assumption | omega) v (by first | assumption | omega) hst) (cwV 1 hts gL_mark_X3_mark rfl rfl rfl (by decide +kernel) ⟨Nat.le_of_ble_eq_true rfl, Nat.le_of_ble_eq_true rfl⟩) (zPreX (is := [0, 1]) hT hK hP rfl (va_recv hK hP (ci := 3) (q0 := 0) rfl rfl)) rfl rfl hl.1 rfl (lv_room (Nat.le_of_ble_eq_true rfl)) dL_mark_4 ⟨Nat.le_of_ble_eq_true rfl, Nat.le_of_ble_eq_true rfl⟩) hown [] ⟨0, 9, 12, 13⟩ [] htab (fun _ h => nomatch h) (by decide) (by decide) (hts (.classLink RL 13 zIAE) (by decide +kernel)) (va_Nw.use rfl (hT.2.2.1 (.castable zIAE zIAE) (by simp [zBad]))) (fun q9 H hz1 hk1 => ?_)
  refine lv_astore_n (lv' := [(3, .ref q9), (0, .ref x0), (1, .int v), (2, .ref o)]) hx hb dL_mark_12 rfl hl (by decide) rfl (fun ls hl => ?_)
  refine lv_iconst (v := 1) hx hb dL_mark_13 (by decide) ?_
  exact W.iret hx hb hr (fun t ht hW => ⟨rfl, by rw [ht]; exact hz1, fun q hq => by rw [ht]; exact hk1 q hq⟩) (fun _ h => nomatch h) dL_mark_14
set_option maxHeartbeats 4000000 in
set_option maxRecDepth 100000 in
/-- the law's stored, refused -/
theorem kL_stored_bad (l : Launch) (dC : Nat → ClassId) (dI : Nat → Nat → Nat) (cI cZ cH cJ : ClassId) (x0 : Nat) (xq : Nat) (now : Int32) (xg : Nat → Option Nat) (had : Nat → Nat → Nat) (hg : ∀ i, i < 4 → xg i = some (had i 0)) (a : Int32) (b : Int32) (hv : ¬ (zin a 0 3 = 1 ∧ zin b 0 19 = 1)) (o : Nat) (hst : l.stackTraces = false) : Met l yL_stored wsL_stored ({ frames := 9, cells := 1, slots := 6, locals := 155 }) (zYc dC dI (zTy cI cZ cH cJ) [.ref x0, .int a, .int b, .ref o] ([(x0, .inr (3, [.ref xq, .int now])), (xq, .inl (cH, 4, .inr (.inr (.inr (.inr xg)))))])) (zSg 1) 1 6 (fun _ => False) := by
  refine va_MetW (cc := cL_stored) (maxL := 5) (ret := (some .int)) (by decide) rfl ?_
  intro p e s m args below meth c s₁ B hml hv0
  obtain ⟨rfl, ⟨hT, hN⟩, hP, hK⟩ := hv0
  have hx := B.exec
  have hb := B.bytes
  have hr := B.returns
  have hts := atoms_spec (ws := wsL_stored) B.pre
  have hown : s.vm.findClass RL = some m.cls := findClass_of_methodNamed B.named
  have hlocks := B.notSynchronized
  have htab := vx_table (x := yL_stored) B (hts _ List.mem_cons_self)
  have hl := lv_entry ([.ref x0, .int a, .int b, .ref o]) (n := 5) (Nat.le_of_ble_eq_true rfl)
  rw [lg_entry_eq]
  generalize (lg_sl ([.ref x0, .int a, .int b, .ref o]) ++ List.replicate (5 - (lg_sl ([.ref x0, .int a, .int b, .ref o])).length) Slot.unset).toArray = ls at hl ⊢
  have hl : lv_has ls 5 [(0, .ref x0), (1, .int a), (2, .int b), (3, .ref o)] := hl
  refine lv_aload_n hx hb dL_stored_0 rfl (lv_at hl 3 rfl) ?_
  refine lv_iconst (v := 0) hx hb dL_stored_1 (by decide) ?_
  refine lv_aload_n hx hb dL_stored_2 rfl (lv_at hl 0 rfl) ?_
  refine lv_iload_n hx hb dL_stored_3 rfl (lv_at hl 1 rfl) ?_
  refine lv_iload_n hx hb dL_stored_4 rfl (lv_at hl 2 rfl) ?_
  refine z_cC (own := RL) (name := zIAE) (vx_runV (As := [.int a, .int b]) (rest := [.int 0, .ref o]) ⟨hx, hb, hml, hown, hts⟩ (kX3_stored_bad l dC dI cI cZ cH cJ x0 xq now xg (by first | assumption | omega) (by first | assumption | omega) a b (by first | assumption | omega) hst) (cwV 2 hts gL_stored_X3_stored rfl rfl rfl (by decide +kernel) ⟨Nat.le_of_ble_eq_true rfl, Nat.le_of_ble_eq_true rfl⟩) (zPreX (is := [0, 1]) hT hK hP rfl (va_recv hK hP (ci := 3) (q0 := 0) rfl rfl)) rfl rfl hl.1 rfl (lv_room (Nat.le_of_ble_eq_true rfl)) dL_stored_5 ⟨Nat.le_of_ble_eq_true rfl, Nat.le_of_ble_eq_true rfl⟩) hown [] ⟨0, 10, 13, 13⟩ [] htab (fun _ h => nomatch h) (by decide) (by decide) (hts (.classLink RL 13 zIAE) (by decide +kernel)) (va_Nw.use rfl (hT.2.2.1 (.castable zIAE zIAE) (by simp [zBad]))) (fun q9 H hz1 hk1 => ?_)
  refine lv_astore (lv' := [(4, .ref q9), (0, .ref x0), (1, .int a), (2, .int b), (3, .ref o)]) hx hb dL_stored_13 hl (by decide) rfl (fun ls hl => ?_)
  refine lv_iconst (v := 1) hx hb dL_stored_15 (by decide) ?_
  exact W.iret hx hb hr (fun t ht hW => ⟨rfl, by rw [ht]; exact hz1, fun q hq => by rw [ht]; exact hk1 q hq⟩) (fun _ h => nomatch h) dL_stored_16
set_option maxHeartbeats 4000000 in
set_option maxRecDepth 100000 in
/-- the law's held, refused -/
theorem kL_held_bad (l : Launch) (dC : Nat → ClassId) (dI : Nat → Nat → Nat) (cI cZ cH cJ : ClassId) (x0 : Nat) (xq : Nat) (now : Int32) (xg : Nat → Option Nat) (had : Nat → Nat → Nat) (hg : ∀ i, i < 4 → xg i = some (had i 0)) (v : Int32) (hv : ¬ zin v 0 3 = 1) (o : Nat) (hst : l.stackTraces = false) : Met l yL_held wsL_held ({ frames := 8, cells := 1, slots := 6, locals := 133 }) (zYc dC dI (zTy cI cZ cH cJ) [.ref x0, .int v, .ref o] ([(x0, .inr (3, [.ref xq, .int now])), (xq, .inl (cH, 4, .inr (.inr (.inr (.inr xg)))))])) (zSg 1) 1 6 (fun _ => False) := by
  refine va_MetW (cc := cL_held) (maxL := 4) (ret := (some .int)) (by decide) rfl ?_
  intro p e s m args below meth c s₁ B hml hv0
  obtain ⟨rfl, ⟨hT, hN⟩, hP, hK⟩ := hv0
  have hx := B.exec
  have hb := B.bytes
  have hr := B.returns
  have hts := atoms_spec (ws := wsL_held) B.pre
  have hown : s.vm.findClass RL = some m.cls := findClass_of_methodNamed B.named
  have hlocks := B.notSynchronized
  have htab := vx_table (x := yL_held) B (hts _ List.mem_cons_self)
  have hl := lv_entry ([.ref x0, .int v, .ref o]) (n := 4) (Nat.le_of_ble_eq_true rfl)
  rw [lg_entry_eq]
  generalize (lg_sl ([.ref x0, .int v, .ref o]) ++ List.replicate (4 - (lg_sl ([.ref x0, .int v, .ref o])).length) Slot.unset).toArray = ls at hl ⊢
  have hl : lv_has ls 4 [(0, .ref x0), (1, .int v), (2, .ref o)] := hl
  refine lv_aload_n hx hb dL_held_0 rfl (lv_at hl 2 rfl) ?_
  refine lv_iconst (v := 0) hx hb dL_held_1 (by decide) ?_
  refine lv_aload_n hx hb dL_held_2 rfl (lv_at hl 0 rfl) ?_
  refine lv_iload_n hx hb dL_held_3 rfl (lv_at hl 1 rfl) ?_
  refine z_cC (own := RL) (name := zIAE) (vx_runV (As := [.int v]) (rest := [.int 0, .ref o]) ⟨hx, hb, hml, hown, hts⟩ (kX3_held_bad l dC dI cI cZ cH cJ x0 xq now xg (by first | assumption | omega) (by first | assumption | omega) v (by first | assumption | omega) hst) (cwV 1 hts gL_held_X3_held rfl rfl rfl (by decide +kernel) ⟨Nat.le_of_ble_eq_true rfl, Nat.le_of_ble_eq_true rfl⟩) (zPreX (is := [0, 1]) hT hK hP rfl (va_recv hK hP (ci := 3) (q0 := 0) rfl rfl)) rfl rfl hl.1 rfl (lv_room (Nat.le_of_ble_eq_true rfl)) dL_held_4 ⟨Nat.le_of_ble_eq_true rfl, Nat.le_of_ble_eq_true rfl⟩) hown [] ⟨0, 9, 12, 13⟩ [] htab (fun _ h => nomatch h) (by decide) (by decide) (hts (.classLink RL 13 zIAE) (by decide +kernel)) (va_Nw.use rfl (hT.2.2.1 (.castable zIAE zIAE) (by simp [zBad]))) (fun q9 H hz1 hk1 => ?_)
  refine lv_astore_n (lv' := [(3, .ref q9), (0, .ref x0), (1, .int v), (2, .ref o)]) hx hb dL_held_12 rfl hl (by decide) rfl (fun ls hl => ?_)
  refine lv_iconst (v := 1) hx hb dL_held_13 (by decide) ?_
  exact W.iret hx hb hr (fun t ht hW => ⟨rfl, by rw [ht]; exact hz1, fun q hq => by rw [ht]; exact hk1 q hq⟩) (fun _ h => nomatch h) dL_held_14
set_option maxHeartbeats 4000000 in
set_option maxRecDepth 100000 in
/-- the law's wrong, refused -/
theorem kL_wrong_bad (l : Launch) (dC : Nat → ClassId) (dI : Nat → Nat → Nat) (cI cZ cH cJ : ClassId) (x0 : Nat) (xq : Nat) (now : Int32) (xg : Nat → Option Nat) (had : Nat → Nat → Nat) (hg : ∀ i, i < 4 → xg i = some (had i 0)) (v : Int32) (hv : ¬ zin v 0 3 = 1) (o : Nat) (hst : l.stackTraces = false) : Met l yL_wrong wsL_wrong ({ frames := 8, cells := 1, slots := 6, locals := 134 }) (zYc dC dI (zTy cI cZ cH cJ) [.ref x0, .int v, .ref o] ([(x0, .inr (3, [.ref xq, .int now])), (xq, .inl (cH, 4, .inr (.inr (.inr (.inr xg)))))])) (zSg 1) 1 6 (fun _ => False) := by
  refine va_MetW (cc := cL_wrong) (maxL := 4) (ret := (some .int)) (by decide) rfl ?_
  intro p e s m args below meth c s₁ B hml hv0
  obtain ⟨rfl, ⟨hT, hN⟩, hP, hK⟩ := hv0
  have hx := B.exec
  have hb := B.bytes
  have hr := B.returns
  have hts := atoms_spec (ws := wsL_wrong) B.pre
  have hown : s.vm.findClass RL = some m.cls := findClass_of_methodNamed B.named
  have hlocks := B.notSynchronized
  have htab := vx_table (x := yL_wrong) B (hts _ List.mem_cons_self)
  have hl := lv_entry ([.ref x0, .int v, .ref o]) (n := 4) (Nat.le_of_ble_eq_true rfl)
  rw [lg_entry_eq]
  generalize (lg_sl ([.ref x0, .int v, .ref o]) ++ List.replicate (4 - (lg_sl ([.ref x0, .int v, .ref o])).length) Slot.unset).toArray = ls at hl ⊢
  have hl : lv_has ls 4 [(0, .ref x0), (1, .int v), (2, .ref o)] := hl
  refine lv_aload_n hx hb dL_wrong_0 rfl (lv_at hl 2 rfl) ?_
  refine lv_iconst (v := 0) hx hb dL_wrong_1 (by decide) ?_
  refine lv_aload_n hx hb dL_wrong_2 rfl (lv_at hl 0 rfl) ?_
  refine lv_iload_n hx hb dL_wrong_3 rfl (lv_at hl 1 rfl) ?_
  refine z_cC (own := RL) (name := zIAE) (vx_runV (As := [.int v]) (rest := [.int 0, .ref o]) ⟨hx, hb, hml, hown, hts⟩ (kX3_wrong_bad l dC dI cI cZ cH cJ x0 xq now xg (by first | assumption | omega) (by first | assumption | omega) v (by first | assumption | omega) hst) (cwV 1 hts gL_wrong_X3_wrong rfl rfl rfl (by decide +kernel) ⟨Nat.le_of_ble_eq_true rfl, Nat.le_of_ble_eq_true rfl⟩) (zPreX (is := [0, 1]) hT hK hP rfl (va_recv hK hP (ci := 3) (q0 := 0) rfl rfl)) rfl rfl hl.1 rfl (lv_room (Nat.le_of_ble_eq_true rfl)) dL_wrong_4 ⟨Nat.le_of_ble_eq_true rfl, Nat.le_of_ble_eq_true rfl⟩) hown [] ⟨0, 9, 12, 13⟩ [] htab (fun _ h => nomatch h) (by decide) (by decide) (hts (.classLink RL 13 zIAE) (by decide +kernel)) (va_Nw.use rfl (hT.2.2.1 (.castable zIAE zIAE) (by simp [zBad]))) (fun q9 H hz1 hk1 => ?_)
  refine lv_astore_n (lv' := [(3, .ref q9), (0, .ref x0), (1, .int v), (2, .ref o)]) hx hb dL_wrong_12 rfl hl (by decide) rfl (fun ls hl => ?_)
  refine lv_iconst (v := 1) hx hb dL_wrong_13 (by decide) ?_
  exact W.iret hx hb hr (fun t ht hW => ⟨rfl, by rw [ht]; exact hz1, fun q hq => by rw [ht]; exact hk1 q hq⟩) (fun _ h => nomatch h) dL_wrong_14
set_option maxHeartbeats 4000000 in
set_option maxRecDepth 100000 in
/-- the law's copies, refused -/
theorem kL_copies_bad (l : Launch) (dC : Nat → ClassId) (dI : Nat → Nat → Nat) (cI cZ cH cJ : ClassId) (x0 : Nat) (xq : Nat) (now : Int32) (xg : Nat → Option Nat) (w : Int32) (hv : ¬ zin w 0 9 = 1) (o : Nat) (hst : l.stackTraces = false) : Met l yL_copies wsL_copies ({ frames := 8, cells := 1, slots := 6, locals := 135 }) (zYc dC dI (zTy cI cZ cH cJ) [.ref x0, .int w, .ref o] ([(x0, .inr (3, [.ref xq, .int now])), (xq, .inl (cH, 4, .inr (.inr (.inr (.inr xg)))))])) (zSg 1) 1 6 (fun _ => False) := by
  refine va_MetW (cc := cL_copies) (maxL := 4) (ret := (some .int)) (by decide) rfl ?_
  intro p e s m args below meth c s₁ B hml hv0
  obtain ⟨rfl, ⟨hT, hN⟩, hP, hK⟩ := hv0
  have hx := B.exec
  have hb := B.bytes
  have hr := B.returns
  have hts := atoms_spec (ws := wsL_copies) B.pre
  have hown : s.vm.findClass RL = some m.cls := findClass_of_methodNamed B.named
  have hlocks := B.notSynchronized
  have htab := vx_table (x := yL_copies) B (hts _ List.mem_cons_self)
  have hl := lv_entry ([.ref x0, .int w, .ref o]) (n := 4) (Nat.le_of_ble_eq_true rfl)
  rw [lg_entry_eq]
  generalize (lg_sl ([.ref x0, .int w, .ref o]) ++ List.replicate (4 - (lg_sl ([.ref x0, .int w, .ref o])).length) Slot.unset).toArray = ls at hl ⊢
  have hl : lv_has ls 4 [(0, .ref x0), (1, .int w), (2, .ref o)] := hl
  refine lv_aload_n hx hb dL_copies_0 rfl (lv_at hl 2 rfl) ?_
  refine lv_iconst (v := 0) hx hb dL_copies_1 (by decide) ?_
  refine lv_aload_n hx hb dL_copies_2 rfl (lv_at hl 0 rfl) ?_
  refine lv_iload_n hx hb dL_copies_3 rfl (lv_at hl 1 rfl) ?_
  refine z_cC (own := RL) (name := zIAE) (vx_runV (As := [.int w]) (rest := [.int 0, .ref o]) ⟨hx, hb, hml, hown, hts⟩ (kX3_copies_bad l dC dI cI cZ cH cJ x0 xq now xg w (by first | assumption | omega) hst) (cwV 1 hts gL_copies_X3_copies rfl rfl rfl (by decide +kernel) ⟨Nat.le_of_ble_eq_true rfl, Nat.le_of_ble_eq_true rfl⟩) (zPreX (is := [0, 1]) hT hK hP rfl (va_recv hK hP (ci := 3) (q0 := 0) rfl rfl)) rfl rfl hl.1 rfl (lv_room (Nat.le_of_ble_eq_true rfl)) dL_copies_4 ⟨Nat.le_of_ble_eq_true rfl, Nat.le_of_ble_eq_true rfl⟩) hown [] ⟨0, 9, 12, 13⟩ [] htab (fun _ h => nomatch h) (by decide) (by decide) (hts (.classLink RL 13 zIAE) (by decide +kernel)) (va_Nw.use rfl (hT.2.2.1 (.castable zIAE zIAE) (by simp [zBad]))) (fun q9 H hz1 hk1 => ?_)
  refine lv_astore_n (lv' := [(3, .ref q9), (0, .ref x0), (1, .int w), (2, .ref o)]) hx hb dL_copies_12 rfl hl (by decide) rfl (fun ls hl => ?_)
  refine lv_iconst (v := 1) hx hb dL_copies_13 (by decide) ?_
  exact W.iret hx hb hr (fun t ht hW => ⟨rfl, by rw [ht]; exact hz1, fun q hq => by rw [ht]; exact hk1 q hq⟩) (fun _ h => nomatch h) dL_copies_14
set_option maxHeartbeats 4000000 in
set_option maxRecDepth 100000 in
/-- the law's best, refused -/
theorem kL_best_bad (l : Launch) (dC : Nat → ClassId) (dI : Nat → Nat → Nat) (cI cZ cH cJ : ClassId) (x0 : Nat) (xq : Nat) (now : Int32) (xg : Nat → Option Nat) (w : Int32) (hv : ¬ zin w 0 9 = 1) (o : Nat) (hst : l.stackTraces = false) : Met l yL_best wsL_best ({ frames := 8, cells := 1, slots := 6, locals := 138 }) (zYc dC dI (zTy cI cZ cH cJ) [.ref x0, .int w, .ref o] ([(x0, .inr (3, [.ref xq, .int now])), (xq, .inl (cH, 4, .inr (.inr (.inr (.inr xg)))))])) (zSg 1) 1 6 (fun _ => False) := by
  refine va_MetW (cc := cL_best) (maxL := 4) (ret := (some .int)) (by decide) rfl ?_
  intro p e s m args below meth c s₁ B hml hv0
  obtain ⟨rfl, ⟨hT, hN⟩, hP, hK⟩ := hv0
  have hx := B.exec
  have hb := B.bytes
  have hr := B.returns
  have hts := atoms_spec (ws := wsL_best) B.pre
  have hown : s.vm.findClass RL = some m.cls := findClass_of_methodNamed B.named
  have hlocks := B.notSynchronized
  have htab := vx_table (x := yL_best) B (hts _ List.mem_cons_self)
  have hl := lv_entry ([.ref x0, .int w, .ref o]) (n := 4) (Nat.le_of_ble_eq_true rfl)
  rw [lg_entry_eq]
  generalize (lg_sl ([.ref x0, .int w, .ref o]) ++ List.replicate (4 - (lg_sl ([.ref x0, .int w, .ref o])).length) Slot.unset).toArray = ls at hl ⊢
  have hl : lv_has ls 4 [(0, .ref x0), (1, .int w), (2, .ref o)] := hl
  refine lv_aload_n hx hb dL_best_0 rfl (lv_at hl 2 rfl) ?_
  refine lv_iconst (v := 0) hx hb dL_best_1 (by decide) ?_
  refine lv_aload_n hx hb dL_best_2 rfl (lv_at hl 0 rfl) ?_
  refine lv_iload_n hx hb dL_best_3 rfl (lv_at hl 1 rfl) ?_
  refine z_cC (own := RL) (name := zIAE) (vx_runV (As := [.int w]) (rest := [.int 0, .ref o]) ⟨hx, hb, hml, hown, hts⟩ (kX3_best_bad l dC dI cI cZ cH cJ x0 xq now xg w (by first | assumption | omega) hst) (cwV 1 hts gL_best_X3_best rfl rfl rfl (by decide +kernel) ⟨Nat.le_of_ble_eq_true rfl, Nat.le_of_ble_eq_true rfl⟩) (zPreX (is := [0, 1]) hT hK hP rfl (va_recv hK hP (ci := 3) (q0 := 0) rfl rfl)) rfl rfl hl.1 rfl (lv_room (Nat.le_of_ble_eq_true rfl)) dL_best_4 ⟨Nat.le_of_ble_eq_true rfl, Nat.le_of_ble_eq_true rfl⟩) hown [] ⟨0, 9, 12, 13⟩ [] htab (fun _ h => nomatch h) (by decide) (by decide) (hts (.classLink RL 13 zIAE) (by decide +kernel)) (va_Nw.use rfl (hT.2.2.1 (.castable zIAE zIAE) (by simp [zBad]))) (fun q9 H hz1 hk1 => ?_)
  refine lv_astore_n (lv' := [(3, .ref q9), (0, .ref x0), (1, .int w), (2, .ref o)]) hx hb dL_best_12 rfl hl (by decide) rfl (fun ls hl => ?_)
  refine lv_iconst (v := 1) hx hb dL_best_13 (by decide) ?_
  exact W.iret hx hb hr (fun t ht hW => ⟨rfl, by rw [ht]; exact hz1, fun q hq => by rw [ht]; exact hk1 q hq⟩) (fun _ h => nomatch h) dL_best_14
