set_option maxHeartbeats 8000000 in
set_option maxRecDepth 100000 in
/-- isKnown -/
theorem kL_isKnown (l : Launch) (dC : Nat → ClassId) (dI : Nat → Nat → Nat) (cI cZ cH cJ : ClassId) (x0 : Nat) (xq : Nat) (xg : Nat → Option Nat) (had : Nat → Nat → Nat) (hg : ∀ i, i < 4 → xg i = some (had i 0)) (σ : Nat → zHS) (N : Nat) (hN : N ≤ 5000) (ay : Nat) (az : Nat) (ag : Nat) (fy : zI) (fz : zI) (fg : zI) (fd : zI) (ca : Nat) (hc3 : ca < 3) (u : Nat) (w : Nat) (mm : Nat) (hCF : zCF ca N (σ ca) fy fd fg u w mm) (sz : Nat) : Met l yL_isKnown wsL_isKnown ({ frames := 6, cells := 0, slots := 0, locals := 145 }) (zPc dC dI (zTy cI cZ cH cJ) [.ref x0, .ref ay, .ref az, .ref ag, .int (nI ca)] sz ([(ay, .inl (cI, 60, .inl fy)), (az, .inl (cI, 60, .inl fz)), (ag, .inl (cI, 12, .inl fg))] ++ zOb cI cZ cH x0 xq xg had (nI N) σ)) (zQi dC dI 1 ([(ay, .inl (cI, 60, .inl fy)), (az, .inl (cI, 60, .inl (zrz fy fz 1 0 (20 * ca) 20))), (ag, .inl (cI, 12, .inl (upd fg (4 * ca + 2) 0)))] ++ zOb cI cZ cH x0 xq xg had (nI N) (zup σ ca (hRound (σ ca) 1 (nI N) 0))) (va_A ([(ay, .inl (cI, 60, .inl fy)), (az, .inl (cI, 60, .inl fz)), (ag, .inl (cI, 12, .inl fg))] ++ zOb cI cZ cH x0 xq xg had (nI N) σ) sz)) 0 0 (va_A ([(ay, .inl (cI, 60, .inl fy)), (az, .inl (cI, 60, .inl fz)), (ag, .inl (cI, 12, .inl fg))] ++ zOb cI cZ cH x0 xq xg had (nI N) σ) sz) := by
  refine Met.ofW (cc := cL_isKnown) (maxL := 5) (ret := (some .boolean)) (by decide) rfl ?_
  intro p e s m args below meth c s₁ B hml hv0
  obtain ⟨rfl, hsz, hP, hK, hD0⟩ := hv0
  have hx := B.exec
  have hb := B.bytes
  have hr := B.returns
  have hts := atoms_spec (ws := wsL_isKnown) B.pre
  have hown : s.vm.findClass RL = some m.cls := findClass_of_methodNamed B.named
  have hlocks := B.notSynchronized
  subst hsz
  have hD := hD0.self (sz := s.heap.size)
  generalize hAe : va_A ([(ay, .inl (cI, 60, .inl fy)), (az, .inl (cI, 60, .inl fz)), (ag, .inl (cI, 12, .inl fg))] ++ zOb cI cZ cH x0 xq xg had (nI N) σ) s.heap.size = A at hD ⊢
  have hA : ∀ q : Nat, s.heap.size ≤ q → A q := fun q h => by rw [← hAe]; exact Or.inr h
  have hS : va_S A s.heap s.heap [] := va_S.rf
  have hl := lv_entry ([.ref x0, .ref ay, .ref az, .ref ag, .int (nI ca)]) (n := 5) (Nat.le_of_ble_eq_true rfl)
  rw [lg_entry_eq]
  generalize (lg_sl ([.ref x0, .ref ay, .ref az, .ref ag, .int (nI ca)]) ++ List.replicate (5 - (lg_sl ([.ref x0, .ref ay, .ref az, .ref ag, .int (nI ca)])).length) Slot.unset).toArray = ls at hl ⊢
  have hl : lv_has ls 5 [(0, .ref x0), (1, .ref ay), (2, .ref az), (3, .ref ag), (4, .int (nI ca))] := hl
  have hca : ca < 4 := by omega
  have hzz := zCF_z hCF hN
  have hdn : zDone N 0 1 (σ ca) (hRound (σ ca) 1 (nI N) 0) := z_done (N := N) (x0 := σ ca) (m := mm) (Or.inr rfl) hzz (by omega) hCF.1.2.2.2.2.2.2.1 rfl
  refine lv_aload_n hx hb dL_isKnown_0 rfl (lv_at hl 0 rfl) ?_
  refine lv_aload_n hx hb dL_isKnown_1 rfl (lv_at hl 1 rfl) ?_
  refine lv_aload_n hx hb dL_isKnown_2 rfl (lv_at hl 2 rfl) ?_
  refine lv_aload_n hx hb dL_isKnown_3 rfl (lv_at hl 3 rfl) ?_
  refine lv_iload hx hb dL_isKnown_4 (lv_at hl 4 rfl) ?_
  refine lv_iconst (v := 1) hx hb dL_isKnown_6 (by decide) ?_
  refine z_cGi (wr := []) (big1 := [(ay, .inl (cI, 60, .inl fy)), (az, .inl (cI, 60, .inl (zrz fy fz 1 0 (20 * ca) 20))), (ag, .inl (cI, 12, .inl (upd fg (4 * ca + 2) 0)))] ++ zOb cI cZ cH x0 xq xg had (nI N) (zup σ ca (hRound (σ ca) 1 (nI N) 0))) (va_runS (As := [.ref x0, .ref ay, .ref az, .ref ag, .int (nI ca), .int 1]) (rest := []) ⟨hx, hb, hml, hown, hts⟩ (kL_isRound_f1 l dC dI cI cZ cH cJ x0 xq xg had hg σ N (by first | assumption | omega) ay az ag fy fz fg fd ca (by first | assumption | omega) u w mm (hCF) s.heap.size) (va_cwS 6 hts gL_isKnown_L_isRound rfl rfl rfl (by decide +kernel) ⟨Nat.le_of_ble_eq_true rfl, Nat.le_of_ble_eq_true rfl⟩) (zPreS1 hK (zP_t (w1 := [(ay, .inl (cI, 60, .inl fy)), (az, .inl (cI, 60, .inl fz)), (ag, .inl (cI, 12, .inl fg))]) (is := [0, 1, 2]) hP rfl) (zD_t (w1 := [(ay, .inl (cI, 60, .inl fy)), (az, .inl (cI, 60, .inl fz)), (ag, .inl (cI, 12, .inl fg))]) (is := [0, 1, 2]) hD (by decide) rfl)) rfl rfl hl.1 rfl (lv_room (Nat.le_of_ble_eq_true rfl)) dL_isKnown_7 ⟨Nat.le_of_ble_eq_true rfl, Nat.le_of_ble_eq_true rfl⟩) hP hD hS hA (zeT (ws := [(ay, .inl (cI, 60, .inl fy)), (az, .inl (cI, 60, .inl fz)), (ag, .inl (cI, 12, .inl fg))]) (wc := [(ay, .inl (cI, 60, .inl fy)), (az, .inl (cI, 60, .inl fz)), (ag, .inl (cI, 12, .inl fg))]) (wr := []) [0, 1, 2] [0, 1, 2] rfl rfl (by decide) (by decide)) ((zeT (ws := [(ay, .inl (cI, 60, .inl fy)), (az, .inl (cI, 60, .inl (zrz fy fz 1 0 (20 * ca) 20))), (ag, .inl (cI, 12, .inl (upd fg (4 * ca + 2) 0)))]) (wc := [(ay, .inl (cI, 60, .inl fy)), (az, .inl (cI, 60, .inl (zrz fy fz 1 0 (20 * ca) 20))), (ag, .inl (cI, 12, .inl (upd fg (4 * ca + 2) 0)))]) (wr := []) [0, 1, 2] [0, 1, 2] rfl rfl (by decide) (by decide)).sy) (fun H locs hP hD hS => ?_)
  have hP : va_P (dC, dI) vwCl ([(ay, .inl (cI, 60, .inl fy)), (az, .inl (cI, 60, .inl (zrz fy fz 1 0 (20 * ca) 20))), (ag, .inl (cI, 12, .inl (upd fg (4 * ca + 2) 0)))] ++ zOb cI cZ cH x0 xq xg had (nI N) (zup σ ca (hRound (σ ca) 1 (nI N) 0))) H := hP
  have hD : va_D A ([(ay, .inl (cI, 60, .inl fy)), (az, .inl (cI, 60, .inl (zrz fy fz 1 0 (20 * ca) 20))), (ag, .inl (cI, 12, .inl (upd fg (4 * ca + 2) 0)))] ++ zOb cI cZ cH x0 xq xg had (nI N) (zup σ ca (hRound (σ ca) 1 (nI N) 0))) := hD
  refine z_tv (v := 1) rfl ?_
  refine lv_if_eq (tgt := 32) hx hb dL_isKnown_10 (by decide) (fun c_10 => absurd c_10 (by decide)) (fun c_10 => ?_)
  refine lv_aload_n hx hb dL_isKnown_13 rfl (lv_at hl 0 rfl) ?_
  refine lv_iload hx hb dL_isKnown_14 (lv_at hl 4 rfl) ?_
  refine z_cRi (va_runV (As := [.int (nI ca)]) (rest := []) ⟨hx, hb, hml, hown, hts⟩ (c_held l dC dI cI cZ cH cJ x0 xq (nI N) xg had hg (zup σ ca (hRound (σ ca) 1 (nI N) 0)) ca (by first | assumption | omega)) (cwV 1 hts gL_isKnown_X3_held rfl rfl rfl (by decide +kernel) ⟨Nat.le_of_ble_eq_true rfl, Nat.le_of_ble_eq_true rfl⟩) (zPreR1 hK (zP_r hP) (zrecv hK (zP_r hP))) rfl rfl hl.1 rfl (lv_room (Nat.le_of_ble_eq_true rfl)) dL_isKnown_16 ⟨Nat.le_of_ble_eq_true rfl, Nat.le_of_ble_eq_true rfl⟩) ?_
  refine z_tv (v := zcnt (hFT (hRound (σ ca) 1 (nI N) 0)) 20) (by rw [zup_s]; exact zcnt_cg 20 (fun r hr => (z_full hCF hN hdn r hr).1)) ?_
  refine lv_aload_n hx hb dL_isKnown_19 rfl (lv_at hl 0 rfl) ?_
  refine lv_iload hx hb dL_isKnown_20 (lv_at hl 4 rfl) ?_
  refine z_cRi (va_runV (As := [.int (nI ca)]) (rest := [.int (zcnt (hFT (hRound (σ ca) 1 (nI N) 0)) 20)]) ⟨hx, hb, hml, hown, hts⟩ (c_far l dC dI cI cZ cH cJ x0 xq (nI N) xg had hg (zup σ ca (hRound (σ ca) 1 (nI N) 0)) ca (by first | assumption | omega)) (cwV 1 hts gL_isKnown_X3_far rfl rfl rfl (by decide +kernel) ⟨Nat.le_of_ble_eq_true rfl, Nat.le_of_ble_eq_true rfl⟩) (zPreR1 hK (zP_r hP) (zrecv hK (zP_r hP))) rfl rfl hl.1 rfl (lv_room (Nat.le_of_ble_eq_true rfl)) dL_isKnown_22 ⟨Nat.le_of_ble_eq_true rfl, Nat.le_of_ble_eq_true rfl⟩) ?_
  refine z_tv (v := zcnt (hFT (hRound (σ ca) 1 (nI N) 0)) 20) (by rw [zup_s]) ?_
  refine lv_icmp_ne (tgt := 32) hx hb dL_isKnown_25 (by decide) (fun c_25 => absurd c_25 (fun h => h rfl)) (fun c_25 => ?_)
  refine lv_iconst (v := 1) hx hb dL_isKnown_28 (by decide) ?_
  refine lv_goto (tgt := 33) hx hb dL_isKnown_29 (by decide) ?_
  exact W.zret (ty := .boolean) hx hb hr (rfl) (fun t ht hW => ⟨rfl, ⟨by rw [ht]; exact hP, hD⟩, hS.F ht⟩) hS.2.2 dL_isKnown_33
