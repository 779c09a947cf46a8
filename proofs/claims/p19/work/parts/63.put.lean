theorem zin_n9 {b : Nat} (h : b ≤ 9) : zin (nI b) 0 9 = 1 := by
  unfold zin
  rw [if_neg]
  rintro (q | q)
  · exact nI_pos (by omega) q
  · exact nI_nlt (a := 9) (b := b) h (by decide) q
theorem zin_n1000 {a : Nat} (h : a ≤ 1000) : zin (nI a) 0 1000 = 1 := by
  unfold zin
  rw [if_neg]
  rintro (q | q)
  · exact nI_pos (by omega) q
  · exact nI_nlt (a := 1000) (b := a) h (by decide) q
theorem zmod0 {N u : Nat} (h1 : 1 ≤ u) (h2 : u ≤ 30) (hN : N ≤ 5000) : nI (N - N % u) - nI (N - N % u) / nI u * nI u = 0 := by
  rw [pk_rem (by omega) (by omega) (by omega)]
  have h : (N - N % u) % u = 0 := Nat.mod_eq_zero_of_dvd (Nat.dvd_sub_mod N)
  rw [h]
  rfl
theorem zw2 {w : Nat} (hw : w ≤ 2) (h : nI w = 2) : w = 2 := (nI_eq (b := 2) (by omega) (by decide)).mp h
theorem zw2n {w : Nat} (h : ¬ nI w = 2) : ¬ w = 2 := fun e => h (by rw [e]; rfl)
set_option maxHeartbeats 8000000 in
set_option maxRecDepth 100000 in
/-- isPut -/
theorem kL_isPut (l : Launch) (dC : Nat → ClassId) (dI : Nat → Nat → Nat) (cI cZ cH cJ : ClassId) (x0 : Nat) (xq : Nat) (xg : Nat → Option Nat) (had : Nat → Nat → Nat) (hg : ∀ i, i < 4 → xg i = some (had i 0)) (σ : Nat → zHS) (N : Nat) (hN : N ≤ 5000) (ay : Nat) (ag : Nat) (fy : zI) (fg : zI) (ca : Nat) (hc3 : ca < 3) (r : Nat) (hrr : r < 20) (a : Nat) (ha : a ≤ 1000) (b : Nat) (hb9 : b ≤ 9) (u : Nat) (hu1 : 1 ≤ u) (hu2 : u ≤ 30) (hUn1 : hUn (σ ca) = nI u) (hg0 : fg (4 * ca) = nI u) (sz : Nat) : Met l yL_isPut wsL_isPut ({ frames := 3, cells := 0, slots := 0, locals := 74 }) (zPc dC dI (zTy cI cZ cH cJ) [.ref x0, .ref ay, .ref ag, .int (nI ca), .int (nI r), .int (nI b), .int (nI a)] sz ([(ay, .inl (cI, 60, .inl fy)), (ag, .inl (cI, 12, .inl fg))] ++ zOb cI cZ cH x0 xq xg had (nI N) σ)) (zQi dC dI 1 ([(ay, .inl (cI, 60, .inl (upd fy (20 * ca + r) (zenN a b (N - N % u))))), (ag, .inl (cI, 12, .inl fg))] ++ zOb cI cZ cH x0 xq xg had (nI N) (zup σ ca (hPut (σ ca) r (nI b) (nI a) (nI N)))) (va_A ([(ay, .inl (cI, 60, .inl fy)), (ag, .inl (cI, 12, .inl fg))] ++ zOb cI cZ cH x0 xq xg had (nI N) σ) sz)) 0 0 (va_A ([(ay, .inl (cI, 60, .inl fy)), (ag, .inl (cI, 12, .inl fg))] ++ zOb cI cZ cH x0 xq xg had (nI N) σ) sz) := by
  refine Met.ofW (cc := cL_isPut) (maxL := 9) (ret := (some .boolean)) (by decide) rfl ?_
  intro p e s m args below meth c s₁ B hml hv0
  obtain ⟨rfl, hsz, hP, hK, hD0⟩ := hv0
  have hx := B.exec
  have hb := B.bytes
  have hr := B.returns
  have hts := atoms_spec (ws := wsL_isPut) B.pre
  have hown : s.vm.findClass RL = some m.cls := findClass_of_methodNamed B.named
  have hlocks := B.notSynchronized
  subst hsz
  have hD := hD0.self (sz := s.heap.size)
  generalize hAe : va_A ([(ay, .inl (cI, 60, .inl fy)), (ag, .inl (cI, 12, .inl fg))] ++ zOb cI cZ cH x0 xq xg had (nI N) σ) s.heap.size = A at hD ⊢
  have hA : ∀ q : Nat, s.heap.size ≤ q → A q := fun q h => by rw [← hAe]; exact Or.inr h
  have hS : va_S A s.heap s.heap [] := va_S.rf
  have hl := lv_entry ([.ref x0, .ref ay, .ref ag, .int (nI ca), .int (nI r), .int (nI b), .int (nI a)]) (n := 9) (Nat.le_of_ble_eq_true rfl)
  rw [lg_entry_eq]
  generalize (lg_sl ([.ref x0, .ref ay, .ref ag, .int (nI ca), .int (nI r), .int (nI b), .int (nI a)]) ++ List.replicate (9 - (lg_sl ([.ref x0, .ref ay, .ref ag, .int (nI ca), .int (nI r), .int (nI b), .int (nI a)])).length) Slot.unset).toArray = ls at hl ⊢
  have hl : lv_has ls 9 [(0, .ref x0), (1, .ref ay), (2, .ref ag), (3, .int (nI ca)), (4, .int (nI r)), (5, .int (nI b)), (6, .int (nI a))] := hl
  have hm1 : N % u < u := Nat.mod_lt _ (by omega)
  have hm2 : N % u ≤ N := Nat.mod_le _ _
  have hca : ca < 4 := by omega
  refine lv_aload_n hx hb dL_isPut_0 rfl (lv_at hl 0 rfl) ?_
  refine z_cRi (va_runV (As := []) (rest := []) ⟨hx, hb, hml, hown, hts⟩ (c_today l dC dI cI cZ cH cJ x0 xq (nI N) xg had hg σ) (cwV 0 hts gL_isPut_X3_today rfl rfl rfl (by decide +kernel) ⟨Nat.le_of_ble_eq_true rfl, Nat.le_of_ble_eq_true rfl⟩) (zPreR1 hK (zP_r hP) (zrecv hK (zP_r hP))) rfl rfl hl.1 rfl (lv_room (Nat.le_of_ble_eq_true rfl)) dL_isPut_1 ⟨Nat.le_of_ble_eq_true rfl, Nat.le_of_ble_eq_true rfl⟩) ?_
  refine z_tv (v := nI N) rfl ?_
  refine lv_istore (lv' := [(7, .int (nI N)), (0, .ref x0), (1, .ref ay), (2, .ref ag), (3, .int (nI ca)), (4, .int (nI r)), (5, .int (nI b)), (6, .int (nI a))]) hx hb dL_isPut_4 hl (by decide) rfl (fun ls hl => ?_)
  refine lv_aload_n hx hb dL_isPut_6 rfl (lv_at hl 1 rfl) ?_
  refine lv_iload_n hx hb dL_isPut_7 rfl (lv_at hl 4 rfl) ?_
  refine lv_iload hx hb dL_isPut_8 (lv_at hl 5 rfl) ?_
  refine lv_iload hx hb dL_isPut_10 (lv_at hl 6 rfl) ?_
  refine lv_iload hx hb dL_isPut_12 (lv_at hl 7 rfl) ?_
  refine z_cGi (wr := [(ay, .inl (cI, 60, .inl fy)), (ag, .inl (cI, 12, .inl fg))]) (big1 := [(ay, .inl (cI, 60, .inl fy)), (ag, .inl (cI, 12, .inl fg))] ++ zOb cI cZ cH x0 xq xg had (nI N) (zup σ ca (hPut (σ ca) r (nI b) (nI a) (nI N)))) (va_runV (As := [.int (nI ca), .int (nI r), .int (nI b), .int (nI a)]) (rest := []) ⟨hx, hb, hml, hown, hts⟩ (c_put l dC dI cI cZ cH cJ x0 xq (nI N) xg had hg σ ca (by first | assumption | omega) r (by first | assumption | omega) (nI b) (nI a) (zin_n9 hb9) (zin_n1000 ha) s.heap.size) (cwV 4 hts gL_isPut_X3_put rfl rfl rfl (by decide +kernel) ⟨Nat.le_of_ble_eq_true rfl, Nat.le_of_ble_eq_true rfl⟩) (zPreV1 hK (zP_r hP) (zD_r hD) (zrecv hK (zP_r hP))) rfl rfl hl.1 rfl (lv_room (Nat.le_of_ble_eq_true rfl)) dL_isPut_14 ⟨Nat.le_of_ble_eq_true rfl, Nat.le_of_ble_eq_true rfl⟩) hP hD hS hA (zeq_comm _ _) (zeq_comm _ _) (fun H locs hP hD hS => ?_)
  have hP : va_P (dC, dI) vwCl ([(ay, .inl (cI, 60, .inl fy)), (ag, .inl (cI, 12, .inl fg))] ++ zOb cI cZ cH x0 xq xg had (nI N) (zup σ ca (hPut (σ ca) r (nI b) (nI a) (nI N)))) H := hP
  have hD : va_D A ([(ay, .inl (cI, 60, .inl fy)), (ag, .inl (cI, 12, .inl fg))] ++ zOb cI cZ cH x0 xq xg had (nI N) (zup σ ca (hPut (σ ca) r (nI b) (nI a) (nI N)))) := hD
  refine z_tv (v := nI (N - N % u)) (by rw [hUn1]; exact zst_n hu1 hu2 hN) ?_
  refine lv_istore (lv' := [(8, .int (nI (N - N % u))), (7, .int (nI N)), (0, .ref x0), (1, .ref ay), (2, .ref ag), (3, .int (nI ca)), (4, .int (nI r)), (5, .int (nI b)), (6, .int (nI a))]) hx hb dL_isPut_17 hl (by decide) rfl (fun ls hl => ?_)
  refine lv_aload_n hx hb dL_isPut_19 rfl (lv_at hl 3 rfl) ?_
  refine lv_bipush (v := 20) hx hb dL_isPut_20 (by decide) ?_
  refine lv_iload_n hx hb dL_isPut_22 rfl (lv_at hl 5 rfl) ?_
  refine lv_imul hx hb dL_isPut_23 ?_
  refine z_tv (v := nI (20 * ca)) (pk_mul 20 ca) ?_
  refine lv_iload hx hb dL_isPut_24 (lv_at hl 6 rfl) ?_
  refine lv_iadd hx hb dL_isPut_26 ?_
  refine z_tv (v := nI (20 * ca + r)) (nI_add (20 * ca) r) ?_
  refine lv_iload hx hb dL_isPut_27 (lv_at hl 8 rfl) ?_
  refine lv_iload hx hb dL_isPut_29 (lv_at hl 7 rfl) ?_
  refine lv_bipush (v := 10) hx hb dL_isPut_31 (by decide) ?_
  refine lv_ishl hx hb dL_isPut_33 ?_
  refine z_tv (v := (nI b) <<< 10) (congrArg (fun z => (nI b) <<< z) (show (10 : Int32) &&& 31 = 10 by decide)) ?_
  refine lv_ior hx hb dL_isPut_34 ?_
  refine lv_iload hx hb dL_isPut_35 (lv_at hl 0 rfl) ?_
  refine lv_bipush (v := 14) hx hb dL_isPut_37 (by decide) ?_
  refine lv_ishl hx hb dL_isPut_39 ?_
  refine z_tv (v := (nI (N - N % u)) <<< 14) (congrArg (fun z => (nI (N - N % u)) <<< z) (show (14 : Int32) &&& 31 = 14 by decide)) ?_
  refine lv_ior hx hb dL_isPut_40 ?_
  refine z_tv (v := zenN a b (N - N % u)) (zen_m ha hb9 (by omega)) ?_
  refine z_iast hx hb hK hP hD hS 0 rfl (zix_nI (by first | assumption | omega) (by decide)) dL_isPut_41 (fun H locs hP hD hS => ?_)
  have hP : va_P (dC, dI) vwCl ([(ay, .inl (cI, 60, .inl (upd fy (20 * ca + r) (zenN a b (N - N % u))))), (ag, .inl (cI, 12, .inl fg))] ++ zOb cI cZ cH x0 xq xg had (nI N) (zup σ ca (hPut (σ ca) r (nI b) (nI a) (nI N)))) H := hP
  have hD : va_D A ([(ay, .inl (cI, 60, .inl (upd fy (20 * ca + r) (zenN a b (N - N % u))))), (ag, .inl (cI, 12, .inl fg))] ++ zOb cI cZ cH x0 xq xg had (nI N) (zup σ ca (hPut (σ ca) r (nI b) (nI a) (nI N)))) := hD
  refine lv_iload hx hb dL_isPut_42 (lv_at hl 0 rfl) ?_
  refine lv_aload_n hx hb dL_isPut_44 rfl (lv_at hl 4 rfl) ?_
  refine lv_iconst (v := 4) hx hb dL_isPut_45 (by decide) ?_
  refine lv_iload_n hx hb dL_isPut_46 rfl (lv_at hl 5 rfl) ?_
  refine lv_imul hx hb dL_isPut_47 ?_
  refine z_tv (v := nI (4 * ca)) (pk_mul 4 ca) ?_
  refine z_iald hx hb hK hP 1 rfl (zix_nI (by first | assumption | omega) (by decide)) dL_isPut_48 ?_
  refine z_tv (v := fg (4 * ca)) (rfl) ?_
  refine z_tv (v := nI u) (hg0) ?_
  refine lv_irem hx hb dL_isPut_49 (nI_ne0 (by omega) (by omega)) ?_
  refine z_tv (v := 0) (zmod0 hu1 hu2 hN) ?_
  refine lv_if_ne (tgt := 77) hx hb dL_isPut_50 (by decide) (fun c_50 => absurd c_50 (by decide)) (fun c_50 => ?_)
  refine lv_iload hx hb dL_isPut_53 (lv_at hl 0 rfl) ?_
  refine lv_iload hx hb dL_isPut_55 (lv_at hl 1 rfl) ?_
  refine lv_icmp_gt (tgt := 77) hx hb dL_isPut_57 (by decide) (fun c_57 => absurd c_57 (nI_nlt (Nat.sub_le _ _) (by omega))) (fun c_57 => ?_)
  refine lv_iload hx hb dL_isPut_60 (lv_at hl 0 rfl) ?_
  refine lv_aload_n hx hb dL_isPut_62 rfl (lv_at hl 4 rfl) ?_
  refine lv_iconst (v := 4) hx hb dL_isPut_63 (by decide) ?_
  refine lv_iload_n hx hb dL_isPut_64 rfl (lv_at hl 5 rfl) ?_
  refine lv_imul hx hb dL_isPut_65 ?_
  refine z_tv (v := nI (4 * ca)) (pk_mul 4 ca) ?_
  refine z_iald hx hb hK hP 1 rfl (zix_nI (by first | assumption | omega) (by decide)) dL_isPut_66 ?_
  refine z_tv (v := fg (4 * ca)) (rfl) ?_
  refine z_tv (v := nI u) (hg0) ?_
  refine lv_iadd hx hb dL_isPut_67 ?_
  refine z_tv (v := nI ((N - N % u) + u)) (nI_add (N - N % u) u) ?_
  refine lv_iload hx hb dL_isPut_68 (lv_at hl 1 rfl) ?_
  refine lv_icmp_le (tgt := 77) hx hb dL_isPut_70 (by decide) (fun c_70 => absurd c_70 (nI_ge (by omega) (by omega))) (fun c_70 => ?_)
  refine lv_iconst (v := 1) hx hb dL_isPut_73 (by decide) ?_
  refine lv_goto (tgt := 78) hx hb dL_isPut_74 (by decide) ?_
  exact W.zret (ty := .boolean) hx hb hr (rfl) (fun t ht hW => ⟨rfl, ⟨by rw [ht]; exact hP, hD⟩, hS.F ht⟩) hS.2.2 dL_isPut_78
set_option maxHeartbeats 8000000 in
set_option maxRecDepth 100000 in
/-- isRemoved: not there -/
theorem kL_isRemoved_no (l : Launch) (dC : Nat → ClassId) (dI : Nat → Nat → Nat) (cI cZ cH cJ : ClassId) (x0 : Nat) (xq : Nat) (xg : Nat → Option Nat) (had : Nat → Nat → Nat) (hg : ∀ i, i < 4 → xg i = some (had i 0)) (σ : Nat → zHS) (N : Nat) (hN : N ≤ 5000) (ay : Nat) (ad : Nat) (ag : Nat) (fy : zI) (ca : Nat) (hc3 : ca < 3) (r : Nat) (hrr : r < 20) (hy0 : fy (20 * ca + r) < 0) (hk1 : hFT (σ ca) r = 0) (hst : l.stackTraces = false) : Met l yL_isRemoved wsL_isRemoved ({ frames := 10, cells := 1, slots := 6, locals := 181 }) (zYc dC dI (zTy cI cZ cH cJ) [.ref x0, .ref ay, .ref ad, .ref ag, .int (nI ca), .int (nI r)] ([(ay, .inl (cI, 60, .inl fy))] ++ zOb cI cZ cH x0 xq xg had (nI N) σ)) (zSg 1) 1 6 (fun _ => False) := by
  refine Met.ofW (cc := cL_isRemoved) (maxL := 8) (ret := (some .boolean)) (by decide) rfl ?_
  intro p e s m args below meth c s₁ B hml hv0
  obtain ⟨rfl, ⟨hT, hNc⟩, hP, hK⟩ := hv0
  have hx := B.exec
  have hb := B.bytes
  have hr := B.returns
  have hts := atoms_spec (ws := wsL_isRemoved) B.pre
  have hown : s.vm.findClass RL = some m.cls := findClass_of_methodNamed B.named
  have hlocks := B.notSynchronized
  have hS : va_S (fun q : Nat => s.heap.size ≤ q) s.heap s.heap [] := va_S.rf
  have hA : ∀ q : Nat, s.heap.size ≤ q → (fun q : Nat => s.heap.size ≤ q) q := fun q h => h
  obtain ⟨hT1, hT2, hT3, hT4⟩ := hT
  have hT5 := hNc
  have hz1 : s.heap.size ≤ s.heap.size := Nat.le_refl _
  have hk1 : ∀ q : Nat, q < s.heap.size → s.heap[q]? = s.heap[q]? := fun _ _ => rfl
  have hl := lv_entry ([.ref x0, .ref ay, .ref ad, .ref ag, .int (nI ca), .int (nI r)]) (n := 8) (Nat.le_of_ble_eq_true rfl)
  rw [lg_entry_eq]
  generalize (lg_sl ([.ref x0, .ref ay, .ref ad, .ref ag, .int (nI ca), .int (nI r)]) ++ List.replicate (8 - (lg_sl ([.ref x0, .ref ay, .ref ad, .ref ag, .int (nI ca), .int (nI r)])).length) Slot.unset).toArray = ls at hl ⊢
  have hl : lv_has ls 8 [(0, .ref x0), (1, .ref ay), (2, .ref ad), (3, .ref ag), (4, .int (nI ca)), (5, .int (nI r))] := hl
  have hca : ca < 4 := by omega
  refine lv_bipush (v := 20) hx hb dL_isRemoved_0 (by decide) ?_
  refine lv_iload hx hb dL_isRemoved_2 (lv_at hl 4 rfl) ?_
  refine lv_imul hx hb dL_isRemoved_4 ?_
  refine z_tv (v := nI (20 * ca)) (pk_mul 20 ca) ?_
  refine lv_iload hx hb dL_isRemoved_5 (lv_at hl 5 rfl) ?_
  refine lv_iadd hx hb dL_isRemoved_7 ?_
  refine z_tv (v := nI (20 * ca + r)) (nI_add (20 * ca) r) ?_
  refine lv_istore (lv' := [(6, .int (nI (20 * ca + r))), (0, .ref x0), (1, .ref ay), (2, .ref ad), (3, .ref ag), (4, .int (nI ca)), (5, .int (nI r))]) hx hb dL_isRemoved_8 hl (by decide) rfl (fun ls hl => ?_)
  refine lv_aload_n hx hb dL_isRemoved_10 rfl (lv_at hl 2 rfl) ?_
  refine lv_iload hx hb dL_isRemoved_11 (lv_at hl 0 rfl) ?_
  refine z_iald hx hb hK hP 0 rfl (zix_nI (by first | assumption | omega) (by decide)) dL_isRemoved_13 ?_
  refine z_tv (v := fy (20 * ca + r)) (rfl) ?_
  refine lv_if_ge (tgt := 40) hx hb dL_isRemoved_14 (by decide) (fun c_14 => absurd c_14 (nlt_le hy0)) (fun c_14 => ?_)
  refine lv_aload_n hx hb dL_isRemoved_17 rfl (lv_at hl 1 rfl) ?_
  refine lv_iconst (v := 2) hx hb dL_isRemoved_18 (by decide) ?_
  refine lv_iload hx hb dL_isRemoved_19 (lv_at hl 5 rfl) ?_
  refine lv_iload hx hb dL_isRemoved_21 (lv_at hl 6 rfl) ?_
  refine lv_iconst (v := 0) hx hb dL_isRemoved_23 (by decide) ?_
  refine lv_iconst (v := 0) hx hb dL_isRemoved_24 (by decide) ?_
  refine z_cG (vx_runSW (As := [.ref x0, .int 2, .int (nI ca), .int (nI r), .int 0, .int 0]) (rest := []) ⟨hx, hb, hml, hown, hts⟩ (kL_far_n2 l dC dI cI cZ cH cJ x0 xq (nI N) xg had hg σ ca (by first | assumption | omega) r (by first | assumption | omega) (by first | assumption | omega) 0 0 hst) (vx_cwSW 6 hts gL_isRemoved_L_far rfl rfl rfl (by decide +kernel) ⟨Nat.le_of_ble_eq_true rfl, Nat.le_of_ble_eq_true rfl⟩) (zPreY1 hS hA hT1 hT2 hT3 hT4 hT5 hK (zP_r hP)) rfl rfl hl.1 rfl (lv_room (Nat.le_of_ble_eq_true rfl)) dL_isRemoved_25 ⟨show _ ≤ 1 by omega, show _ ≤ 6 by omega⟩) hS (fun H hz1 hk1 hS => ?_)
  have hP := z_kept hP hk1
  have hP : va_P (dC, dI) vwCl ([(ay, .inl (cI, 60, .inl fy))] ++ zOb cI cZ cH x0 xq xg had (nI N) σ) H := hP
  refine z_tv (v := (-993)) rfl ?_
  refine lv_sipush (v := (-993)) hx hb dL_isRemoved_28 (by decide) ?_
  refine lv_icmp_ne (tgt := 38) hx hb dL_isRemoved_31 (by decide) (fun c_31 => absurd c_31 (by decide)) (fun c_31 => ?_)
  refine lv_iconst (v := 1) hx hb dL_isRemoved_34 (by decide) ?_
  refine lv_goto (tgt := 39) hx hb dL_isRemoved_35 (by decide) ?_
  exact W.zret (ty := .boolean) hx hb hr (rfl) (fun t ht hW => ⟨rfl, by rw [ht]; exact hS.1, fun q hq => by rw [ht]; exact hS.2.1 q hq (Nat.not_le.mpr hq)⟩) (fun _ h => nomatch h) dL_isRemoved_39
set_option maxHeartbeats 8000000 in
set_option maxRecDepth 100000 in
/-- isRemoved -/
theorem kL_isRemoved (l : Launch) (dC : Nat → ClassId) (dI : Nat → Nat → Nat) (cI cZ cH cJ : ClassId) (x0 : Nat) (xq : Nat) (xg : Nat → Option Nat) (had : Nat → Nat → Nat) (hg : ∀ i, i < 4 → xg i = some (had i 0)) (σ : Nat → zHS) (N : Nat) (hN : N ≤ 5000) (ay : Nat) (ad : Nat) (ag : Nat) (fy : zI) (fd : zI) (fg : zI) (ca : Nat) (hc3 : ca < 3) (r : Nat) (hrr : r < 20) (hy0 : 0 ≤ fy (20 * ca + r)) (hk1 : ¬ hFT (σ ca) r = 0) (u : Nat) (hu1 : 1 ≤ u) (hu2 : u ≤ 30) (hUn1 : hUn (σ ca) = nI u) (hg0 : fg (4 * ca) = nI u) (w : Nat) (hw2 : w ≤ 2) (hDe1 : hDe (σ ca) = nI w) (hg1 : fg (4 * ca + 1) = nI w) (sz : Nat) : Met l yL_isRemoved wsL_isRemoved ({ frames := 4, cells := 0, slots := 0, locals := 92 }) (zPc dC dI (zTy cI cZ cH cJ) [.ref x0, .ref ay, .ref ad, .ref ag, .int (nI ca), .int (nI r)] sz ([(ay, .inl (cI, 60, .inl fy)), (ad, .inl (cI, 60, .inl fd)), (ag, .inl (cI, 12, .inl fg))] ++ zOb cI cZ cH x0 xq xg had (nI N) σ)) (zQi dC dI 1 ([(ay, .inl (cI, 60, .inl (upd fy (20 * ca + r) (if w = 2 then -1 else -2 - nI (N - N % u))))), (ad, .inl (cI, 60, .inl (upd fd (20 * ca + r) (nI N)))), (ag, .inl (cI, 12, .inl fg))] ++ zOb cI cZ cH x0 xq xg had (nI N) (zup σ ca (hRem (σ ca) r (nI N)))) (va_A ([(ay, .inl (cI, 60, .inl fy)), (ad, .inl (cI, 60, .inl fd)), (ag, .inl (cI, 12, .inl fg))] ++ zOb cI cZ cH x0 xq xg had (nI N) σ) sz)) 0 0 (va_A ([(ay, .inl (cI, 60, .inl fy)), (ad, .inl (cI, 60, .inl fd)), (ag, .inl (cI, 12, .inl fg))] ++ zOb cI cZ cH x0 xq xg had (nI N) σ) sz) := by
  refine Met.ofW (cc := cL_isRemoved) (maxL := 8) (ret := (some .boolean)) (by decide) rfl ?_
  intro p e s m args below meth c s₁ B hml hv0
  obtain ⟨rfl, hsz, hP, hK, hD0⟩ := hv0
  have hx := B.exec
  have hb := B.bytes
  have hr := B.returns
  have hts := atoms_spec (ws := wsL_isRemoved) B.pre
  have hown : s.vm.findClass RL = some m.cls := findClass_of_methodNamed B.named
  have hlocks := B.notSynchronized
  subst hsz
  have hD := hD0.self (sz := s.heap.size)
  generalize hAe : va_A ([(ay, .inl (cI, 60, .inl fy)), (ad, .inl (cI, 60, .inl fd)), (ag, .inl (cI, 12, .inl fg))] ++ zOb cI cZ cH x0 xq xg had (nI N) σ) s.heap.size = A at hD ⊢
  have hA : ∀ q : Nat, s.heap.size ≤ q → A q := fun q h => by rw [← hAe]; exact Or.inr h
  have hS : va_S A s.heap s.heap [] := va_S.rf
  have hl := lv_entry ([.ref x0, .ref ay, .ref ad, .ref ag, .int (nI ca), .int (nI r)]) (n := 8) (Nat.le_of_ble_eq_true rfl)
  rw [lg_entry_eq]
  generalize (lg_sl ([.ref x0, .ref ay, .ref ad, .ref ag, .int (nI ca), .int (nI r)]) ++ List.replicate (8 - (lg_sl ([.ref x0, .ref ay, .ref ad, .ref ag, .int (nI ca), .int (nI r)])).length) Slot.unset).toArray = ls at hl ⊢
  have hl : lv_has ls 8 [(0, .ref x0), (1, .ref ay), (2, .ref ad), (3, .ref ag), (4, .int (nI ca)), (5, .int (nI r))] := hl
  have hm1 : N % u < u := Nat.mod_lt _ (by omega)
  have hm2 : N % u ≤ N := Nat.mod_le _ _
  have hca : ca < 4 := by omega
  refine lv_bipush (v := 20) hx hb dL_isRemoved_0 (by decide) ?_
  refine lv_iload hx hb dL_isRemoved_2 (lv_at hl 4 rfl) ?_
  refine lv_imul hx hb dL_isRemoved_4 ?_
  refine z_tv (v := nI (20 * ca)) (pk_mul 20 ca) ?_
  refine lv_iload hx hb dL_isRemoved_5 (lv_at hl 5 rfl) ?_
  refine lv_iadd hx hb dL_isRemoved_7 ?_
  refine z_tv (v := nI (20 * ca + r)) (nI_add (20 * ca) r) ?_
  refine lv_istore (lv' := [(6, .int (nI (20 * ca + r))), (0, .ref x0), (1, .ref ay), (2, .ref ad), (3, .ref ag), (4, .int (nI ca)), (5, .int (nI r))]) hx hb dL_isRemoved_8 hl (by decide) rfl (fun ls hl => ?_)
  refine lv_aload_n hx hb dL_isRemoved_10 rfl (lv_at hl 2 rfl) ?_
  refine lv_iload hx hb dL_isRemoved_11 (lv_at hl 0 rfl) ?_
  refine z_iald hx hb hK hP 0 rfl (zix_nI (by first | assumption | omega) (by decide)) dL_isRemoved_13 ?_
  refine z_tv (v := fy (20 * ca + r)) (rfl) ?_
  refine lv_if_ge (tgt := 40) hx hb dL_isRemoved_14 (by decide) (fun c_14 => ?_) (fun c_14 => absurd hy0 c_14)
  refine lv_aload_n hx hb dL_isRemoved_40 rfl (lv_at hl 4 rfl) ?_
  refine lv_iconst (v := 4) hx hb dL_isRemoved_41 (by decide) ?_
  refine lv_iload hx hb dL_isRemoved_42 (lv_at hl 5 rfl) ?_
  refine lv_imul hx hb dL_isRemoved_44 ?_
  refine z_tv (v := nI (4 * ca)) (pk_mul 4 ca) ?_
  refine lv_iconst (v := 1) hx hb dL_isRemoved_45 (by decide) ?_
  refine lv_iadd hx hb dL_isRemoved_46 ?_
  refine z_tv (v := nI ((4 * ca) + 1)) (nI_1 (4 * ca)) ?_
  refine z_iald hx hb hK hP 2 rfl (zix_nI (by first | assumption | omega) (by decide)) dL_isRemoved_47 ?_
  refine z_tv (v := fg ((4 * ca) + 1)) (rfl) ?_
  refine z_tv (v := nI w) (hg1) ?_
  refine lv_iconst (v := 2) hx hb dL_isRemoved_48 (by decide) ?_
  refine lv_icmp_eq (tgt := 56) hx hb dL_isRemoved_49 (by decide) (fun c_49 => ?_) (fun c_49 => ?_)
  · skip
    refine lv_iconst (v := 0) hx hb dL_isRemoved_56 (by decide) ?_
    refine lv_istore (lv' := [(7, .int 0), (6, .int (nI (20 * ca + r))), (0, .ref x0), (1, .ref ay), (2, .ref ad), (3, .ref ag), (4, .int (nI ca)), (5, .int (nI r))]) hx hb dL_isRemoved_57 hl (by decide) rfl (fun ls hl => ?_)
    refine lv_aload_n hx hb dL_isRemoved_59 rfl (lv_at hl 3 rfl) ?_
    refine lv_iload hx hb dL_isRemoved_60 (lv_at hl 1 rfl) ?_
    refine lv_iload hx hb dL_isRemoved_62 (lv_at hl 0 rfl) ?_
    refine lv_if_eq (tgt := 89) hx hb dL_isRemoved_64 (by decide) (fun c_64 => ?_) (fun c_64 => absurd c_64 (by decide))
    refine lv_iconst (v := (-1)) hx hb dL_isRemoved_89 (by decide) ?_
    refine z_iast hx hb hK hP hD hS 0 rfl (zix_nI (by first | assumption | omega) (by decide)) dL_isRemoved_90 (fun H locs hP hD hS => ?_)
    have hP : va_P (dC, dI) vwCl ([(ay, .inl (cI, 60, .inl (upd fy (20 * ca + r) (-1)))), (ad, .inl (cI, 60, .inl fd)), (ag, .inl (cI, 12, .inl fg))] ++ zOb cI cZ cH x0 xq xg had (nI N) σ) H := hP
    have hD : va_D A ([(ay, .inl (cI, 60, .inl (upd fy (20 * ca + r) (-1)))), (ad, .inl (cI, 60, .inl fd)), (ag, .inl (cI, 12, .inl fg))] ++ zOb cI cZ cH x0 xq xg had (nI N) σ) := hD
    refine lv_aload_n hx hb dL_isRemoved_91 rfl (lv_at hl 4 rfl) ?_
    refine lv_iload hx hb dL_isRemoved_92 (lv_at hl 1 rfl) ?_
    refine lv_aload_n hx hb dL_isRemoved_94 rfl (lv_at hl 2 rfl) ?_
    refine z_cRi (va_runV (As := []) (rest := [.int (nI (20 * ca + r)), .ref ad]) ⟨hx, hb, hml, hown, hts⟩ (c_today l dC dI cI cZ cH cJ x0 xq (nI N) xg had hg σ) (cwV 0 hts gL_isRemoved_X3_today rfl rfl rfl (by decide +kernel) ⟨Nat.le_of_ble_eq_true rfl, Nat.le_of_ble_eq_true rfl⟩) (zPreR1 hK (zP_r hP) (zrecv hK (zP_r hP))) rfl rfl hl.1 rfl (lv_room (Nat.le_of_ble_eq_true rfl)) dL_isRemoved_95 ⟨Nat.le_of_ble_eq_true rfl, Nat.le_of_ble_eq_true rfl⟩) ?_
    refine z_tv (v := nI N) rfl ?_
    refine z_iast hx hb hK hP hD hS 1 rfl (zix_nI (by first | assumption | omega) (by decide)) dL_isRemoved_98 (fun H locs hP hD hS => ?_)
    have hP : va_P (dC, dI) vwCl ([(ay, .inl (cI, 60, .inl (upd fy (20 * ca + r) (-1)))), (ad, .inl (cI, 60, .inl (upd fd (20 * ca + r) (nI N)))), (ag, .inl (cI, 12, .inl fg))] ++ zOb cI cZ cH x0 xq xg had (nI N) σ) H := hP
    have hD : va_D A ([(ay, .inl (cI, 60, .inl (upd fy (20 * ca + r) (-1)))), (ad, .inl (cI, 60, .inl (upd fd (20 * ca + r) (nI N)))), (ag, .inl (cI, 12, .inl fg))] ++ zOb cI cZ cH x0 xq xg had (nI N) σ) := hD
    refine lv_aload_n hx hb dL_isRemoved_99 rfl (lv_at hl 2 rfl) ?_
    refine lv_iconst (v := 2) hx hb dL_isRemoved_100 (by decide) ?_
    refine lv_iload hx hb dL_isRemoved_101 (lv_at hl 6 rfl) ?_
    refine lv_iload hx hb dL_isRemoved_103 (lv_at hl 7 rfl) ?_
    refine lv_iconst (v := 0) hx hb dL_isRemoved_105 (by decide) ?_
    refine lv_iconst (v := 0) hx hb dL_isRemoved_106 (by decide) ?_
    refine z_cGi (wr := [(ay, .inl (cI, 60, .inl (upd fy (20 * ca + r) (-1)))), (ad, .inl (cI, 60, .inl (upd fd (20 * ca + r) (nI N)))), (ag, .inl (cI, 12, .inl fg))]) (big1 := [(ay, .inl (cI, 60, .inl (upd fy (20 * ca + r) (-1)))), (ad, .inl (cI, 60, .inl (upd fd (20 * ca + r) (nI N)))), (ag, .inl (cI, 12, .inl fg))] ++ zOb cI cZ cH x0 xq xg had (nI N) (zup σ ca (hRem (σ ca) r (nI N)))) (vx_runSW (As := [.ref x0, .int 2, .int (nI ca), .int (nI r), .int 0, .int 0]) (rest := []) ⟨hx, hb, hml, hown, hts⟩ (kL_far_rem l dC dI cI cZ cH cJ x0 xq (nI N) xg had hg σ ca (by first | assumption | omega) r (by first | assumption | omega) (by first | assumption | omega) H.size) (vx_cwSW 6 hts gL_isRemoved_L_far rfl rfl rfl (by decide +kernel) ⟨Nat.le_of_ble_eq_true rfl, Nat.le_of_ble_eq_true rfl⟩) (zPreS1 hK (zP_r hP) (zD_r hD)) rfl rfl hl.1 rfl (lv_room (Nat.le_of_ble_eq_true rfl)) dL_isRemoved_107 ⟨Nat.le_of_ble_eq_true rfl, Nat.le_of_ble_eq_true rfl⟩) hP hD hS hA (zeq_comm _ _) (zeq_comm _ _) (fun H locs hP hD hS => ?_)
    have hP : va_P (dC, dI) vwCl ([(ay, .inl (cI, 60, .inl (upd fy (20 * ca + r) (-1)))), (ad, .inl (cI, 60, .inl (upd fd (20 * ca + r) (nI N)))), (ag, .inl (cI, 12, .inl fg))] ++ zOb cI cZ cH x0 xq xg had (nI N) (zup σ ca (hRem (σ ca) r (nI N)))) H := hP
    have hD : va_D A ([(ay, .inl (cI, 60, .inl (upd fy (20 * ca + r) (-1)))), (ad, .inl (cI, 60, .inl (upd fd (20 * ca + r) (nI N)))), (ag, .inl (cI, 12, .inl fg))] ++ zOb cI cZ cH x0 xq xg had (nI N) (zup σ ca (hRem (σ ca) r (nI N)))) := hD
    refine z_tv (v := 0) (by rw [hDe1, c_49]; decide) ?_
    refine lv_iload hx hb dL_isRemoved_110 (lv_at hl 0 rfl) ?_
    refine lv_if_eq (tgt := 119) hx hb dL_isRemoved_112 (by decide) (fun c_112 => ?_) (fun c_112 => absurd c_112 (by decide))
    refine lv_iconst (v := 0) hx hb dL_isRemoved_119 (by decide) ?_
    refine lv_icmp_ne (tgt := 127) hx hb dL_isRemoved_120 (by decide) (fun c_120 => absurd c_120 (by decide)) (fun c_120 => ?_)
    refine lv_iconst (v := 1) hx hb dL_isRemoved_123 (by decide) ?_
    refine lv_goto (tgt := 128) hx hb dL_isRemoved_124 (by decide) ?_
    have hP := zP_eq (ws' := [(ay, .inl (cI, 60, .inl (upd fy (20 * ca + r) (if w = 2 then -1 else -2 - nI (N - N % u))))), (ad, .inl (cI, 60, .inl (upd fd (20 * ca + r) (nI N)))), (ag, .inl (cI, 12, .inl fg))] ++ zOb cI cZ cH x0 xq xg had (nI N) (zup σ ca (hRem (σ ca) r (nI N)))) hP (zw_t (zw_a (by first | rw [if_pos (zw2 hw2 c_49)] | rw [if_neg (zw2n c_49)]) (zw_k (zw_k (rfl)))) (rfl))
    have hD := zD_eq (ws' := [(ay, .inl (cI, 60, .inl (upd fy (20 * ca + r) (if w = 2 then -1 else -2 - nI (N - N % u))))), (ad, .inl (cI, 60, .inl (upd fd (20 * ca + r) (nI N)))), (ag, .inl (cI, 12, .inl fg))] ++ zOb cI cZ cH x0 xq xg had (nI N) (zup σ ca (hRem (σ ca) r (nI N)))) hD (zw_t (zw_a (by first | rw [if_pos (zw2 hw2 c_49)] | rw [if_neg (zw2n c_49)]) (zw_k (zw_k (rfl)))) (rfl))
    exact W.zret (ty := .boolean) hx hb hr (rfl) (fun t ht hW => ⟨rfl, ⟨by rw [ht]; exact hP, hD⟩, hS.F ht⟩) hS.2.2 dL_isRemoved_128
  · skip
    refine lv_iconst (v := 1) hx hb dL_isRemoved_52 (by decide) ?_
    refine lv_goto (tgt := 57) hx hb dL_isRemoved_53 (by decide) ?_
    refine lv_istore (lv' := [(7, .int 1), (6, .int (nI (20 * ca + r))), (0, .ref x0), (1, .ref ay), (2, .ref ad), (3, .ref ag), (4, .int (nI ca)), (5, .int (nI r))]) hx hb dL_isRemoved_57 hl (by decide) rfl (fun ls hl => ?_)
    refine lv_aload_n hx hb dL_isRemoved_59 rfl (lv_at hl 3 rfl) ?_
    refine lv_iload hx hb dL_isRemoved_60 (lv_at hl 1 rfl) ?_
    refine lv_iload hx hb dL_isRemoved_62 (lv_at hl 0 rfl) ?_
    refine lv_if_eq (tgt := 89) hx hb dL_isRemoved_64 (by decide) (fun c_64 => absurd c_64 (by decide)) (fun c_64 => ?_)
    refine lv_bipush (v := (-2)) hx hb dL_isRemoved_67 (by decide) ?_
    refine lv_aload_n hx hb dL_isRemoved_69 rfl (lv_at hl 2 rfl) ?_
    refine z_cRi (va_runV (As := []) (rest := [.int (-2), .int (nI (20 * ca + r)), .ref ay]) ⟨hx, hb, hml, hown, hts⟩ (c_today l dC dI cI cZ cH cJ x0 xq (nI N) xg had hg σ) (cwV 0 hts gL_isRemoved_X3_today rfl rfl rfl (by decide +kernel) ⟨Nat.le_of_ble_eq_true rfl, Nat.le_of_ble_eq_true rfl⟩) (zPreR1 hK (zP_r hP) (zrecv hK (zP_r hP))) rfl rfl hl.1 rfl (lv_room (Nat.le_of_ble_eq_true rfl)) dL_isRemoved_70 ⟨Nat.le_of_ble_eq_true rfl, Nat.le_of_ble_eq_true rfl⟩) ?_
    refine z_tv (v := nI N) rfl ?_
    refine lv_aload_n hx hb dL_isRemoved_73 rfl (lv_at hl 2 rfl) ?_
    refine z_cRi (va_runV (As := []) (rest := [.int (nI N), .int (-2), .int (nI (20 * ca + r)), .ref ay]) ⟨hx, hb, hml, hown, hts⟩ (c_today l dC dI cI cZ cH cJ x0 xq (nI N) xg had hg σ) (cwV 0 hts gL_isRemoved_X3_today rfl rfl rfl (by decide +kernel) ⟨Nat.le_of_ble_eq_true rfl, Nat.le_of_ble_eq_true rfl⟩) (zPreR1 hK (zP_r hP) (zrecv hK (zP_r hP))) rfl rfl hl.1 rfl (lv_room (Nat.le_of_ble_eq_true rfl)) dL_isRemoved_74 ⟨Nat.le_of_ble_eq_true rfl, Nat.le_of_ble_eq_true rfl⟩) ?_
    refine z_tv (v := nI N) rfl ?_
    refine lv_aload_n hx hb dL_isRemoved_77 rfl (lv_at hl 5 rfl) ?_
    refine lv_iconst (v := 4) hx hb dL_isRemoved_78 (by decide) ?_
    refine lv_iload hx hb dL_isRemoved_79 (lv_at hl 6 rfl) ?_
    refine lv_imul hx hb dL_isRemoved_81 ?_
    refine z_tv (v := nI (4 * ca)) (pk_mul 4 ca) ?_
    refine z_iald hx hb hK hP 2 rfl (zix_nI (by first | assumption | omega) (by decide)) dL_isRemoved_82 ?_
    refine z_tv (v := fg (4 * ca)) (rfl) ?_
    refine z_tv (v := nI u) (hg0) ?_
    refine lv_irem hx hb dL_isRemoved_83 (nI_ne0 (by omega) (by omega)) ?_
    refine z_tv (v := nI (N % u)) (pk_rem (by omega) (by omega) (by omega)) ?_
    refine lv_isub hx hb dL_isRemoved_84 ?_
    refine z_tv (v := nI (N - N % u)) (pk_sub (Nat.mod_le N u)) ?_
    refine lv_isub hx hb dL_isRemoved_85 ?_
    refine lv_goto (tgt := 90) hx hb dL_isRemoved_86 (by decide) ?_
    refine z_iast hx hb hK hP hD hS 0 rfl (zix_nI (by first | assumption | omega) (by decide)) dL_isRemoved_90 (fun H locs hP hD hS => ?_)
    have hP : va_P (dC, dI) vwCl ([(ay, .inl (cI, 60, .inl (upd fy (20 * ca + r) ((-2) - (nI (N - N % u)))))), (ad, .inl (cI, 60, .inl fd)), (ag, .inl (cI, 12, .inl fg))] ++ zOb cI cZ cH x0 xq xg had (nI N) σ) H := hP
    have hD : va_D A ([(ay, .inl (cI, 60, .inl (upd fy (20 * ca + r) ((-2) - (nI (N - N % u)))))), (ad, .inl (cI, 60, .inl fd)), (ag, .inl (cI, 12, .inl fg))] ++ zOb cI cZ cH x0 xq xg had (nI N) σ) := hD
    refine lv_aload_n hx hb dL_isRemoved_91 rfl (lv_at hl 4 rfl) ?_
    refine lv_iload hx hb dL_isRemoved_92 (lv_at hl 1 rfl) ?_
    refine lv_aload_n hx hb dL_isRemoved_94 rfl (lv_at hl 2 rfl) ?_
    refine z_cRi (va_runV (As := []) (rest := [.int (nI (20 * ca + r)), .ref ad]) ⟨hx, hb, hml, hown, hts⟩ (c_today l dC dI cI cZ cH cJ x0 xq (nI N) xg had hg σ) (cwV 0 hts gL_isRemoved_X3_today rfl rfl rfl (by decide +kernel) ⟨Nat.le_of_ble_eq_true rfl, Nat.le_of_ble_eq_true rfl⟩) (zPreR1 hK (zP_r hP) (zrecv hK (zP_r hP))) rfl rfl hl.1 rfl (lv_room (Nat.le_of_ble_eq_true rfl)) dL_isRemoved_95 ⟨Nat.le_of_ble_eq_true rfl, Nat.le_of_ble_eq_true rfl⟩) ?_
    refine z_tv (v := nI N) rfl ?_
    refine z_iast hx hb hK hP hD hS 1 rfl (zix_nI (by first | assumption | omega) (by decide)) dL_isRemoved_98 (fun H locs hP hD hS => ?_)
    have hP : va_P (dC, dI) vwCl ([(ay, .inl (cI, 60, .inl (upd fy (20 * ca + r) ((-2) - (nI (N - N % u)))))), (ad, .inl (cI, 60, .inl (upd fd (20 * ca + r) (nI N)))), (ag, .inl (cI, 12, .inl fg))] ++ zOb cI cZ cH x0 xq xg had (nI N) σ) H := hP
    have hD : va_D A ([(ay, .inl (cI, 60, .inl (upd fy (20 * ca + r) ((-2) - (nI (N - N % u)))))), (ad, .inl (cI, 60, .inl (upd fd (20 * ca + r) (nI N)))), (ag, .inl (cI, 12, .inl fg))] ++ zOb cI cZ cH x0 xq xg had (nI N) σ) := hD
    refine lv_aload_n hx hb dL_isRemoved_99 rfl (lv_at hl 2 rfl) ?_
    refine lv_iconst (v := 2) hx hb dL_isRemoved_100 (by decide) ?_
    refine lv_iload hx hb dL_isRemoved_101 (lv_at hl 6 rfl) ?_
    refine lv_iload hx hb dL_isRemoved_103 (lv_at hl 7 rfl) ?_
    refine lv_iconst (v := 0) hx hb dL_isRemoved_105 (by decide) ?_
    refine lv_iconst (v := 0) hx hb dL_isRemoved_106 (by decide) ?_
    refine z_cGi (wr := [(ay, .inl (cI, 60, .inl (upd fy (20 * ca + r) ((-2) - (nI (N - N % u)))))), (ad, .inl (cI, 60, .inl (upd fd (20 * ca + r) (nI N)))), (ag, .inl (cI, 12, .inl fg))]) (big1 := [(ay, .inl (cI, 60, .inl (upd fy (20 * ca + r) ((-2) - (nI (N - N % u)))))), (ad, .inl (cI, 60, .inl (upd fd (20 * ca + r) (nI N)))), (ag, .inl (cI, 12, .inl fg))] ++ zOb cI cZ cH x0 xq xg had (nI N) (zup σ ca (hRem (σ ca) r (nI N)))) (vx_runSW (As := [.ref x0, .int 2, .int (nI ca), .int (nI r), .int 0, .int 0]) (rest := []) ⟨hx, hb, hml, hown, hts⟩ (kL_far_rem l dC dI cI cZ cH cJ x0 xq (nI N) xg had hg σ ca (by first | assumption | omega) r (by first | assumption | omega) (by first | assumption | omega) H.size) (vx_cwSW 6 hts gL_isRemoved_L_far rfl rfl rfl (by decide +kernel) ⟨Nat.le_of_ble_eq_true rfl, Nat.le_of_ble_eq_true rfl⟩) (zPreS1 hK (zP_r hP) (zD_r hD)) rfl rfl hl.1 rfl (lv_room (Nat.le_of_ble_eq_true rfl)) dL_isRemoved_107 ⟨Nat.le_of_ble_eq_true rfl, Nat.le_of_ble_eq_true rfl⟩) hP hD hS hA (zeq_comm _ _) (zeq_comm _ _) (fun H locs hP hD hS => ?_)
    have hP : va_P (dC, dI) vwCl ([(ay, .inl (cI, 60, .inl (upd fy (20 * ca + r) ((-2) - (nI (N - N % u)))))), (ad, .inl (cI, 60, .inl (upd fd (20 * ca + r) (nI N)))), (ag, .inl (cI, 12, .inl fg))] ++ zOb cI cZ cH x0 xq xg had (nI N) (zup σ ca (hRem (σ ca) r (nI N)))) H := hP
    have hD : va_D A ([(ay, .inl (cI, 60, .inl (upd fy (20 * ca + r) ((-2) - (nI (N - N % u)))))), (ad, .inl (cI, 60, .inl (upd fd (20 * ca + r) (nI N)))), (ag, .inl (cI, 12, .inl fg))] ++ zOb cI cZ cH x0 xq xg had (nI N) (zup σ ca (hRem (σ ca) r (nI N)))) := hD
    refine z_tv (v := 1) (by rw [hDe1, if_pos]; exact c_49) ?_
    refine lv_iload hx hb dL_isRemoved_110 (lv_at hl 0 rfl) ?_
    refine lv_if_eq (tgt := 119) hx hb dL_isRemoved_112 (by decide) (fun c_112 => absurd c_112 (by decide)) (fun c_112 => ?_)
    refine lv_iconst (v := 1) hx hb dL_isRemoved_115 (by decide) ?_
    refine lv_goto (tgt := 120) hx hb dL_isRemoved_116 (by decide) ?_
    refine lv_icmp_ne (tgt := 127) hx hb dL_isRemoved_120 (by decide) (fun c_120 => absurd c_120 (by decide)) (fun c_120 => ?_)
    refine lv_iconst (v := 1) hx hb dL_isRemoved_123 (by decide) ?_
    refine lv_goto (tgt := 128) hx hb dL_isRemoved_124 (by decide) ?_
    have hP := zP_eq (ws' := [(ay, .inl (cI, 60, .inl (upd fy (20 * ca + r) (if w = 2 then -1 else -2 - nI (N - N % u))))), (ad, .inl (cI, 60, .inl (upd fd (20 * ca + r) (nI N)))), (ag, .inl (cI, 12, .inl fg))] ++ zOb cI cZ cH x0 xq xg had (nI N) (zup σ ca (hRem (σ ca) r (nI N)))) hP (zw_t (zw_a (by first | rw [if_pos (zw2 hw2 c_49)] | rw [if_neg (zw2n c_49)]) (zw_k (zw_k (rfl)))) (rfl))
    have hD := zD_eq (ws' := [(ay, .inl (cI, 60, .inl (upd fy (20 * ca + r) (if w = 2 then -1 else -2 - nI (N - N % u))))), (ad, .inl (cI, 60, .inl (upd fd (20 * ca + r) (nI N)))), (ag, .inl (cI, 12, .inl fg))] ++ zOb cI cZ cH x0 xq xg had (nI N) (zup σ ca (hRem (σ ca) r (nI N)))) hD (zw_t (zw_a (by first | rw [if_pos (zw2 hw2 c_49)] | rw [if_neg (zw2n c_49)]) (zw_k (zw_k (rfl)))) (rfl))
    exact W.zret (ty := .boolean) hx hb hr (rfl) (fun t ht hW => ⟨rfl, ⟨by rw [ht]; exact hP, hD⟩, hS.F ht⟩) hS.2.2 dL_isRemoved_128
