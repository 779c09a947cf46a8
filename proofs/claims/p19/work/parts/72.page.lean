set_option maxHeartbeats 8000000 in
set_option maxRecDepth 100000 in
/-- isPage_f1 -/
theorem kL_isPage_f1 (l : Launch) (dC : Nat → ClassId) (dI : Nat → Nat → Nat) (cI cZ cH cJ : ClassId) (x0 : Nat) (xq : Nat) (xg : Nat → Option Nat) (had : Nat → Nat → Nat) (hg : ∀ i, i < 4 → xg i = some (had i 0)) (σ : Nat → zHS) (N : Nat) (hN : N ≤ 5000) (ay : Nat) (az : Nat) (ag : Nat) (fy : zI) (fz : zI) (fg : zI) (fd : zI) (ca : Nat) (hc3 : ca < 3) (xx : zHS) (u : Nat) (w : Nat) (mm : Nat) (fq : zI) (hCF : zCF ca N xx fy fd fq u w mm) (hCZ : zCZ ca N xx fz) (hσx : σ ca = hOpen xx 1 (nI N)) (hg2 : fg (4 * ca + 2) = 2) (sz : Nat) : Met l yL_isPage wsL_isPage ({ frames := 9, cells := 0, slots := 0, locals := 158 }) (zPc dC dI (zTy cI cZ cH cJ) [.ref x0, .ref ay, .ref az, .ref ag, .int (nI ca)] sz ([(ay, .inl (cI, 60, .inl fy)), (az, .inl (cI, 60, .inl fz)), (ag, .inl (cI, 12, .inl fg))] ++ zOb cI cZ cH x0 xq xg had (nI N) σ)) (zQi dC dI 1 ([(ay, .inl (cI, 60, .inl fy)), (az, .inl (cI, 60, .inl fz)), (ag, .inl (cI, 12, .inl (upd fg (4 * ca + 2) (if zlf (hZ xx) 0 0 ≤ 3 then 0 else 2))))] ++ zOb cI cZ cH x0 xq xg had (nI N) (zup σ ca (hReadP (hOpen xx 1 (nI N)) (nI N)).2)) (va_A ([(ay, .inl (cI, 60, .inl fy)), (az, .inl (cI, 60, .inl fz)), (ag, .inl (cI, 12, .inl fg))] ++ zOb cI cZ cH x0 xq xg had (nI N) σ) sz)) 0 0 (va_A ([(ay, .inl (cI, 60, .inl fy)), (az, .inl (cI, 60, .inl fz)), (ag, .inl (cI, 12, .inl fg))] ++ zOb cI cZ cH x0 xq xg had (nI N) σ) sz) := by
  refine Met.ofW (cc := cL_isPage) (maxL := 16) (ret := (some .boolean)) (by decide) rfl ?_
  intro p e s m args below meth c s₁ B hml hv0
  obtain ⟨rfl, hsz, hP, hK, hD0⟩ := hv0
  have hx := B.exec
  have hb := B.bytes
  have hr := B.returns
  have hts := atoms_spec (ws := wsL_isPage) B.pre
  have hown : s.vm.findClass RL = some m.cls := findClass_of_methodNamed B.named
  have hlocks := B.notSynchronized
  subst hsz
  have hD := hD0.self (sz := s.heap.size)
  generalize hAe : va_A ([(ay, .inl (cI, 60, .inl fy)), (az, .inl (cI, 60, .inl fz)), (ag, .inl (cI, 12, .inl fg))] ++ zOb cI cZ cH x0 xq xg had (nI N) σ) s.heap.size = A at hD ⊢
  have hA : ∀ q : Nat, s.heap.size ≤ q → A q := fun q h => by rw [← hAe]; exact Or.inr h
  have hS : va_S A s.heap s.heap [] := va_S.rf
  have hl := lv_entry ([.ref x0, .ref ay, .ref az, .ref ag, .int (nI ca)]) (n := 16) (Nat.le_of_ble_eq_true rfl)
  rw [lg_entry_eq]
  generalize (lg_sl ([.ref x0, .ref ay, .ref az, .ref ag, .int (nI ca)]) ++ List.replicate (16 - (lg_sl ([.ref x0, .ref ay, .ref az, .ref ag, .int (nI ca)])).length) Slot.unset).toArray = ls at hl ⊢
  have hl : lv_has ls 16 [(0, .ref x0), (1, .ref ay), (2, .ref az), (3, .ref ag), (4, .int (nI ca))] := hl
  have hca : ca < 4 := by omega
  have hm1 : mm ≤ N := hCF.1.2.2.2.1
  have hMk1 : hMk xx = nI mm := hCF.1.2.2.2.2.2.2.1
  have hFd : 0 = if (1 : Int32) = 0 then mm else 0 := rfl
  have hff : (1 : Int32) = 0 ∨ (1 : Int32) = 1 := by decide
  have hF5 : 0 ≤ 5000 := by omega
  obtain ⟨r1, r2, r3, r4, r5, r6, -⟩ := z_page (z := fz) hCF hN hF5 hff hFd
  refine lv_aload_n hx hb dL_isPage_0 rfl (lv_at hl 3 rfl) ?_
  refine lv_iconst (v := 4) hx hb dL_isPage_1 (by decide) ?_
  refine lv_iload hx hb dL_isPage_2 (lv_at hl 4 rfl) ?_
  refine lv_imul hx hb dL_isPage_4 ?_
  refine z_tv (v := nI (4 * ca)) (pk_mul 4 ca) ?_
  refine lv_iconst (v := 2) hx hb dL_isPage_5 (by decide) ?_
  refine lv_iadd hx hb dL_isPage_6 ?_
  refine z_tv (v := nI ((4 * ca) + 2)) (nI_add (4 * ca) 2) ?_
  refine z_iald hx hb hK hP 2 rfl (zix_nI (by first | assumption | omega) (by decide)) dL_isPage_7 ?_
  refine z_tv (v := fg ((4 * ca) + 2)) (rfl) ?_
  refine z_tv (v := 2) (hg2) ?_
  refine lv_if_ne (tgt := 31) hx hb dL_isPage_8 (by decide) (fun c_8 => ?_) (fun c_8 => absurd c_8 (by decide))
  refine lv_aload_n hx hb dL_isPage_31 rfl (lv_at hl 0 rfl) ?_
  refine lv_iload hx hb dL_isPage_32 (lv_at hl 4 rfl) ?_
  refine z_cRi (va_runV (As := [.int (nI ca)]) (rest := []) ⟨hx, hb, hml, hown, hts⟩ (c_mark l dC dI cI cZ cH cJ x0 xq (nI N) xg had hg σ ca (by first | assumption | omega)) (cwV 1 hts gL_isPage_X3_mark rfl rfl rfl (by decide +kernel) ⟨Nat.le_of_ble_eq_true rfl, Nat.le_of_ble_eq_true rfl⟩) (zPreR1 hK (zP_r hP) (zrecv hK (zP_r hP))) rfl rfl hl.1 rfl (lv_room (Nat.le_of_ble_eq_true rfl)) dL_isPage_34 ⟨Nat.le_of_ble_eq_true rfl, Nat.le_of_ble_eq_true rfl⟩) ?_
  refine z_tv (v := nI mm) (by rw [hσx]; exact hMk1) ?_
  refine lv_istore (lv' := [(5, .int (nI mm)), (0, .ref x0), (1, .ref ay), (2, .ref az), (3, .ref ag), (4, .int (nI ca))]) hx hb dL_isPage_37 hl (by decide) rfl (fun ls hl => ?_)
  refine lv_aload_n hx hb dL_isPage_39 rfl (lv_at hl 1 rfl) ?_
  refine lv_iload hx hb dL_isPage_40 (lv_at hl 5 rfl) ?_
  refine z_cRi (va_runV (As := [.int (nI ca)]) (rest := []) ⟨hx, hb, hml, hown, hts⟩ (c_wrong l dC dI cI cZ cH cJ x0 xq (nI N) xg had hg σ ca (by first | assumption | omega)) (cwV 1 hts gL_isPage_X3_wrong rfl rfl rfl (by decide +kernel) ⟨Nat.le_of_ble_eq_true rfl, Nat.le_of_ble_eq_true rfl⟩) (zPreR1 hK (zP_r hP) (zrecv hK (zP_r hP))) rfl rfl hl.1 rfl (lv_room (Nat.le_of_ble_eq_true rfl)) dL_isPage_42 ⟨Nat.le_of_ble_eq_true rfl, Nat.le_of_ble_eq_true rfl⟩) ?_
  refine z_tv (v := zcu (hST xx) (hSW xx) (hSV xx) (hSS xx) (hFT xx) (hFW xx) (hFV xx) (hFS xx) 20) (by rw [hσx]; rfl) ?_
  refine lv_istore (lv' := [(6, .int (zcu (hST xx) (hSW xx) (hSV xx) (hSS xx) (hFT xx) (hFW xx) (hFV xx) (hFS xx) 20)), (5, .int (nI mm)), (0, .ref x0), (1, .ref ay), (2, .ref az), (3, .ref ag), (4, .int (nI ca))]) hx hb dL_isPage_45 hl (by decide) rfl (fun ls hl => ?_)
  refine lv_aload_n hx hb dL_isPage_47 rfl (lv_at hl 2 rfl) ?_
  refine lv_iload hx hb dL_isPage_48 (lv_at hl 6 rfl) ?_
  refine z_cGi (wr := [(ay, .inl (cI, 60, .inl fy)), (az, .inl (cI, 60, .inl fz)), (ag, .inl (cI, 12, .inl fg))]) (big1 := [(ay, .inl (cI, 60, .inl fy)), (az, .inl (cI, 60, .inl fz)), (ag, .inl (cI, 12, .inl fg))] ++ zOb cI cZ cH x0 xq xg had (nI N) (zup σ ca (hReadP (σ ca) (nI N)).2)) (va_runV (As := [.int (nI ca)]) (rest := []) ⟨hx, hb, hml, hown, hts⟩ (c_read l dC dI cI cZ cH cJ x0 xq (nI N) xg had hg σ ca (by first | assumption | omega) (by rw [hσx]; exact (show ¬ (1 : Int32) = 0 by decide)) (by rw [hσx]; exact hff) s.heap.size) (cwV 1 hts gL_isPage_X3_read rfl rfl rfl (by decide +kernel) ⟨Nat.le_of_ble_eq_true rfl, Nat.le_of_ble_eq_true rfl⟩) (zPreV1 hK (zP_r hP) (zD_r hD) (zrecv hK (zP_r hP))) rfl rfl hl.1 rfl (lv_room (Nat.le_of_ble_eq_true rfl)) dL_isPage_50 ⟨Nat.le_of_ble_eq_true rfl, Nat.le_of_ble_eq_true rfl⟩) hP hD hS hA (zeq_comm _ _) (zeq_comm _ _) (fun H locs hP hD hS => ?_)
  have hP : va_P (dC, dI) vwCl ([(ay, .inl (cI, 60, .inl fy)), (az, .inl (cI, 60, .inl fz)), (ag, .inl (cI, 12, .inl fg))] ++ zOb cI cZ cH x0 xq xg had (nI N) (zup σ ca (hReadP (σ ca) (nI N)).2)) H := hP
  have hD : va_D A ([(ay, .inl (cI, 60, .inl fy)), (az, .inl (cI, 60, .inl fz)), (ag, .inl (cI, 12, .inl fg))] ++ zOb cI cZ cH x0 xq xg had (nI N) (zup σ ca (hReadP (σ ca) (nI N)).2)) := hD
  refine z_tv (v := nI (min 3 (zlf (hZ xx) 0 0))) (by rw [hσx]; exact r1) ?_
  have hP := zP_eq (ws' := [(ay, .inl (cI, 60, .inl fy)), (az, .inl (cI, 60, .inl fz)), (ag, .inl (cI, 12, .inl fg))] ++ zOb cI cZ cH x0 xq xg had (nI N) (zup σ ca ((hReadP (hOpen xx 1 (nI N)) (nI N)).2))) hP (zw_t rfl (zOb_c (by rw [hσx])))
  have hD := zD_eq (ws' := [(ay, .inl (cI, 60, .inl fy)), (az, .inl (cI, 60, .inl fz)), (ag, .inl (cI, 12, .inl fg))] ++ zOb cI cZ cH x0 xq xg had (nI N) (zup σ ca ((hReadP (hOpen xx 1 (nI N)) (nI N)).2))) hD (zw_t rfl (zOb_c (by rw [hσx])))
  refine lv_istore (lv' := [(7, .int (nI (min 3 (zlf (hZ xx) 0 0)))), (6, .int (zcu (hST xx) (hSW xx) (hSV xx) (hSS xx) (hFT xx) (hFW xx) (hFV xx) (hFS xx) 20)), (5, .int (nI mm)), (0, .ref x0), (1, .ref ay), (2, .ref az), (3, .ref ag), (4, .int (nI ca))]) hx hb dL_isPage_53 hl (by decide) rfl (fun ls hl => ?_)
  refine lv_iconst (v := 0) hx hb dL_isPage_55 (by decide) ?_
  refine lv_istore (lv' := [(8, .int 0), (7, .int (nI (min 3 (zlf (hZ xx) 0 0)))), (6, .int (zcu (hST xx) (hSW xx) (hSV xx) (hSS xx) (hFT xx) (hFW xx) (hFV xx) (hFS xx) 20)), (5, .int (nI mm)), (0, .ref x0), (1, .ref ay), (2, .ref az), (3, .ref ag), (4, .int (nI ca))]) hx hb dL_isPage_56 hl (by decide) rfl (fun ls hl => ?_)
  refine lv_aload_n hx hb dL_isPage_58 rfl (lv_at hl 4 rfl) ?_
  refine lv_iload hx hb dL_isPage_59 (lv_at hl 8 rfl) ?_
  refine z_cRi (va_runV (As := [.int (nI ca)]) (rest := []) ⟨hx, hb, hml, hown, hts⟩ (c_isOpen l dC dI cI cZ cH cJ x0 xq (nI N) xg had hg (zup σ ca ((hReadP (hOpen xx 1 (nI N)) (nI N)).2)) ca (by first | assumption | omega) (by rw [zup_s, r2]; split <;> decide)) (cwV 1 hts gL_isPage_X3_isOpen rfl rfl rfl (by decide +kernel) ⟨Nat.le_of_ble_eq_true rfl, Nat.le_of_ble_eq_true rfl⟩) (zPreR1 hK (zP_r hP) (zrecv hK (zP_r hP))) rfl rfl hl.1 rfl (lv_room (Nat.le_of_ble_eq_true rfl)) dL_isPage_61 ⟨Nat.le_of_ble_eq_true rfl, Nat.le_of_ble_eq_true rfl⟩) ?_
  refine z_tv (v := if zlf (hZ xx) 0 0 ≤ 3 then 0 else 1) (by rw [zup_s]; exact r2) ?_
  refine lv_if_ne (tgt := 71) hx hb dL_isPage_64 (by decide) (fun c_64 => ?_) (fun c_64 => ?_)
  · skip
    have hgt : 3 < zlf (hZ xx) 0 0 := Nat.lt_of_not_le (fun q => c_64 (if_pos q))
    refine lv_iconst (v := 0) hx hb dL_isPage_71 (by decide) ?_
    refine lv_istore (lv' := [(9, .int 0), (8, .int 0), (7, .int (nI (min 3 (zlf (hZ xx) 0 0)))), (6, .int (zcu (hST xx) (hSW xx) (hSV xx) (hSS xx) (hFT xx) (hFW xx) (hFV xx) (hFS xx) 20)), (5, .int (nI mm)), (0, .ref x0), (1, .ref ay), (2, .ref az), (3, .ref ag), (4, .int (nI ca))]) hx hb dL_isPage_72 hl (by decide) rfl (fun ls hl => ?_)
    refine lv_aload_n hx hb dL_isPage_74 rfl (lv_at hl 8 rfl) ?_
    refine lv_iconst (v := 4) hx hb dL_isPage_75 (by decide) ?_
    refine lv_iload hx hb dL_isPage_76 (lv_at hl 9 rfl) ?_
    refine lv_imul hx hb dL_isPage_78 ?_
    refine z_tv (v := nI (4 * ca)) (pk_mul 4 ca) ?_
    refine lv_iconst (v := 2) hx hb dL_isPage_79 (by decide) ?_
    refine lv_iadd hx hb dL_isPage_80 ?_
    refine z_tv (v := nI ((4 * ca) + 2)) (nI_add (4 * ca) 2) ?_
    refine z_iald hx hb hK hP 2 rfl (zix_nI (by first | assumption | omega) (by decide)) dL_isPage_81 ?_
    refine z_tv (v := fg ((4 * ca) + 2)) (rfl) ?_
    refine z_tv (v := 2) (hg2) ?_
    refine lv_iconst (v := 2) hx hb dL_isPage_82 (by decide) ?_
    refine lv_icmp_ne (tgt := 90) hx hb dL_isPage_83 (by decide) (fun c_83 => absurd c_83 (by decide)) (fun c_83 => ?_)
    refine lv_iconst (v := 1) hx hb dL_isPage_86 (by decide) ?_
    refine lv_goto (tgt := 91) hx hb dL_isPage_87 (by decide) ?_
    refine lv_istore (lv' := [(10, .int 1), (9, .int 0), (8, .int 0), (7, .int (nI (min 3 (zlf (hZ xx) 0 0)))), (6, .int (zcu (hST xx) (hSW xx) (hSV xx) (hSS xx) (hFT xx) (hFW xx) (hFV xx) (hFS xx) 20)), (5, .int (nI mm)), (0, .ref x0), (1, .ref ay), (2, .ref az), (3, .ref ag), (4, .int (nI ca))]) hx hb dL_isPage_91 hl (by decide) rfl (fun ls hl => ?_)
    refine lv_iload hx hb dL_isPage_93 (lv_at hl 3 rfl) ?_
    refine lv_if_lt (tgt := 119) hx hb dL_isPage_95 (by decide) (fun c_95 => absurd c_95 (nI_pos (by omega))) (fun c_95 => ?_)
    refine lv_iload hx hb dL_isPage_98 (lv_at hl 3 rfl) ?_
    refine lv_iconst (v := 3) hx hb dL_isPage_100 (by decide) ?_
    refine lv_icmp_gt (tgt := 119) hx hb dL_isPage_101 (by decide) (fun c_101 => absurd c_101 (nI_nlt (a := 3) (b := min 3 (zlf (hZ xx) 0 0)) (Nat.min_le_left _ _) (by decide))) (fun c_101 => ?_)
    refine lv_iload hx hb dL_isPage_104 (lv_at hl 1 rfl) ?_
    refine lv_if_ne (tgt := 115) hx hb dL_isPage_106 (by decide) (fun c_106 => absurd c_106 (by decide)) (fun c_106 => ?_)
    refine lv_iload hx hb dL_isPage_109 (lv_at hl 3 rfl) ?_
    refine lv_iconst (v := 3) hx hb dL_isPage_111 (by decide) ?_
    refine lv_icmp_ne (tgt := 119) hx hb dL_isPage_112 (by decide) (fun c_112 => absurd c_112 (fun q => q (by rw [show min 3 (zlf (hZ xx) 0 0) = 3 by omega]; rfl))) (fun c_112 => ?_)
    refine lv_iconst (v := 1) hx hb dL_isPage_115 (by decide) ?_
    refine lv_goto (tgt := 120) hx hb dL_isPage_116 (by decide) ?_
    refine lv_istore (lv' := [(11, .int 1), (10, .int 1), (9, .int 0), (8, .int 0), (7, .int (nI (min 3 (zlf (hZ xx) 0 0)))), (6, .int (zcu (hST xx) (hSW xx) (hSV xx) (hSS xx) (hFT xx) (hFW xx) (hFV xx) (hFS xx) 20)), (5, .int (nI mm)), (0, .ref x0), (1, .ref ay), (2, .ref az), (3, .ref ag), (4, .int (nI ca))]) hx hb dL_isPage_120 hl (by decide) rfl (fun ls hl => ?_)
    refine lv_bipush (v := 20) hx hb dL_isPage_122 (by decide) ?_
    refine lv_iload hx hb dL_isPage_124 (lv_at hl 11 rfl) ?_
    refine lv_imul hx hb dL_isPage_126 ?_
    refine z_tv (v := nI (20 * ca)) (pk_mul 20 ca) ?_
    refine lv_istore (lv' := [(12, .int (nI (20 * ca))), (11, .int 1), (10, .int 1), (9, .int 0), (8, .int 0), (7, .int (nI (min 3 (zlf (hZ xx) 0 0)))), (6, .int (zcu (hST xx) (hSW xx) (hSV xx) (hSS xx) (hFT xx) (hFW xx) (hFV xx) (hFS xx) 20)), (5, .int (nI mm)), (0, .ref x0), (1, .ref ay), (2, .ref az), (3, .ref ag), (4, .int (nI ca))]) hx hb dL_isPage_127 hl (by decide) rfl (fun ls hl => ?_)
    have LOOP1 : ∀ (n1 i : Nat), i ≤ 20 → 20 < i + n1 → ∀ (ls : Array Slot), lv_has ls 16 [(0, .ref x0), (1, .ref ay), (2, .ref az), (3, .ref ag), (4, .int (nI ca)), (5, .int (nI mm)), (6, .int (zcu (hST xx) (hSW xx) (hSV xx) (hSS xx) (hFT xx) (hFW xx) (hFV xx) (hFS xx) 20)), (7, .int (nI (min 3 (zlf (hZ xx) 0 0)))), (8, .int (nI (zc (fun r => decide (¬ zvl (hST ((hReadP (hOpen xx 1 (nI N)) (nI N)).2)) (hSV ((hReadP (hOpen xx 1 (nI N)) (nI N)).2)) r = zvl (hST xx) (hSV xx) r)) i))), (9, .int 0), (10, .int 1), (11, .int 1), (12, .int (nI (20 * ca + i)))] → W p l e (headSpec wsL_isPage ({ frames := 9, cells := 0, slots := 0, locals := 158 })).room s m ([.ref x0, .ref ay, .ref az, .ref ag, .int (nI ca)] : List Value).toArray below meth c H locs (0) (0) (MQ below (zQi dC dI 1 ([(ay, .inl (cI, 60, .inl fy)), (az, .inl (cI, 60, .inl fz)), (ag, .inl (cI, 12, .inl (upd fg (4 * ca + 2) (if zlf (hZ xx) 0 0 ≤ 3 then 0 else 2))))] ++ zOb cI cZ cH x0 xq xg had (nI N) (zup σ ca (hReadP (hOpen xx 1 (nI N)) (nI N)).2)) A) ([.ref x0, .ref ay, .ref az, .ref ag, .int (nI ca)] : List Value).toArray s 0 0 A) (F0 m 129 ls []) := by
      intro n1
      induction n1 with
      | zero => intro i h1 h2; exact absurd h2 (by omega)
      | succ n1 ih1 =>
        intro i hi hin   ls hl
        refine lv_iload hx hb dL_isPage_129 (lv_at hl 12 rfl) ?_
        refine lv_bipush (v := 20) hx hb dL_isPage_131 (by decide) ?_
        refine lv_iload hx hb dL_isPage_133 (lv_at hl 4 rfl) ?_
        refine lv_imul hx hb dL_isPage_135 ?_
        refine z_tv (v := nI (20 * ca)) (pk_mul 20 ca) ?_
        refine lv_bipush (v := 20) hx hb dL_isPage_136 (by decide) ?_
        refine lv_iadd hx hb dL_isPage_138 ?_
        refine z_tv (v := nI (20 * ca + 20)) (nI_add (20 * ca) 20) ?_
        refine lv_icmp_ge (tgt := 262) hx hb dL_isPage_139 (by decide) (fun c_139 => ?_) (fun c_139 => ?_)
        · skip
          have e20 : i = 20 := z_ge20b hi (by omega) c_139
          subst e20
          refine lv_iload hx hb dL_isPage_262 (lv_at hl 11 rfl) ?_
          refine lv_if_eq (tgt := 339) hx hb dL_isPage_264 (by decide) (fun c_264 => absurd c_264 (by decide)) (fun c_264 => ?_)
          refine lv_iload hx hb dL_isPage_267 (lv_at hl 9 rfl) ?_
          refine lv_if_eq (tgt := 277) hx hb dL_isPage_269 (by decide) (fun c_269 => ?_) (fun c_269 => absurd c_269 (by decide))
          refine lv_iload hx hb dL_isPage_277 (lv_at hl 8 rfl) ?_
          refine lv_iload hx hb dL_isPage_279 (lv_at hl 7 rfl) ?_
          refine lv_icmp_gt (tgt := 339) hx hb dL_isPage_281 (by decide) (fun c_281 => absurd c_281 (nI_nlt (r4 (by rintro ⟨q1, q2⟩; first | omega | exact absurd q2 (by decide))) (by omega))) (fun c_281 => ?_)
          refine lv_iload hx hb dL_isPage_284 (lv_at hl 9 rfl) ?_
          refine lv_if_ne (tgt := 300) hx hb dL_isPage_286 (by decide) (fun c_286 => absurd c_286 (by decide)) (fun c_286 => ?_)
          refine lv_aload_n hx hb dL_isPage_289 rfl (lv_at hl 0 rfl) ?_
          refine lv_iload hx hb dL_isPage_290 (lv_at hl 4 rfl) ?_
          refine z_cRi (va_runV (As := [.int (nI ca)]) (rest := []) ⟨hx, hb, hml, hown, hts⟩ (c_mark l dC dI cI cZ cH cJ x0 xq (nI N) xg had hg (zup σ ca ((hReadP (hOpen xx 1 (nI N)) (nI N)).2)) ca (by first | assumption | omega)) (cwV 1 hts gL_isPage_X3_mark rfl rfl rfl (by decide +kernel) ⟨Nat.le_of_ble_eq_true rfl, Nat.le_of_ble_eq_true rfl⟩) (zPreR1 hK (zP_r hP) (zrecv hK (zP_r hP))) rfl rfl hl.1 rfl (lv_room (Nat.le_of_ble_eq_true rfl)) dL_isPage_292 ⟨Nat.le_of_ble_eq_true rfl, Nat.le_of_ble_eq_true rfl⟩) ?_
          refine z_tv (v := nI mm) (by rw [zup_s, r6 hgt]; exact hMk1) ?_
          refine lv_iload hx hb dL_isPage_295 (lv_at hl 5 rfl) ?_
          refine lv_icmp_ne (tgt := 339) hx hb dL_isPage_297 (by decide) (fun c_297 => absurd c_297 (fun h => h rfl)) (fun c_297 => ?_)
          refine lv_iload hx hb dL_isPage_300 (lv_at hl 9 rfl) ?_
          refine lv_if_eq (tgt := 310) hx hb dL_isPage_302 (by decide) (fun c_302 => ?_) (fun c_302 => absurd c_302 (by decide))
          obtain ⟨wa, wb, k1, k2, k3, k4, k5⟩ := r5 (by rintro ⟨q1, q2⟩; first | omega | exact absurd q2 (by decide))
          refine lv_aload_n hx hb dL_isPage_310 rfl (lv_at hl 0 rfl) ?_
          refine lv_iload hx hb dL_isPage_311 (lv_at hl 4 rfl) ?_
          refine z_cRi (va_runV (As := [.int (nI ca)]) (rest := []) ⟨hx, hb, hml, hown, hts⟩ (c_wrong l dC dI cI cZ cH cJ x0 xq (nI N) xg had hg (zup σ ca ((hReadP (hOpen xx 1 (nI N)) (nI N)).2)) ca (by first | assumption | omega)) (cwV 1 hts gL_isPage_X3_wrong rfl rfl rfl (by decide +kernel) ⟨Nat.le_of_ble_eq_true rfl, Nat.le_of_ble_eq_true rfl⟩) (zPreR1 hK (zP_r hP) (zrecv hK (zP_r hP))) rfl rfl hl.1 rfl (lv_room (Nat.le_of_ble_eq_true rfl)) dL_isPage_313 ⟨Nat.le_of_ble_eq_true rfl, Nat.le_of_ble_eq_true rfl⟩) ?_
          refine z_tv (v := zcu (hST ((hReadP (hOpen xx 1 (nI N)) (nI N)).2)) (hSW ((hReadP (hOpen xx 1 (nI N)) (nI N)).2)) (hSV ((hReadP (hOpen xx 1 (nI N)) (nI N)).2)) (hSS ((hReadP (hOpen xx 1 (nI N)) (nI N)).2)) (hFT ((hReadP (hOpen xx 1 (nI N)) (nI N)).2)) (hFW ((hReadP (hOpen xx 1 (nI N)) (nI N)).2)) (hFV ((hReadP (hOpen xx 1 (nI N)) (nI N)).2)) (hFS ((hReadP (hOpen xx 1 (nI N)) (nI N)).2)) 20) (by rw [zup_s]) ?_
          refine lv_iload hx hb dL_isPage_316 (lv_at hl 6 rfl) ?_
          refine lv_icmp_gt (tgt := 339) hx hb dL_isPage_318 (by decide) (fun c_318 => absurd c_318 (by rw [k1, k2]; exact nI_nlt k3 (by omega))) (fun c_318 => ?_)
          refine lv_aload_n hx hb dL_isPage_321 rfl (lv_at hl 0 rfl) ?_
          refine lv_iload hx hb dL_isPage_322 (lv_at hl 4 rfl) ?_
          refine z_cRi (va_runV (As := [.int (nI ca)]) (rest := []) ⟨hx, hb, hml, hown, hts⟩ (c_wrong l dC dI cI cZ cH cJ x0 xq (nI N) xg had hg (zup σ ca ((hReadP (hOpen xx 1 (nI N)) (nI N)).2)) ca (by first | assumption | omega)) (cwV 1 hts gL_isPage_X3_wrong rfl rfl rfl (by decide +kernel) ⟨Nat.le_of_ble_eq_true rfl, Nat.le_of_ble_eq_true rfl⟩) (zPreR1 hK (zP_r hP) (zrecv hK (zP_r hP))) rfl rfl hl.1 rfl (lv_room (Nat.le_of_ble_eq_true rfl)) dL_isPage_324 ⟨Nat.le_of_ble_eq_true rfl, Nat.le_of_ble_eq_true rfl⟩) ?_
          refine z_tv (v := zcu (hST ((hReadP (hOpen xx 1 (nI N)) (nI N)).2)) (hSW ((hReadP (hOpen xx 1 (nI N)) (nI N)).2)) (hSV ((hReadP (hOpen xx 1 (nI N)) (nI N)).2)) (hSS ((hReadP (hOpen xx 1 (nI N)) (nI N)).2)) (hFT ((hReadP (hOpen xx 1 (nI N)) (nI N)).2)) (hFW ((hReadP (hOpen xx 1 (nI N)) (nI N)).2)) (hFV ((hReadP (hOpen xx 1 (nI N)) (nI N)).2)) (hFS ((hReadP (hOpen xx 1 (nI N)) (nI N)).2)) 20) (by rw [zup_s]) ?_
          refine lv_iload hx hb dL_isPage_327 (lv_at hl 6 rfl) ?_
          refine lv_iload hx hb dL_isPage_329 (lv_at hl 7 rfl) ?_
          refine lv_isub hx hb dL_isPage_331 ?_
          refine lv_icmp_lt (tgt := 339) hx hb dL_isPage_332 (by decide) (fun c_332 => absurd c_332 (by rw [k1, k2]; exact (zdf k4 k5 (Nat.min_le_left _ _)).resolve_right (by omega))) (fun c_332 => ?_)
          refine lv_iconst (v := 1) hx hb dL_isPage_335 (by decide) ?_
          refine lv_goto (tgt := 340) hx hb dL_isPage_336 (by decide) ?_
          refine lv_istore (lv' := [(11, .int 1), (0, .ref x0), (1, .ref ay), (2, .ref az), (3, .ref ag), (4, .int (nI ca)), (5, .int (nI mm)), (6, .int (zcu (hST xx) (hSW xx) (hSV xx) (hSS xx) (hFT xx) (hFW xx) (hFV xx) (hFS xx) 20)), (7, .int (nI (min 3 (zlf (hZ xx) 0 0)))), (8, .int (nI (zc (fun r => decide (¬ zvl (hST ((hReadP (hOpen xx 1 (nI N)) (nI N)).2)) (hSV ((hReadP (hOpen xx 1 (nI N)) (nI N)).2)) r = zvl (hST xx) (hSV xx) r)) 20))), (9, .int 0), (10, .int 1), (12, .int (nI (20 * ca + 20)))]) hx hb dL_isPage_340 hl (by decide) rfl (fun ls hl => ?_)
          refine lv_aload_n hx hb dL_isPage_342 rfl (lv_at hl 4 rfl) ?_
          refine lv_iconst (v := 4) hx hb dL_isPage_343 (by decide) ?_
          refine lv_iload hx hb dL_isPage_344 (lv_at hl 5 rfl) ?_
          refine lv_imul hx hb dL_isPage_346 ?_
          refine z_tv (v := nI (4 * ca)) (pk_mul 4 ca) ?_
          refine lv_iconst (v := 2) hx hb dL_isPage_347 (by decide) ?_
          refine lv_iadd hx hb dL_isPage_348 ?_
          refine z_tv (v := nI ((4 * ca) + 2)) (nI_add (4 * ca) 2) ?_
          refine lv_iload hx hb dL_isPage_349 (lv_at hl 10 rfl) ?_
          refine lv_if_eq (tgt := 358) hx hb dL_isPage_351 (by decide) (fun c_351 => ?_) (fun c_351 => absurd c_351 (by decide))
          refine lv_aload_n hx hb dL_isPage_358 rfl (lv_at hl 4 rfl) ?_
          refine lv_iconst (v := 4) hx hb dL_isPage_359 (by decide) ?_
          refine lv_iload hx hb dL_isPage_360 (lv_at hl 5 rfl) ?_
          refine lv_imul hx hb dL_isPage_362 ?_
          refine z_tv (v := nI (4 * ca)) (pk_mul 4 ca) ?_
          refine lv_iconst (v := 2) hx hb dL_isPage_363 (by decide) ?_
          refine lv_iadd hx hb dL_isPage_364 ?_
          refine z_tv (v := nI ((4 * ca) + 2)) (nI_add (4 * ca) 2) ?_
          refine z_iald hx hb hK hP 2 rfl (zix_nI (by first | assumption | omega) (by decide)) dL_isPage_365 ?_
          refine z_tv (v := fg ((4 * ca) + 2)) (rfl) ?_
          refine z_tv (v := 2) (hg2) ?_
          refine z_iast hx hb hK hP hD hS 2 rfl (zix_nI (by first | assumption | omega) (by decide)) dL_isPage_366 (fun H locs hP hD hS => ?_)
          have hP : va_P (dC, dI) vwCl ([(ay, .inl (cI, 60, .inl fy)), (az, .inl (cI, 60, .inl fz)), (ag, .inl (cI, 12, .inl (upd fg ((4 * ca) + 2) 2)))] ++ zOb cI cZ cH x0 xq xg had (nI N) (zup σ ca ((hReadP (hOpen xx 1 (nI N)) (nI N)).2))) H := hP
          have hD : va_D A ([(ay, .inl (cI, 60, .inl fy)), (az, .inl (cI, 60, .inl fz)), (ag, .inl (cI, 12, .inl (upd fg ((4 * ca) + 2) 2)))] ++ zOb cI cZ cH x0 xq xg had (nI N) (zup σ ca ((hReadP (hOpen xx 1 (nI N)) (nI N)).2))) := hD
          refine lv_iload hx hb dL_isPage_367 (lv_at hl 0 rfl) ?_
          have hP := zP_eq (ws' := [(ay, .inl (cI, 60, .inl fy)), (az, .inl (cI, 60, .inl fz)), (ag, .inl (cI, 12, .inl (upd fg (4 * ca + 2) (if zlf (hZ xx) 0 0 ≤ 3 then 0 else 2))))] ++ zOb cI cZ cH x0 xq xg had (nI N) (zup σ ca (hReadP (hOpen xx 1 (nI N)) (nI N)).2)) hP (zw_t (zw_k (zw_k (zw_a (by first | rw [if_pos hle] | rw [if_neg (Nat.not_le.mpr hgt)]) (rfl)))) (rfl))
          have hD := zD_eq (ws' := [(ay, .inl (cI, 60, .inl fy)), (az, .inl (cI, 60, .inl fz)), (ag, .inl (cI, 12, .inl (upd fg (4 * ca + 2) (if zlf (hZ xx) 0 0 ≤ 3 then 0 else 2))))] ++ zOb cI cZ cH x0 xq xg had (nI N) (zup σ ca (hReadP (hOpen xx 1 (nI N)) (nI N)).2)) hD (zw_t (zw_k (zw_k (zw_a (by first | rw [if_pos hle] | rw [if_neg (Nat.not_le.mpr hgt)]) (rfl)))) (rfl))
          exact W.zret (ty := .boolean) hx hb hr (rfl) (fun t ht hW => ⟨rfl, ⟨by rw [ht]; exact hP, hD⟩, hS.F ht⟩) hS.2.2 dL_isPage_369
        · skip
          have hlt : i < 20 := z_lt20b hi (by omega) c_139
          have hyi := zfr_y (hCF.2 i hlt) hN
          have hzi := zrc_z (hCZ i hlt) hN
          have hvi := r3 i hlt
          refine lv_iload hx hb dL_isPage_142 (lv_at hl 11 rfl) ?_
          refine lv_if_eq (tgt := 262) hx hb dL_isPage_144 (by decide) (fun c_144 => absurd c_144 (by decide)) (fun c_144 => ?_)
          refine lv_aload_n hx hb dL_isPage_147 rfl (lv_at hl 0 rfl) ?_
          refine lv_iload hx hb dL_isPage_148 (lv_at hl 4 rfl) ?_
          refine lv_iload hx hb dL_isPage_150 (lv_at hl 12 rfl) ?_
          refine lv_bipush (v := 20) hx hb dL_isPage_152 (by decide) ?_
          refine lv_irem hx hb dL_isPage_154 (by decide) ?_
          refine z_tv (v := nI i) (zk20 hlt hca) ?_
          refine z_cRi (va_runV (As := [.int (nI ca), .int (nI i)]) (rest := []) ⟨hx, hb, hml, hown, hts⟩ (c_stored l dC dI cI cZ cH cJ x0 xq (nI N) xg had hg (zup σ ca ((hReadP (hOpen xx 1 (nI N)) (nI N)).2)) ca (by first | assumption | omega) i (by first | assumption | omega)) (cwV 2 hts gL_isPage_X3_stored rfl rfl rfl (by decide +kernel) ⟨Nat.le_of_ble_eq_true rfl, Nat.le_of_ble_eq_true rfl⟩) (zPreR1 hK (zP_r hP) (zrecv hK (zP_r hP))) rfl rfl hl.1 rfl (lv_room (Nat.le_of_ble_eq_true rfl)) dL_isPage_155 ⟨Nat.le_of_ble_eq_true rfl, Nat.le_of_ble_eq_true rfl⟩) ?_
          refine z_tv (v := zvl (hST ((hReadP (hOpen xx 1 (nI N)) (nI N)).2)) (hSV ((hReadP (hOpen xx 1 (nI N)) (nI N)).2)) i) (by rw [zup_s]; rfl) ?_
          refine lv_istore (lv' := [(13, .int (zvl (hST ((hReadP (hOpen xx 1 (nI N)) (nI N)).2)) (hSV ((hReadP (hOpen xx 1 (nI N)) (nI N)).2)) i)), (0, .ref x0), (1, .ref ay), (2, .ref az), (3, .ref ag), (4, .int (nI ca)), (5, .int (nI mm)), (6, .int (zcu (hST xx) (hSW xx) (hSV xx) (hSS xx) (hFT xx) (hFW xx) (hFV xx) (hFS xx) 20)), (7, .int (nI (min 3 (zlf (hZ xx) 0 0)))), (8, .int (nI (zc (fun r => decide (¬ zvl (hST ((hReadP (hOpen xx 1 (nI N)) (nI N)).2)) (hSV ((hReadP (hOpen xx 1 (nI N)) (nI N)).2)) r = zvl (hST xx) (hSV xx) r)) i))), (9, .int 0), (10, .int 1), (11, .int 1), (12, .int (nI (20 * ca + i)))]) hx hb dL_isPage_158 hl (by decide) rfl (fun ls hl => ?_)
          have J179_2 : ∀ (ls : Array Slot), lv_has ls 16 [(13, .int (zvl (hST ((hReadP (hOpen xx 1 (nI N)) (nI N)).2)) (hSV ((hReadP (hOpen xx 1 (nI N)) (nI N)).2)) i)), (0, .ref x0), (1, .ref ay), (2, .ref az), (3, .ref ag), (4, .int (nI ca)), (5, .int (nI mm)), (6, .int (zcu (hST xx) (hSW xx) (hSV xx) (hSS xx) (hFT xx) (hFW xx) (hFV xx) (hFS xx) 20)), (7, .int (nI (min 3 (zlf (hZ xx) 0 0)))), (8, .int (nI (zc (fun r => decide (¬ zvl (hST ((hReadP (hOpen xx 1 (nI N)) (nI N)).2)) (hSV ((hReadP (hOpen xx 1 (nI N)) (nI N)).2)) r = zvl (hST xx) (hSV xx) r)) i))), (9, .int 0), (10, .int 1), (11, .int 1), (12, .int (nI (20 * ca + i)))] → W p l e (headSpec wsL_isPage ({ frames := 9, cells := 0, slots := 0, locals := 158 })).room s m ([.ref x0, .ref ay, .ref az, .ref ag, .int (nI ca)] : List Value).toArray below meth c H locs 0 0 (MQ below (zQi dC dI 1 ([(ay, .inl (cI, 60, .inl fy)), (az, .inl (cI, 60, .inl fz)), (ag, .inl (cI, 12, .inl (upd fg (4 * ca + 2) (if zlf (hZ xx) 0 0 ≤ 3 then 0 else 2))))] ++ zOb cI cZ cH x0 xq xg had (nI N) (zup σ ca (hReadP (hOpen xx 1 (nI N)) (nI N)).2)) A) ([.ref x0, .ref ay, .ref az, .ref ag, .int (nI ca)] : List Value).toArray s 0 0 A) (F0 m 179 ls [.int (zvl (hFT xx) (hFV xx) i)]) := by
            intro ls hl
            refine lv_istore (lv' := [(14, .int (zvl (hFT xx) (hFV xx) i)), (13, .int (zvl (hST ((hReadP (hOpen xx 1 (nI N)) (nI N)).2)) (hSV ((hReadP (hOpen xx 1 (nI N)) (nI N)).2)) i)), (0, .ref x0), (1, .ref ay), (2, .ref az), (3, .ref ag), (4, .int (nI ca)), (5, .int (nI mm)), (6, .int (zcu (hST xx) (hSW xx) (hSV xx) (hSS xx) (hFT xx) (hFW xx) (hFV xx) (hFS xx) 20)), (7, .int (nI (min 3 (zlf (hZ xx) 0 0)))), (8, .int (nI (zc (fun r => decide (¬ zvl (hST ((hReadP (hOpen xx 1 (nI N)) (nI N)).2)) (hSV ((hReadP (hOpen xx 1 (nI N)) (nI N)).2)) r = zvl (hST xx) (hSV xx) r)) i))), (9, .int 0), (10, .int 1), (11, .int 1), (12, .int (nI (20 * ca + i)))]) hx hb dL_isPage_179 hl (by decide) rfl (fun ls hl => ?_)
            have J200_3 : ∀ (ls : Array Slot), lv_has ls 16 [(14, .int (zvl (hFT xx) (hFV xx) i)), (13, .int (zvl (hST ((hReadP (hOpen xx 1 (nI N)) (nI N)).2)) (hSV ((hReadP (hOpen xx 1 (nI N)) (nI N)).2)) i)), (0, .ref x0), (1, .ref ay), (2, .ref az), (3, .ref ag), (4, .int (nI ca)), (5, .int (nI mm)), (6, .int (zcu (hST xx) (hSW xx) (hSV xx) (hSS xx) (hFT xx) (hFW xx) (hFV xx) (hFS xx) 20)), (7, .int (nI (min 3 (zlf (hZ xx) 0 0)))), (8, .int (nI (zc (fun r => decide (¬ zvl (hST ((hReadP (hOpen xx 1 (nI N)) (nI N)).2)) (hSV ((hReadP (hOpen xx 1 (nI N)) (nI N)).2)) r = zvl (hST xx) (hSV xx) r)) i))), (9, .int 0), (10, .int 1), (11, .int 1), (12, .int (nI (20 * ca + i)))] → W p l e (headSpec wsL_isPage ({ frames := 9, cells := 0, slots := 0, locals := 158 })).room s m ([.ref x0, .ref ay, .ref az, .ref ag, .int (nI ca)] : List Value).toArray below meth c H locs 0 0 (MQ below (zQi dC dI 1 ([(ay, .inl (cI, 60, .inl fy)), (az, .inl (cI, 60, .inl fz)), (ag, .inl (cI, 12, .inl (upd fg (4 * ca + 2) (if zlf (hZ xx) 0 0 ≤ 3 then 0 else 2))))] ++ zOb cI cZ cH x0 xq xg had (nI N) (zup σ ca (hReadP (hOpen xx 1 (nI N)) (nI N)).2)) A) ([.ref x0, .ref ay, .ref az, .ref ag, .int (nI ca)] : List Value).toArray s 0 0 A) (F0 m 200 ls [.int (zvl (hST xx) (hSV xx) i)]) := by
              intro ls hl
              refine lv_istore (lv' := [(15, .int (zvl (hST xx) (hSV xx) i)), (14, .int (zvl (hFT xx) (hFV xx) i)), (13, .int (zvl (hST ((hReadP (hOpen xx 1 (nI N)) (nI N)).2)) (hSV ((hReadP (hOpen xx 1 (nI N)) (nI N)).2)) i)), (0, .ref x0), (1, .ref ay), (2, .ref az), (3, .ref ag), (4, .int (nI ca)), (5, .int (nI mm)), (6, .int (zcu (hST xx) (hSW xx) (hSV xx) (hSS xx) (hFT xx) (hFW xx) (hFV xx) (hFS xx) 20)), (7, .int (nI (min 3 (zlf (hZ xx) 0 0)))), (8, .int (nI (zc (fun r => decide (¬ zvl (hST ((hReadP (hOpen xx 1 (nI N)) (nI N)).2)) (hSV ((hReadP (hOpen xx 1 (nI N)) (nI N)).2)) r = zvl (hST xx) (hSV xx) r)) i))), (9, .int 0), (10, .int 1), (11, .int 1), (12, .int (nI (20 * ca + i)))]) hx hb dL_isPage_200 hl (by decide) rfl (fun ls hl => ?_)
              have J232_4 : ∀ (ls : Array Slot), lv_has ls 16 [(15, .int (zvl (hST xx) (hSV xx) i)), (14, .int (zvl (hFT xx) (hFV xx) i)), (13, .int (zvl (hST ((hReadP (hOpen xx 1 (nI N)) (nI N)).2)) (hSV ((hReadP (hOpen xx 1 (nI N)) (nI N)).2)) i)), (0, .ref x0), (1, .ref ay), (2, .ref az), (3, .ref ag), (4, .int (nI ca)), (5, .int (nI mm)), (6, .int (zcu (hST xx) (hSW xx) (hSV xx) (hSS xx) (hFT xx) (hFW xx) (hFV xx) (hFS xx) 20)), (7, .int (nI (min 3 (zlf (hZ xx) 0 0)))), (8, .int (nI (zc (fun r => decide (¬ zvl (hST ((hReadP (hOpen xx 1 (nI N)) (nI N)).2)) (hSV ((hReadP (hOpen xx 1 (nI N)) (nI N)).2)) r = zvl (hST xx) (hSV xx) r)) i))), (9, .int 0), (10, .int 1), (11, .int 1), (12, .int (nI (20 * ca + i)))] → W p l e (headSpec wsL_isPage ({ frames := 9, cells := 0, slots := 0, locals := 158 })).room s m ([.ref x0, .ref ay, .ref az, .ref ag, .int (nI ca)] : List Value).toArray below meth c H locs 0 0 (MQ below (zQi dC dI 1 ([(ay, .inl (cI, 60, .inl fy)), (az, .inl (cI, 60, .inl fz)), (ag, .inl (cI, 12, .inl (upd fg (4 * ca + 2) (if zlf (hZ xx) 0 0 ≤ 3 then 0 else 2))))] ++ zOb cI cZ cH x0 xq xg had (nI N) (zup σ ca (hReadP (hOpen xx 1 (nI N)) (nI N)).2)) A) ([.ref x0, .ref ay, .ref az, .ref ag, .int (nI ca)] : List Value).toArray s 0 0 A) (F0 m 232 ls []) := by
                intro ls hl
                refine lv_iconst (v := 1) hx hb dL_isPage_232 (by decide) ?_
                refine lv_goto (tgt := 237) hx hb dL_isPage_233 (by decide) ?_
                refine lv_istore (lv' := [(11, .int 1), (15, .int (zvl (hST xx) (hSV xx) i)), (14, .int (zvl (hFT xx) (hFV xx) i)), (13, .int (zvl (hST ((hReadP (hOpen xx 1 (nI N)) (nI N)).2)) (hSV ((hReadP (hOpen xx 1 (nI N)) (nI N)).2)) i)), (0, .ref x0), (1, .ref ay), (2, .ref az), (3, .ref ag), (4, .int (nI ca)), (5, .int (nI mm)), (6, .int (zcu (hST xx) (hSW xx) (hSV xx) (hSS xx) (hFT xx) (hFW xx) (hFV xx) (hFS xx) 20)), (7, .int (nI (min 3 (zlf (hZ xx) 0 0)))), (8, .int (nI (zc (fun r => decide (¬ zvl (hST ((hReadP (hOpen xx 1 (nI N)) (nI N)).2)) (hSV ((hReadP (hOpen xx 1 (nI N)) (nI N)).2)) r = zvl (hST xx) (hSV xx) r)) i))), (9, .int 0), (10, .int 1), (12, .int (nI (20 * ca + i)))]) hx hb dL_isPage_237 hl (by decide) rfl (fun ls hl => ?_)
                refine lv_iload hx hb dL_isPage_239 (lv_at hl 12 rfl) ?_
                have J253_5 : ∀ (ls : Array Slot), lv_has ls 16 [(11, .int 1), (15, .int (zvl (hST xx) (hSV xx) i)), (14, .int (zvl (hFT xx) (hFV xx) i)), (13, .int (zvl (hST ((hReadP (hOpen xx 1 (nI N)) (nI N)).2)) (hSV ((hReadP (hOpen xx 1 (nI N)) (nI N)).2)) i)), (0, .ref x0), (1, .ref ay), (2, .ref az), (3, .ref ag), (4, .int (nI ca)), (5, .int (nI mm)), (6, .int (zcu (hST xx) (hSW xx) (hSV xx) (hSS xx) (hFT xx) (hFW xx) (hFV xx) (hFS xx) 20)), (7, .int (nI (min 3 (zlf (hZ xx) 0 0)))), (8, .int (nI (zc (fun r => decide (¬ zvl (hST ((hReadP (hOpen xx 1 (nI N)) (nI N)).2)) (hSV ((hReadP (hOpen xx 1 (nI N)) (nI N)).2)) r = zvl (hST xx) (hSV xx) r)) i))), (9, .int 0), (10, .int 1), (12, .int (nI (20 * ca + i)))] → W p l e (headSpec wsL_isPage ({ frames := 9, cells := 0, slots := 0, locals := 158 })).room s m ([.ref x0, .ref ay, .ref az, .ref ag, .int (nI ca)] : List Value).toArray below meth c H locs 0 0 (MQ below (zQi dC dI 1 ([(ay, .inl (cI, 60, .inl fy)), (az, .inl (cI, 60, .inl fz)), (ag, .inl (cI, 12, .inl (upd fg (4 * ca + 2) (if zlf (hZ xx) 0 0 ≤ 3 then 0 else 2))))] ++ zOb cI cZ cH x0 xq xg had (nI N) (zup σ ca (hReadP (hOpen xx 1 (nI N)) (nI N)).2)) A) ([.ref x0, .ref ay, .ref az, .ref ag, .int (nI ca)] : List Value).toArray s 0 0 A) (F0 m 253 ls [.int (if ¬ zvl (hST ((hReadP (hOpen xx 1 (nI N)) (nI N)).2)) (hSV ((hReadP (hOpen xx 1 (nI N)) (nI N)).2)) i = zvl (hST xx) (hSV xx) i then (1 : Int32) else 0), .int (nI (zc (fun r => decide (¬ zvl (hST ((hReadP (hOpen xx 1 (nI N)) (nI N)).2)) (hSV ((hReadP (hOpen xx 1 (nI N)) (nI N)).2)) r = zvl (hST xx) (hSV xx) r)) i))]) := by
                  intro ls hl
                  refine lv_iadd hx hb dL_isPage_253 ?_
                  refine z_tv (v := nI (zc (fun r => decide (¬ zvl (hST ((hReadP (hOpen xx 1 (nI N)) (nI N)).2)) (hSV ((hReadP (hOpen xx 1 (nI N)) (nI N)).2)) r = zvl (hST xx) (hSV xx) r)) (i + 1))) (zc_ad rfl) ?_
                  refine lv_istore (lv' := [(8, .int (nI (zc (fun r => decide (¬ zvl (hST ((hReadP (hOpen xx 1 (nI N)) (nI N)).2)) (hSV ((hReadP (hOpen xx 1 (nI N)) (nI N)).2)) r = zvl (hST xx) (hSV xx) r)) (i + 1)))), (11, .int 1), (15, .int (zvl (hST xx) (hSV xx) i)), (14, .int (zvl (hFT xx) (hFV xx) i)), (13, .int (zvl (hST ((hReadP (hOpen xx 1 (nI N)) (nI N)).2)) (hSV ((hReadP (hOpen xx 1 (nI N)) (nI N)).2)) i)), (0, .ref x0), (1, .ref ay), (2, .ref az), (3, .ref ag), (4, .int (nI ca)), (5, .int (nI mm)), (6, .int (zcu (hST xx) (hSW xx) (hSV xx) (hSS xx) (hFT xx) (hFW xx) (hFV xx) (hFS xx) 20)), (7, .int (nI (min 3 (zlf (hZ xx) 0 0)))), (9, .int 0), (10, .int 1), (12, .int (nI (20 * ca + i)))]) hx hb dL_isPage_254 hl (by decide) rfl (fun ls hl => ?_)
                  refine lv_iinc (v := nI (20 * ca + (i + 1))) (lv' := [(12, .int (nI (20 * ca + (i + 1)))), (8, .int (nI (zc (fun r => decide (¬ zvl (hST ((hReadP (hOpen xx 1 (nI N)) (nI N)).2)) (hSV ((hReadP (hOpen xx 1 (nI N)) (nI N)).2)) r = zvl (hST xx) (hSV xx) r)) (i + 1)))), (11, .int 1), (15, .int (zvl (hST xx) (hSV xx) i)), (14, .int (zvl (hFT xx) (hFV xx) i)), (13, .int (zvl (hST ((hReadP (hOpen xx 1 (nI N)) (nI N)).2)) (hSV ((hReadP (hOpen xx 1 (nI N)) (nI N)).2)) i)), (0, .ref x0), (1, .ref ay), (2, .ref az), (3, .ref ag), (4, .int (nI ca)), (5, .int (nI mm)), (6, .int (zcu (hST xx) (hSW xx) (hSV xx) (hSS xx) (hFT xx) (hFW xx) (hFV xx) (hFS xx) 20)), (7, .int (nI (min 3 (zlf (hZ xx) 0 0)))), (9, .int 0), (10, .int 1)]) hx hb dL_isPage_256 hl (k := 15) rfl (z_1) (by decide) rfl (fun ls hl => ?_)
                  refine lv_goto (tgt := 129) hx hb dL_isPage_259 (by decide) ?_
                  exact ih1 (i + 1) (by omega) (by omega)  _ (lv_sub hl [6, 7, 8, 9, 10, 11, 12, 13, 1, 14, 15, 2, 0] rfl)
                refine lv_iload hx hb dL_isPage_241 (lv_at hl 3 rfl) ?_
                refine lv_iload hx hb dL_isPage_243 (lv_at hl 1 rfl) ?_
                refine lv_icmp_eq (tgt := 252) hx hb dL_isPage_245 (by decide) (fun c_245 => ?_) (fun c_245 => ?_)
                · skip
                  refine lv_iconst (v := 0) hx hb dL_isPage_252 (by decide) ?_
                  refine z_tv (v := if ¬ zvl (hST ((hReadP (hOpen xx 1 (nI N)) (nI N)).2)) (hSV ((hReadP (hOpen xx 1 (nI N)) (nI N)).2)) i = zvl (hST xx) (hSV xx) i then (1 : Int32) else 0) (by simp only [c_245, if_true, if_false, not_true, not_false_eq_true]) ?_
                  exact J253_5 _ (lv_sub hl [0, 1, 2, 3, 4, 5, 6, 7, 8, 9, 10, 11, 12, 13, 14, 15] rfl)
                · skip
                  refine lv_iconst (v := 1) hx hb dL_isPage_248 (by decide) ?_
                  refine lv_goto (tgt := 253) hx hb dL_isPage_249 (by decide) ?_
                  refine z_tv (v := if ¬ zvl (hST ((hReadP (hOpen xx 1 (nI N)) (nI N)).2)) (hSV ((hReadP (hOpen xx 1 (nI N)) (nI N)).2)) i = zvl (hST xx) (hSV xx) i then (1 : Int32) else 0) (by simp only [c_245, if_true, if_false, not_true, not_false_eq_true]) ?_
                  exact J253_5 _ (lv_sub hl [0, 1, 2, 3, 4, 5, 6, 7, 8, 9, 10, 11, 12, 13, 14, 15] rfl)
              refine lv_iload hx hb dL_isPage_202 (lv_at hl 2 rfl) ?_
              refine lv_iload hx hb dL_isPage_204 (lv_at hl 1 rfl) ?_
              refine lv_icmp_eq (tgt := 232) hx hb dL_isPage_206 (by decide) (fun c_206 => ?_) (fun c_206 => ?_)
              · skip
                exact J232_4 _ (lv_sub hl [0, 1, 2, 3, 4, 5, 6, 7, 8, 9, 10, 11, 12, 13, 14, 15] rfl)
              · skip
                refine lv_iload hx hb dL_isPage_209 (lv_at hl 2 rfl) ?_
                refine lv_iload hx hb dL_isPage_211 (lv_at hl 0 rfl) ?_
                refine lv_icmp_eq (tgt := 232) hx hb dL_isPage_213 (by decide) (fun c_213 => ?_) (fun c_213 => absurd c_213 (fun q => hvi.elim c_206 q))
                exact J232_4 _ (lv_sub hl [0, 1, 2, 3, 4, 5, 6, 7, 8, 9, 10, 11, 12, 13, 14, 15] rfl)
            refine lv_aload_n hx hb dL_isPage_181 rfl (lv_at hl 4 rfl) ?_
            refine lv_iload hx hb dL_isPage_182 (lv_at hl 14 rfl) ?_
            refine z_iald hx hb hK hP 1 rfl (zix_nI (by first | assumption | omega) (by decide)) dL_isPage_184 ?_
            refine z_tv (v := fz (20 * ca + i)) (rfl) ?_
            refine lv_if_ge (tgt := 192) hx hb dL_isPage_185 (by decide) (fun c_185 => ?_) (fun c_185 => ?_)
            · skip
              refine lv_aload_n hx hb dL_isPage_192 rfl (lv_at hl 4 rfl) ?_
              refine lv_iload hx hb dL_isPage_193 (lv_at hl 14 rfl) ?_
              refine z_iald hx hb hK hP 1 rfl (zix_nI (by first | assumption | omega) (by decide)) dL_isPage_195 ?_
              refine z_tv (v := fz (20 * ca + i)) (rfl) ?_
              refine lv_sipush (v := 1023) hx hb dL_isPage_196 (by decide) ?_
              refine lv_iand hx hb dL_isPage_199 ?_
              refine z_tv (v := zvl (hST xx) (hSV xx) i) (by unfold zvl; grind) ?_
              exact J200_3 _ (lv_sub hl [0, 1, 2, 3, 4, 5, 6, 7, 8, 9, 10, 11, 12, 13, 14] rfl)
            · skip
              refine lv_iconst (v := (-1)) hx hb dL_isPage_188 (by decide) ?_
              refine lv_goto (tgt := 200) hx hb dL_isPage_189 (by decide) ?_
              refine z_tv (v := zvl (hST xx) (hSV xx) i) (by unfold zvl; grind) ?_
              exact J200_3 _ (lv_sub hl [0, 1, 2, 3, 4, 5, 6, 7, 8, 9, 10, 11, 12, 13, 14] rfl)
          refine lv_aload_n hx hb dL_isPage_160 rfl (lv_at hl 2 rfl) ?_
          refine lv_iload hx hb dL_isPage_161 (lv_at hl 13 rfl) ?_
          refine z_iald hx hb hK hP 0 rfl (zix_nI (by first | assumption | omega) (by decide)) dL_isPage_163 ?_
          refine z_tv (v := fy (20 * ca + i)) (rfl) ?_
          refine lv_if_ge (tgt := 171) hx hb dL_isPage_164 (by decide) (fun c_164 => ?_) (fun c_164 => ?_)
          · skip
            refine lv_aload_n hx hb dL_isPage_171 rfl (lv_at hl 2 rfl) ?_
            refine lv_iload hx hb dL_isPage_172 (lv_at hl 13 rfl) ?_
            refine z_iald hx hb hK hP 0 rfl (zix_nI (by first | assumption | omega) (by decide)) dL_isPage_174 ?_
            refine z_tv (v := fy (20 * ca + i)) (rfl) ?_
            refine lv_sipush (v := 1023) hx hb dL_isPage_175 (by decide) ?_
            refine lv_iand hx hb dL_isPage_178 ?_
            refine z_tv (v := zvl (hFT xx) (hFV xx) i) (by unfold zvl; grind) ?_
            exact J179_2 _ (lv_sub hl [0, 1, 2, 3, 4, 5, 6, 7, 8, 9, 10, 11, 12, 13] rfl)
          · skip
            refine lv_iconst (v := (-1)) hx hb dL_isPage_167 (by decide) ?_
            refine lv_goto (tgt := 179) hx hb dL_isPage_168 (by decide) ?_
            refine z_tv (v := zvl (hFT xx) (hFV xx) i) (by unfold zvl; grind) ?_
            exact J179_2 _ (lv_sub hl [0, 1, 2, 3, 4, 5, 6, 7, 8, 9, 10, 11, 12, 13] rfl)
    exact LOOP1 (20 + 1) 0 (by omega) (by omega)  _ (lv_cg (lv_sub (l' := [(0, .ref x0), (1, .ref ay), (2, .ref az), (3, .ref ag), (4, .int (nI ca)), (5, .int (nI mm)), (6, .int (zcu (hST xx) (hSW xx) (hSV xx) (hSS xx) (hFT xx) (hFW xx) (hFV xx) (hFS xx) 20)), (7, .int (nI (min 3 (zlf (hZ xx) 0 0)))), (8, .int 0), (9, .int 0), (10, .int 1), (11, .int 1), (12, .int (nI (20 * ca)))]) hl [8, 9, 10, 11, 12, 7, 6, 5, 4, 3, 2, 1, 0] rfl) (zl_k (zl_k (zl_k (zl_k (zl_k (zl_k (zl_k (zl_k (zl_c (rfl) (zl_k (zl_k (zl_k (zl_c (rfl) (rfl)))))))))))))))
  · skip
    have hle : zlf (hZ xx) 0 0 ≤ 3 := Classical.byContradiction (fun q => by rw [if_neg q] at c_64; exact absurd c_64 (by decide))
    refine lv_iconst (v := 1) hx hb dL_isPage_67 (by decide) ?_
    refine lv_goto (tgt := 72) hx hb dL_isPage_68 (by decide) ?_
    refine lv_istore (lv' := [(9, .int 1), (8, .int 0), (7, .int (nI (min 3 (zlf (hZ xx) 0 0)))), (6, .int (zcu (hST xx) (hSW xx) (hSV xx) (hSS xx) (hFT xx) (hFW xx) (hFV xx) (hFS xx) 20)), (5, .int (nI mm)), (0, .ref x0), (1, .ref ay), (2, .ref az), (3, .ref ag), (4, .int (nI ca))]) hx hb dL_isPage_72 hl (by decide) rfl (fun ls hl => ?_)
    refine lv_aload_n hx hb dL_isPage_74 rfl (lv_at hl 8 rfl) ?_
    refine lv_iconst (v := 4) hx hb dL_isPage_75 (by decide) ?_
    refine lv_iload hx hb dL_isPage_76 (lv_at hl 9 rfl) ?_
    refine lv_imul hx hb dL_isPage_78 ?_
    refine z_tv (v := nI (4 * ca)) (pk_mul 4 ca) ?_
    refine lv_iconst (v := 2) hx hb dL_isPage_79 (by decide) ?_
    refine lv_iadd hx hb dL_isPage_80 ?_
    refine z_tv (v := nI ((4 * ca) + 2)) (nI_add (4 * ca) 2) ?_
    refine z_iald hx hb hK hP 2 rfl (zix_nI (by first | assumption | omega) (by decide)) dL_isPage_81 ?_
    refine z_tv (v := fg ((4 * ca) + 2)) (rfl) ?_
    refine z_tv (v := 2) (hg2) ?_
    refine lv_iconst (v := 2) hx hb dL_isPage_82 (by decide) ?_
    refine lv_icmp_ne (tgt := 90) hx hb dL_isPage_83 (by decide) (fun c_83 => absurd c_83 (by decide)) (fun c_83 => ?_)
    refine lv_iconst (v := 1) hx hb dL_isPage_86 (by decide) ?_
    refine lv_goto (tgt := 91) hx hb dL_isPage_87 (by decide) ?_
    refine lv_istore (lv' := [(10, .int 1), (9, .int 1), (8, .int 0), (7, .int (nI (min 3 (zlf (hZ xx) 0 0)))), (6, .int (zcu (hST xx) (hSW xx) (hSV xx) (hSS xx) (hFT xx) (hFW xx) (hFV xx) (hFS xx) 20)), (5, .int (nI mm)), (0, .ref x0), (1, .ref ay), (2, .ref az), (3, .ref ag), (4, .int (nI ca))]) hx hb dL_isPage_91 hl (by decide) rfl (fun ls hl => ?_)
    refine lv_iload hx hb dL_isPage_93 (lv_at hl 3 rfl) ?_
    refine lv_if_lt (tgt := 119) hx hb dL_isPage_95 (by decide) (fun c_95 => absurd c_95 (nI_pos (by omega))) (fun c_95 => ?_)
    refine lv_iload hx hb dL_isPage_98 (lv_at hl 3 rfl) ?_
    refine lv_iconst (v := 3) hx hb dL_isPage_100 (by decide) ?_
    refine lv_icmp_gt (tgt := 119) hx hb dL_isPage_101 (by decide) (fun c_101 => absurd c_101 (nI_nlt (a := 3) (b := min 3 (zlf (hZ xx) 0 0)) (Nat.min_le_left _ _) (by decide))) (fun c_101 => ?_)
    refine lv_iload hx hb dL_isPage_104 (lv_at hl 1 rfl) ?_
    refine lv_if_ne (tgt := 115) hx hb dL_isPage_106 (by decide) (fun c_106 => ?_) (fun c_106 => absurd c_106 (by decide))
    refine lv_iconst (v := 1) hx hb dL_isPage_115 (by decide) ?_
    refine lv_goto (tgt := 120) hx hb dL_isPage_116 (by decide) ?_
    refine lv_istore (lv' := [(11, .int 1), (10, .int 1), (9, .int 1), (8, .int 0), (7, .int (nI (min 3 (zlf (hZ xx) 0 0)))), (6, .int (zcu (hST xx) (hSW xx) (hSV xx) (hSS xx) (hFT xx) (hFW xx) (hFV xx) (hFS xx) 20)), (5, .int (nI mm)), (0, .ref x0), (1, .ref ay), (2, .ref az), (3, .ref ag), (4, .int (nI ca))]) hx hb dL_isPage_120 hl (by decide) rfl (fun ls hl => ?_)
    refine lv_bipush (v := 20) hx hb dL_isPage_122 (by decide) ?_
    refine lv_iload hx hb dL_isPage_124 (lv_at hl 11 rfl) ?_
    refine lv_imul hx hb dL_isPage_126 ?_
    refine z_tv (v := nI (20 * ca)) (pk_mul 20 ca) ?_
    refine lv_istore (lv' := [(12, .int (nI (20 * ca))), (11, .int 1), (10, .int 1), (9, .int 1), (8, .int 0), (7, .int (nI (min 3 (zlf (hZ xx) 0 0)))), (6, .int (zcu (hST xx) (hSW xx) (hSV xx) (hSS xx) (hFT xx) (hFW xx) (hFV xx) (hFS xx) 20)), (5, .int (nI mm)), (0, .ref x0), (1, .ref ay), (2, .ref az), (3, .ref ag), (4, .int (nI ca))]) hx hb dL_isPage_127 hl (by decide) rfl (fun ls hl => ?_)
    have LOOP6 : ∀ (n6 i : Nat), i ≤ 20 → 20 < i + n6 → ∀ (ls : Array Slot), lv_has ls 16 [(0, .ref x0), (1, .ref ay), (2, .ref az), (3, .ref ag), (4, .int (nI ca)), (5, .int (nI mm)), (6, .int (zcu (hST xx) (hSW xx) (hSV xx) (hSS xx) (hFT xx) (hFW xx) (hFV xx) (hFS xx) 20)), (7, .int (nI (min 3 (zlf (hZ xx) 0 0)))), (8, .int (nI (zc (fun r => decide (¬ zvl (hST ((hReadP (hOpen xx 1 (nI N)) (nI N)).2)) (hSV ((hReadP (hOpen xx 1 (nI N)) (nI N)).2)) r = zvl (hST xx) (hSV xx) r)) i))), (9, .int 1), (10, .int 1), (11, .int 1), (12, .int (nI (20 * ca + i)))] → W p l e (headSpec wsL_isPage ({ frames := 9, cells := 0, slots := 0, locals := 158 })).room s m ([.ref x0, .ref ay, .ref az, .ref ag, .int (nI ca)] : List Value).toArray below meth c H locs (0) (0) (MQ below (zQi dC dI 1 ([(ay, .inl (cI, 60, .inl fy)), (az, .inl (cI, 60, .inl fz)), (ag, .inl (cI, 12, .inl (upd fg (4 * ca + 2) (if zlf (hZ xx) 0 0 ≤ 3 then 0 else 2))))] ++ zOb cI cZ cH x0 xq xg had (nI N) (zup σ ca (hReadP (hOpen xx 1 (nI N)) (nI N)).2)) A) ([.ref x0, .ref ay, .ref az, .ref ag, .int (nI ca)] : List Value).toArray s 0 0 A) (F0 m 129 ls []) := by
      intro n6
      induction n6 with
      | zero => intro i h1 h2; exact absurd h2 (by omega)
      | succ n6 ih6 =>
        intro i hi hin   ls hl
        refine lv_iload hx hb dL_isPage_129 (lv_at hl 12 rfl) ?_
        refine lv_bipush (v := 20) hx hb dL_isPage_131 (by decide) ?_
        refine lv_iload hx hb dL_isPage_133 (lv_at hl 4 rfl) ?_
        refine lv_imul hx hb dL_isPage_135 ?_
        refine z_tv (v := nI (20 * ca)) (pk_mul 20 ca) ?_
        refine lv_bipush (v := 20) hx hb dL_isPage_136 (by decide) ?_
        refine lv_iadd hx hb dL_isPage_138 ?_
        refine z_tv (v := nI (20 * ca + 20)) (nI_add (20 * ca) 20) ?_
        refine lv_icmp_ge (tgt := 262) hx hb dL_isPage_139 (by decide) (fun c_139 => ?_) (fun c_139 => ?_)
        · skip
          have e20 : i = 20 := z_ge20b hi (by omega) c_139
          subst e20
          refine lv_iload hx hb dL_isPage_262 (lv_at hl 11 rfl) ?_
          refine lv_if_eq (tgt := 339) hx hb dL_isPage_264 (by decide) (fun c_264 => absurd c_264 (by decide)) (fun c_264 => ?_)
          refine lv_iload hx hb dL_isPage_267 (lv_at hl 9 rfl) ?_
          refine lv_if_eq (tgt := 277) hx hb dL_isPage_269 (by decide) (fun c_269 => absurd c_269 (by decide)) (fun c_269 => ?_)
          refine lv_iload hx hb dL_isPage_272 (lv_at hl 10 rfl) ?_
          refine lv_if_ne (tgt := 284) hx hb dL_isPage_274 (by decide) (fun c_274 => ?_) (fun c_274 => absurd c_274 (by decide))
          refine lv_iload hx hb dL_isPage_284 (lv_at hl 9 rfl) ?_
          refine lv_if_ne (tgt := 300) hx hb dL_isPage_286 (by decide) (fun c_286 => ?_) (fun c_286 => absurd c_286 (by decide))
          refine lv_iload hx hb dL_isPage_300 (lv_at hl 9 rfl) ?_
          refine lv_if_eq (tgt := 310) hx hb dL_isPage_302 (by decide) (fun c_302 => absurd c_302 (by decide)) (fun c_302 => ?_)
          refine lv_iload hx hb dL_isPage_305 (lv_at hl 10 rfl) ?_
          refine lv_if_ne (tgt := 335) hx hb dL_isPage_307 (by decide) (fun c_307 => ?_) (fun c_307 => absurd c_307 (by decide))
          refine lv_iconst (v := 1) hx hb dL_isPage_335 (by decide) ?_
          refine lv_goto (tgt := 340) hx hb dL_isPage_336 (by decide) ?_
          refine lv_istore (lv' := [(11, .int 1), (0, .ref x0), (1, .ref ay), (2, .ref az), (3, .ref ag), (4, .int (nI ca)), (5, .int (nI mm)), (6, .int (zcu (hST xx) (hSW xx) (hSV xx) (hSS xx) (hFT xx) (hFW xx) (hFV xx) (hFS xx) 20)), (7, .int (nI (min 3 (zlf (hZ xx) 0 0)))), (8, .int (nI (zc (fun r => decide (¬ zvl (hST ((hReadP (hOpen xx 1 (nI N)) (nI N)).2)) (hSV ((hReadP (hOpen xx 1 (nI N)) (nI N)).2)) r = zvl (hST xx) (hSV xx) r)) 20))), (9, .int 1), (10, .int 1), (12, .int (nI (20 * ca + 20)))]) hx hb dL_isPage_340 hl (by decide) rfl (fun ls hl => ?_)
          refine lv_aload_n hx hb dL_isPage_342 rfl (lv_at hl 4 rfl) ?_
          refine lv_iconst (v := 4) hx hb dL_isPage_343 (by decide) ?_
          refine lv_iload hx hb dL_isPage_344 (lv_at hl 5 rfl) ?_
          refine lv_imul hx hb dL_isPage_346 ?_
          refine z_tv (v := nI (4 * ca)) (pk_mul 4 ca) ?_
          refine lv_iconst (v := 2) hx hb dL_isPage_347 (by decide) ?_
          refine lv_iadd hx hb dL_isPage_348 ?_
          refine z_tv (v := nI ((4 * ca) + 2)) (nI_add (4 * ca) 2) ?_
          refine lv_iload hx hb dL_isPage_349 (lv_at hl 10 rfl) ?_
          refine lv_if_eq (tgt := 358) hx hb dL_isPage_351 (by decide) (fun c_351 => absurd c_351 (by decide)) (fun c_351 => ?_)
          refine lv_iconst (v := 0) hx hb dL_isPage_354 (by decide) ?_
          refine lv_goto (tgt := 366) hx hb dL_isPage_355 (by decide) ?_
          refine z_iast hx hb hK hP hD hS 2 rfl (zix_nI (by first | assumption | omega) (by decide)) dL_isPage_366 (fun H locs hP hD hS => ?_)
          have hP : va_P (dC, dI) vwCl ([(ay, .inl (cI, 60, .inl fy)), (az, .inl (cI, 60, .inl fz)), (ag, .inl (cI, 12, .inl (upd fg ((4 * ca) + 2) 0)))] ++ zOb cI cZ cH x0 xq xg had (nI N) (zup σ ca ((hReadP (hOpen xx 1 (nI N)) (nI N)).2))) H := hP
          have hD : va_D A ([(ay, .inl (cI, 60, .inl fy)), (az, .inl (cI, 60, .inl fz)), (ag, .inl (cI, 12, .inl (upd fg ((4 * ca) + 2) 0)))] ++ zOb cI cZ cH x0 xq xg had (nI N) (zup σ ca ((hReadP (hOpen xx 1 (nI N)) (nI N)).2))) := hD
          refine lv_iload hx hb dL_isPage_367 (lv_at hl 0 rfl) ?_
          have hP := zP_eq (ws' := [(ay, .inl (cI, 60, .inl fy)), (az, .inl (cI, 60, .inl fz)), (ag, .inl (cI, 12, .inl (upd fg (4 * ca + 2) (if zlf (hZ xx) 0 0 ≤ 3 then 0 else 2))))] ++ zOb cI cZ cH x0 xq xg had (nI N) (zup σ ca (hReadP (hOpen xx 1 (nI N)) (nI N)).2)) hP (zw_t (zw_k (zw_k (zw_a (by first | rw [if_pos hle] | rw [if_neg (Nat.not_le.mpr hgt)]) (rfl)))) (rfl))
          have hD := zD_eq (ws' := [(ay, .inl (cI, 60, .inl fy)), (az, .inl (cI, 60, .inl fz)), (ag, .inl (cI, 12, .inl (upd fg (4 * ca + 2) (if zlf (hZ xx) 0 0 ≤ 3 then 0 else 2))))] ++ zOb cI cZ cH x0 xq xg had (nI N) (zup σ ca (hReadP (hOpen xx 1 (nI N)) (nI N)).2)) hD (zw_t (zw_k (zw_k (zw_a (by first | rw [if_pos hle] | rw [if_neg (Nat.not_le.mpr hgt)]) (rfl)))) (rfl))
          exact W.zret (ty := .boolean) hx hb hr (rfl) (fun t ht hW => ⟨rfl, ⟨by rw [ht]; exact hP, hD⟩, hS.F ht⟩) hS.2.2 dL_isPage_369
        · skip
          have hlt : i < 20 := z_lt20b hi (by omega) c_139
          have hyi := zfr_y (hCF.2 i hlt) hN
          have hzi := zrc_z (hCZ i hlt) hN
          have hvi := r3 i hlt
          refine lv_iload hx hb dL_isPage_142 (lv_at hl 11 rfl) ?_
          refine lv_if_eq (tgt := 262) hx hb dL_isPage_144 (by decide) (fun c_144 => absurd c_144 (by decide)) (fun c_144 => ?_)
          refine lv_aload_n hx hb dL_isPage_147 rfl (lv_at hl 0 rfl) ?_
          refine lv_iload hx hb dL_isPage_148 (lv_at hl 4 rfl) ?_
          refine lv_iload hx hb dL_isPage_150 (lv_at hl 12 rfl) ?_
          refine lv_bipush (v := 20) hx hb dL_isPage_152 (by decide) ?_
          refine lv_irem hx hb dL_isPage_154 (by decide) ?_
          refine z_tv (v := nI i) (zk20 hlt hca) ?_
          refine z_cRi (va_runV (As := [.int (nI ca), .int (nI i)]) (rest := []) ⟨hx, hb, hml, hown, hts⟩ (c_stored l dC dI cI cZ cH cJ x0 xq (nI N) xg had hg (zup σ ca ((hReadP (hOpen xx 1 (nI N)) (nI N)).2)) ca (by first | assumption | omega) i (by first | assumption | omega)) (cwV 2 hts gL_isPage_X3_stored rfl rfl rfl (by decide +kernel) ⟨Nat.le_of_ble_eq_true rfl, Nat.le_of_ble_eq_true rfl⟩) (zPreR1 hK (zP_r hP) (zrecv hK (zP_r hP))) rfl rfl hl.1 rfl (lv_room (Nat.le_of_ble_eq_true rfl)) dL_isPage_155 ⟨Nat.le_of_ble_eq_true rfl, Nat.le_of_ble_eq_true rfl⟩) ?_
          refine z_tv (v := zvl (hST ((hReadP (hOpen xx 1 (nI N)) (nI N)).2)) (hSV ((hReadP (hOpen xx 1 (nI N)) (nI N)).2)) i) (by rw [zup_s]; rfl) ?_
          refine lv_istore (lv' := [(13, .int (zvl (hST ((hReadP (hOpen xx 1 (nI N)) (nI N)).2)) (hSV ((hReadP (hOpen xx 1 (nI N)) (nI N)).2)) i)), (0, .ref x0), (1, .ref ay), (2, .ref az), (3, .ref ag), (4, .int (nI ca)), (5, .int (nI mm)), (6, .int (zcu (hST xx) (hSW xx) (hSV xx) (hSS xx) (hFT xx) (hFW xx) (hFV xx) (hFS xx) 20)), (7, .int (nI (min 3 (zlf (hZ xx) 0 0)))), (8, .int (nI (zc (fun r => decide (¬ zvl (hST ((hReadP (hOpen xx 1 (nI N)) (nI N)).2)) (hSV ((hReadP (hOpen xx 1 (nI N)) (nI N)).2)) r = zvl (hST xx) (hSV xx) r)) i))), (9, .int 1), (10, .int 1), (11, .int 1), (12, .int (nI (20 * ca + i)))]) hx hb dL_isPage_158 hl (by decide) rfl (fun ls hl => ?_)
          have J179_7 : ∀ (ls : Array Slot), lv_has ls 16 [(13, .int (zvl (hST ((hReadP (hOpen xx 1 (nI N)) (nI N)).2)) (hSV ((hReadP (hOpen xx 1 (nI N)) (nI N)).2)) i)), (0, .ref x0), (1, .ref ay), (2, .ref az), (3, .ref ag), (4, .int (nI ca)), (5, .int (nI mm)), (6, .int (zcu (hST xx) (hSW xx) (hSV xx) (hSS xx) (hFT xx) (hFW xx) (hFV xx) (hFS xx) 20)), (7, .int (nI (min 3 (zlf (hZ xx) 0 0)))), (8, .int (nI (zc (fun r => decide (¬ zvl (hST ((hReadP (hOpen xx 1 (nI N)) (nI N)).2)) (hSV ((hReadP (hOpen xx 1 (nI N)) (nI N)).2)) r = zvl (hST xx) (hSV xx) r)) i))), (9, .int 1), (10, .int 1), (11, .int 1), (12, .int (nI (20 * ca + i)))] → W p l e (headSpec wsL_isPage ({ frames := 9, cells := 0, slots := 0, locals := 158 })).room s m ([.ref x0, .ref ay, .ref az, .ref ag, .int (nI ca)] : List Value).toArray below meth c H locs 0 0 (MQ below (zQi dC dI 1 ([(ay, .inl (cI, 60, .inl fy)), (az, .inl (cI, 60, .inl fz)), (ag, .inl (cI, 12, .inl (upd fg (4 * ca + 2) (if zlf (hZ xx) 0 0 ≤ 3 then 0 else 2))))] ++ zOb cI cZ cH x0 xq xg had (nI N) (zup σ ca (hReadP (hOpen xx 1 (nI N)) (nI N)).2)) A) ([.ref x0, .ref ay, .ref az, .ref ag, .int (nI ca)] : List Value).toArray s 0 0 A) (F0 m 179 ls [.int (zvl (hFT xx) (hFV xx) i)]) := by
            intro ls hl
            refine lv_istore (lv' := [(14, .int (zvl (hFT xx) (hFV xx) i)), (13, .int (zvl (hST ((hReadP (hOpen xx 1 (nI N)) (nI N)).2)) (hSV ((hReadP (hOpen xx 1 (nI N)) (nI N)).2)) i)), (0, .ref x0), (1, .ref ay), (2, .ref az), (3, .ref ag), (4, .int (nI ca)), (5, .int (nI mm)), (6, .int (zcu (hST xx) (hSW xx) (hSV xx) (hSS xx) (hFT xx) (hFW xx) (hFV xx) (hFS xx) 20)), (7, .int (nI (min 3 (zlf (hZ xx) 0 0)))), (8, .int (nI (zc (fun r => decide (¬ zvl (hST ((hReadP (hOpen xx 1 (nI N)) (nI N)).2)) (hSV ((hReadP (hOpen xx 1 (nI N)) (nI N)).2)) r = zvl (hST xx) (hSV xx) r)) i))), (9, .int 1), (10, .int 1), (11, .int 1), (12, .int (nI (20 * ca + i)))]) hx hb dL_isPage_179 hl (by decide) rfl (fun ls hl => ?_)
            have J200_8 : ∀ (ls : Array Slot), lv_has ls 16 [(14, .int (zvl (hFT xx) (hFV xx) i)), (13, .int (zvl (hST ((hReadP (hOpen xx 1 (nI N)) (nI N)).2)) (hSV ((hReadP (hOpen xx 1 (nI N)) (nI N)).2)) i)), (0, .ref x0), (1, .ref ay), (2, .ref az), (3, .ref ag), (4, .int (nI ca)), (5, .int (nI mm)), (6, .int (zcu (hST xx) (hSW xx) (hSV xx) (hSS xx) (hFT xx) (hFW xx) (hFV xx) (hFS xx) 20)), (7, .int (nI (min 3 (zlf (hZ xx) 0 0)))), (8, .int (nI (zc (fun r => decide (¬ zvl (hST ((hReadP (hOpen xx 1 (nI N)) (nI N)).2)) (hSV ((hReadP (hOpen xx 1 (nI N)) (nI N)).2)) r = zvl (hST xx) (hSV xx) r)) i))), (9, .int 1), (10, .int 1), (11, .int 1), (12, .int (nI (20 * ca + i)))] → W p l e (headSpec wsL_isPage ({ frames := 9, cells := 0, slots := 0, locals := 158 })).room s m ([.ref x0, .ref ay, .ref az, .ref ag, .int (nI ca)] : List Value).toArray below meth c H locs 0 0 (MQ below (zQi dC dI 1 ([(ay, .inl (cI, 60, .inl fy)), (az, .inl (cI, 60, .inl fz)), (ag, .inl (cI, 12, .inl (upd fg (4 * ca + 2) (if zlf (hZ xx) 0 0 ≤ 3 then 0 else 2))))] ++ zOb cI cZ cH x0 xq xg had (nI N) (zup σ ca (hReadP (hOpen xx 1 (nI N)) (nI N)).2)) A) ([.ref x0, .ref ay, .ref az, .ref ag, .int (nI ca)] : List Value).toArray s 0 0 A) (F0 m 200 ls [.int (zvl (hST xx) (hSV xx) i)]) := by
              intro ls hl
              refine lv_istore (lv' := [(15, .int (zvl (hST xx) (hSV xx) i)), (14, .int (zvl (hFT xx) (hFV xx) i)), (13, .int (zvl (hST ((hReadP (hOpen xx 1 (nI N)) (nI N)).2)) (hSV ((hReadP (hOpen xx 1 (nI N)) (nI N)).2)) i)), (0, .ref x0), (1, .ref ay), (2, .ref az), (3, .ref ag), (4, .int (nI ca)), (5, .int (nI mm)), (6, .int (zcu (hST xx) (hSW xx) (hSV xx) (hSS xx) (hFT xx) (hFW xx) (hFV xx) (hFS xx) 20)), (7, .int (nI (min 3 (zlf (hZ xx) 0 0)))), (8, .int (nI (zc (fun r => decide (¬ zvl (hST ((hReadP (hOpen xx 1 (nI N)) (nI N)).2)) (hSV ((hReadP (hOpen xx 1 (nI N)) (nI N)).2)) r = zvl (hST xx) (hSV xx) r)) i))), (9, .int 1), (10, .int 1), (11, .int 1), (12, .int (nI (20 * ca + i)))]) hx hb dL_isPage_200 hl (by decide) rfl (fun ls hl => ?_)
              have J232_9 : ∀ (ls : Array Slot), lv_has ls 16 [(15, .int (zvl (hST xx) (hSV xx) i)), (14, .int (zvl (hFT xx) (hFV xx) i)), (13, .int (zvl (hST ((hReadP (hOpen xx 1 (nI N)) (nI N)).2)) (hSV ((hReadP (hOpen xx 1 (nI N)) (nI N)).2)) i)), (0, .ref x0), (1, .ref ay), (2, .ref az), (3, .ref ag), (4, .int (nI ca)), (5, .int (nI mm)), (6, .int (zcu (hST xx) (hSW xx) (hSV xx) (hSS xx) (hFT xx) (hFW xx) (hFV xx) (hFS xx) 20)), (7, .int (nI (min 3 (zlf (hZ xx) 0 0)))), (8, .int (nI (zc (fun r => decide (¬ zvl (hST ((hReadP (hOpen xx 1 (nI N)) (nI N)).2)) (hSV ((hReadP (hOpen xx 1 (nI N)) (nI N)).2)) r = zvl (hST xx) (hSV xx) r)) i))), (9, .int 1), (10, .int 1), (11, .int 1), (12, .int (nI (20 * ca + i)))] → W p l e (headSpec wsL_isPage ({ frames := 9, cells := 0, slots := 0, locals := 158 })).room s m ([.ref x0, .ref ay, .ref az, .ref ag, .int (nI ca)] : List Value).toArray below meth c H locs 0 0 (MQ below (zQi dC dI 1 ([(ay, .inl (cI, 60, .inl fy)), (az, .inl (cI, 60, .inl fz)), (ag, .inl (cI, 12, .inl (upd fg (4 * ca + 2) (if zlf (hZ xx) 0 0 ≤ 3 then 0 else 2))))] ++ zOb cI cZ cH x0 xq xg had (nI N) (zup σ ca (hReadP (hOpen xx 1 (nI N)) (nI N)).2)) A) ([.ref x0, .ref ay, .ref az, .ref ag, .int (nI ca)] : List Value).toArray s 0 0 A) (F0 m 232 ls []) := by
                intro ls hl
                refine lv_iconst (v := 1) hx hb dL_isPage_232 (by decide) ?_
                refine lv_goto (tgt := 237) hx hb dL_isPage_233 (by decide) ?_
                refine lv_istore (lv' := [(11, .int 1), (15, .int (zvl (hST xx) (hSV xx) i)), (14, .int (zvl (hFT xx) (hFV xx) i)), (13, .int (zvl (hST ((hReadP (hOpen xx 1 (nI N)) (nI N)).2)) (hSV ((hReadP (hOpen xx 1 (nI N)) (nI N)).2)) i)), (0, .ref x0), (1, .ref ay), (2, .ref az), (3, .ref ag), (4, .int (nI ca)), (5, .int (nI mm)), (6, .int (zcu (hST xx) (hSW xx) (hSV xx) (hSS xx) (hFT xx) (hFW xx) (hFV xx) (hFS xx) 20)), (7, .int (nI (min 3 (zlf (hZ xx) 0 0)))), (8, .int (nI (zc (fun r => decide (¬ zvl (hST ((hReadP (hOpen xx 1 (nI N)) (nI N)).2)) (hSV ((hReadP (hOpen xx 1 (nI N)) (nI N)).2)) r = zvl (hST xx) (hSV xx) r)) i))), (9, .int 1), (10, .int 1), (12, .int (nI (20 * ca + i)))]) hx hb dL_isPage_237 hl (by decide) rfl (fun ls hl => ?_)
                refine lv_iload hx hb dL_isPage_239 (lv_at hl 12 rfl) ?_
                have J253_10 : ∀ (ls : Array Slot), lv_has ls 16 [(11, .int 1), (15, .int (zvl (hST xx) (hSV xx) i)), (14, .int (zvl (hFT xx) (hFV xx) i)), (13, .int (zvl (hST ((hReadP (hOpen xx 1 (nI N)) (nI N)).2)) (hSV ((hReadP (hOpen xx 1 (nI N)) (nI N)).2)) i)), (0, .ref x0), (1, .ref ay), (2, .ref az), (3, .ref ag), (4, .int (nI ca)), (5, .int (nI mm)), (6, .int (zcu (hST xx) (hSW xx) (hSV xx) (hSS xx) (hFT xx) (hFW xx) (hFV xx) (hFS xx) 20)), (7, .int (nI (min 3 (zlf (hZ xx) 0 0)))), (8, .int (nI (zc (fun r => decide (¬ zvl (hST ((hReadP (hOpen xx 1 (nI N)) (nI N)).2)) (hSV ((hReadP (hOpen xx 1 (nI N)) (nI N)).2)) r = zvl (hST xx) (hSV xx) r)) i))), (9, .int 1), (10, .int 1), (12, .int (nI (20 * ca + i)))] → W p l e (headSpec wsL_isPage ({ frames := 9, cells := 0, slots := 0, locals := 158 })).room s m ([.ref x0, .ref ay, .ref az, .ref ag, .int (nI ca)] : List Value).toArray below meth c H locs 0 0 (MQ below (zQi dC dI 1 ([(ay, .inl (cI, 60, .inl fy)), (az, .inl (cI, 60, .inl fz)), (ag, .inl (cI, 12, .inl (upd fg (4 * ca + 2) (if zlf (hZ xx) 0 0 ≤ 3 then 0 else 2))))] ++ zOb cI cZ cH x0 xq xg had (nI N) (zup σ ca (hReadP (hOpen xx 1 (nI N)) (nI N)).2)) A) ([.ref x0, .ref ay, .ref az, .ref ag, .int (nI ca)] : List Value).toArray s 0 0 A) (F0 m 253 ls [.int (if ¬ zvl (hST ((hReadP (hOpen xx 1 (nI N)) (nI N)).2)) (hSV ((hReadP (hOpen xx 1 (nI N)) (nI N)).2)) i = zvl (hST xx) (hSV xx) i then (1 : Int32) else 0), .int (nI (zc (fun r => decide (¬ zvl (hST ((hReadP (hOpen xx 1 (nI N)) (nI N)).2)) (hSV ((hReadP (hOpen xx 1 (nI N)) (nI N)).2)) r = zvl (hST xx) (hSV xx) r)) i))]) := by
                  intro ls hl
                  refine lv_iadd hx hb dL_isPage_253 ?_
                  refine z_tv (v := nI (zc (fun r => decide (¬ zvl (hST ((hReadP (hOpen xx 1 (nI N)) (nI N)).2)) (hSV ((hReadP (hOpen xx 1 (nI N)) (nI N)).2)) r = zvl (hST xx) (hSV xx) r)) (i + 1))) (zc_ad rfl) ?_
                  refine lv_istore (lv' := [(8, .int (nI (zc (fun r => decide (¬ zvl (hST ((hReadP (hOpen xx 1 (nI N)) (nI N)).2)) (hSV ((hReadP (hOpen xx 1 (nI N)) (nI N)).2)) r = zvl (hST xx) (hSV xx) r)) (i + 1)))), (11, .int 1), (15, .int (zvl (hST xx) (hSV xx) i)), (14, .int (zvl (hFT xx) (hFV xx) i)), (13, .int (zvl (hST ((hReadP (hOpen xx 1 (nI N)) (nI N)).2)) (hSV ((hReadP (hOpen xx 1 (nI N)) (nI N)).2)) i)), (0, .ref x0), (1, .ref ay), (2, .ref az), (3, .ref ag), (4, .int (nI ca)), (5, .int (nI mm)), (6, .int (zcu (hST xx) (hSW xx) (hSV xx) (hSS xx) (hFT xx) (hFW xx) (hFV xx) (hFS xx) 20)), (7, .int (nI (min 3 (zlf (hZ xx) 0 0)))), (9, .int 1), (10, .int 1), (12, .int (nI (20 * ca + i)))]) hx hb dL_isPage_254 hl (by decide) rfl (fun ls hl => ?_)
                  refine lv_iinc (v := nI (20 * ca + (i + 1))) (lv' := [(12, .int (nI (20 * ca + (i + 1)))), (8, .int (nI (zc (fun r => decide (¬ zvl (hST ((hReadP (hOpen xx 1 (nI N)) (nI N)).2)) (hSV ((hReadP (hOpen xx 1 (nI N)) (nI N)).2)) r = zvl (hST xx) (hSV xx) r)) (i + 1)))), (11, .int 1), (15, .int (zvl (hST xx) (hSV xx) i)), (14, .int (zvl (hFT xx) (hFV xx) i)), (13, .int (zvl (hST ((hReadP (hOpen xx 1 (nI N)) (nI N)).2)) (hSV ((hReadP (hOpen xx 1 (nI N)) (nI N)).2)) i)), (0, .ref x0), (1, .ref ay), (2, .ref az), (3, .ref ag), (4, .int (nI ca)), (5, .int (nI mm)), (6, .int (zcu (hST xx) (hSW xx) (hSV xx) (hSS xx) (hFT xx) (hFW xx) (hFV xx) (hFS xx) 20)), (7, .int (nI (min 3 (zlf (hZ xx) 0 0)))), (9, .int 1), (10, .int 1)]) hx hb dL_isPage_256 hl (k := 15) rfl (z_1) (by decide) rfl (fun ls hl => ?_)
                  refine lv_goto (tgt := 129) hx hb dL_isPage_259 (by decide) ?_
                  exact ih6 (i + 1) (by omega) (by omega)  _ (lv_sub hl [6, 7, 8, 9, 10, 11, 12, 13, 1, 14, 15, 2, 0] rfl)
                refine lv_iload hx hb dL_isPage_241 (lv_at hl 3 rfl) ?_
                refine lv_iload hx hb dL_isPage_243 (lv_at hl 1 rfl) ?_
                refine lv_icmp_eq (tgt := 252) hx hb dL_isPage_245 (by decide) (fun c_245 => ?_) (fun c_245 => ?_)
                · skip
                  refine lv_iconst (v := 0) hx hb dL_isPage_252 (by decide) ?_
                  refine z_tv (v := if ¬ zvl (hST ((hReadP (hOpen xx 1 (nI N)) (nI N)).2)) (hSV ((hReadP (hOpen xx 1 (nI N)) (nI N)).2)) i = zvl (hST xx) (hSV xx) i then (1 : Int32) else 0) (by simp only [c_245, if_true, if_false, not_true, not_false_eq_true]) ?_
                  exact J253_10 _ (lv_sub hl [0, 1, 2, 3, 4, 5, 6, 7, 8, 9, 10, 11, 12, 13, 14, 15] rfl)
                · skip
                  refine lv_iconst (v := 1) hx hb dL_isPage_248 (by decide) ?_
                  refine lv_goto (tgt := 253) hx hb dL_isPage_249 (by decide) ?_
                  refine z_tv (v := if ¬ zvl (hST ((hReadP (hOpen xx 1 (nI N)) (nI N)).2)) (hSV ((hReadP (hOpen xx 1 (nI N)) (nI N)).2)) i = zvl (hST xx) (hSV xx) i then (1 : Int32) else 0) (by simp only [c_245, if_true, if_false, not_true, not_false_eq_true]) ?_
                  exact J253_10 _ (lv_sub hl [0, 1, 2, 3, 4, 5, 6, 7, 8, 9, 10, 11, 12, 13, 14, 15] rfl)
              refine lv_iload hx hb dL_isPage_202 (lv_at hl 2 rfl) ?_
              refine lv_iload hx hb dL_isPage_204 (lv_at hl 1 rfl) ?_
              refine lv_icmp_eq (tgt := 232) hx hb dL_isPage_206 (by decide) (fun c_206 => ?_) (fun c_206 => ?_)
              · skip
                exact J232_9 _ (lv_sub hl [0, 1, 2, 3, 4, 5, 6, 7, 8, 9, 10, 11, 12, 13, 14, 15] rfl)
              · skip
                refine lv_iload hx hb dL_isPage_209 (lv_at hl 2 rfl) ?_
                refine lv_iload hx hb dL_isPage_211 (lv_at hl 0 rfl) ?_
                refine lv_icmp_eq (tgt := 232) hx hb dL_isPage_213 (by decide) (fun c_213 => ?_) (fun c_213 => absurd c_213 (fun q => hvi.elim c_206 q))
                exact J232_9 _ (lv_sub hl [0, 1, 2, 3, 4, 5, 6, 7, 8, 9, 10, 11, 12, 13, 14, 15] rfl)
            refine lv_aload_n hx hb dL_isPage_181 rfl (lv_at hl 4 rfl) ?_
            refine lv_iload hx hb dL_isPage_182 (lv_at hl 14 rfl) ?_
            refine z_iald hx hb hK hP 1 rfl (zix_nI (by first | assumption | omega) (by decide)) dL_isPage_184 ?_
            refine z_tv (v := fz (20 * ca + i)) (rfl) ?_
            refine lv_if_ge (tgt := 192) hx hb dL_isPage_185 (by decide) (fun c_185 => ?_) (fun c_185 => ?_)
            · skip
              refine lv_aload_n hx hb dL_isPage_192 rfl (lv_at hl 4 rfl) ?_
              refine lv_iload hx hb dL_isPage_193 (lv_at hl 14 rfl) ?_
              refine z_iald hx hb hK hP 1 rfl (zix_nI (by first | assumption | omega) (by decide)) dL_isPage_195 ?_
              refine z_tv (v := fz (20 * ca + i)) (rfl) ?_
              refine lv_sipush (v := 1023) hx hb dL_isPage_196 (by decide) ?_
              refine lv_iand hx hb dL_isPage_199 ?_
              refine z_tv (v := zvl (hST xx) (hSV xx) i) (by unfold zvl; grind) ?_
              exact J200_8 _ (lv_sub hl [0, 1, 2, 3, 4, 5, 6, 7, 8, 9, 10, 11, 12, 13, 14] rfl)
            · skip
              refine lv_iconst (v := (-1)) hx hb dL_isPage_188 (by decide) ?_
              refine lv_goto (tgt := 200) hx hb dL_isPage_189 (by decide) ?_
              refine z_tv (v := zvl (hST xx) (hSV xx) i) (by unfold zvl; grind) ?_
              exact J200_8 _ (lv_sub hl [0, 1, 2, 3, 4, 5, 6, 7, 8, 9, 10, 11, 12, 13, 14] rfl)
          refine lv_aload_n hx hb dL_isPage_160 rfl (lv_at hl 2 rfl) ?_
          refine lv_iload hx hb dL_isPage_161 (lv_at hl 13 rfl) ?_
          refine z_iald hx hb hK hP 0 rfl (zix_nI (by first | assumption | omega) (by decide)) dL_isPage_163 ?_
          refine z_tv (v := fy (20 * ca + i)) (rfl) ?_
          refine lv_if_ge (tgt := 171) hx hb dL_isPage_164 (by decide) (fun c_164 => ?_) (fun c_164 => ?_)
          · skip
            refine lv_aload_n hx hb dL_isPage_171 rfl (lv_at hl 2 rfl) ?_
            refine lv_iload hx hb dL_isPage_172 (lv_at hl 13 rfl) ?_
            refine z_iald hx hb hK hP 0 rfl (zix_nI (by first | assumption | omega) (by decide)) dL_isPage_174 ?_
            refine z_tv (v := fy (20 * ca + i)) (rfl) ?_
            refine lv_sipush (v := 1023) hx hb dL_isPage_175 (by decide) ?_
            refine lv_iand hx hb dL_isPage_178 ?_
            refine z_tv (v := zvl (hFT xx) (hFV xx) i) (by unfold zvl; grind) ?_
            exact J179_7 _ (lv_sub hl [0, 1, 2, 3, 4, 5, 6, 7, 8, 9, 10, 11, 12, 13] rfl)
          · skip
            refine lv_iconst (v := (-1)) hx hb dL_isPage_167 (by decide) ?_
            refine lv_goto (tgt := 179) hx hb dL_isPage_168 (by decide) ?_
            refine z_tv (v := zvl (hFT xx) (hFV xx) i) (by unfold zvl; grind) ?_
            exact J179_7 _ (lv_sub hl [0, 1, 2, 3, 4, 5, 6, 7, 8, 9, 10, 11, 12, 13] rfl)
    exact LOOP6 (20 + 1) 0 (by omega) (by omega)  _ (lv_cg (lv_sub (l' := [(0, .ref x0), (1, .ref ay), (2, .ref az), (3, .ref ag), (4, .int (nI ca)), (5, .int (nI mm)), (6, .int (zcu (hST xx) (hSW xx) (hSV xx) (hSS xx) (hFT xx) (hFW xx) (hFV xx) (hFS xx) 20)), (7, .int (nI (min 3 (zlf (hZ xx) 0 0)))), (8, .int 0), (9, .int 1), (10, .int 1), (11, .int 1), (12, .int (nI (20 * ca)))]) hl [8, 9, 10, 11, 12, 7, 6, 5, 4, 3, 2, 1, 0] rfl) (zl_k (zl_k (zl_k (zl_k (zl_k (zl_k (zl_k (zl_k (zl_c (rfl) (zl_k (zl_k (zl_k (zl_c (rfl) (rfl)))))))))))))))
set_option maxHeartbeats 8000000 in
set_option maxRecDepth 100000 in
/-- isPage_f0 -/
theorem kL_isPage_f0 (l : Launch) (dC : Nat → ClassId) (dI : Nat → Nat → Nat) (cI cZ cH cJ : ClassId) (x0 : Nat) (xq : Nat) (xg : Nat → Option Nat) (had : Nat → Nat → Nat) (hg : ∀ i, i < 4 → xg i = some (had i 0)) (σ : Nat → zHS) (N : Nat) (hN : N ≤ 5000) (ay : Nat) (az : Nat) (ag : Nat) (fy : zI) (fz : zI) (fg : zI) (fd : zI) (ca : Nat) (hc3 : ca < 3) (xx : zHS) (u : Nat) (w : Nat) (mm : Nat) (fq : zI) (hCF : zCF ca N xx fy fd fq u w mm) (hCZ : zCZ ca N xx fz) (hσx : σ ca = hOpen xx 0 (nI N)) (hg2 : fg (4 * ca + 2) = 1) (sz : Nat) : Met l yL_isPage wsL_isPage ({ frames := 9, cells := 0, slots := 0, locals := 158 }) (zPc dC dI (zTy cI cZ cH cJ) [.ref x0, .ref ay, .ref az, .ref ag, .int (nI ca)] sz ([(ay, .inl (cI, 60, .inl fy)), (az, .inl (cI, 60, .inl fz)), (ag, .inl (cI, 12, .inl fg))] ++ zOb cI cZ cH x0 xq xg had (nI N) σ)) (zQi dC dI 1 ([(ay, .inl (cI, 60, .inl fy)), (az, .inl (cI, 60, .inl fz)), (ag, .inl (cI, 12, .inl (upd fg (4 * ca + 2) (if zlf (hZ xx) mm 0 ≤ 3 then 0 else 1))))] ++ zOb cI cZ cH x0 xq xg had (nI N) (zup σ ca (hReadP (hOpen xx 0 (nI N)) (nI N)).2)) (va_A ([(ay, .inl (cI, 60, .inl fy)), (az, .inl (cI, 60, .inl fz)), (ag, .inl (cI, 12, .inl fg))] ++ zOb cI cZ cH x0 xq xg had (nI N) σ) sz)) 0 0 (va_A ([(ay, .inl (cI, 60, .inl fy)), (az, .inl (cI, 60, .inl fz)), (ag, .inl (cI, 12, .inl fg))] ++ zOb cI cZ cH x0 xq xg had (nI N) σ) sz) := by
  refine Met.ofW (cc := cL_isPage) (maxL := 16) (ret := (some .boolean)) (by decide) rfl ?_
  intro p e s m args below meth c s₁ B hml hv0
  obtain ⟨rfl, hsz, hP, hK, hD0⟩ := hv0
  have hx := B.exec
  have hb := B.bytes
  have hr := B.returns
  have hts := atoms_spec (ws := wsL_isPage) B.pre
  have hown : s.vm.findClass RL = some m.cls := findClass_of_methodNamed B.named
  have hlocks := B.notSynchronized
  subst hsz
  have hD := hD0.self (sz := s.heap.size)
  generalize hAe : va_A ([(ay, .inl (cI, 60, .inl fy)), (az, .inl (cI, 60, .inl fz)), (ag, .inl (cI, 12, .inl fg))] ++ zOb cI cZ cH x0 xq xg had (nI N) σ) s.heap.size = A at hD ⊢
  have hA : ∀ q : Nat, s.heap.size ≤ q → A q := fun q h => by rw [← hAe]; exact Or.inr h
  have hS : va_S A s.heap s.heap [] := va_S.rf
  have hl := lv_entry ([.ref x0, .ref ay, .ref az, .ref ag, .int (nI ca)]) (n := 16) (Nat.le_of_ble_eq_true rfl)
  rw [lg_entry_eq]
  generalize (lg_sl ([.ref x0, .ref ay, .ref az, .ref ag, .int (nI ca)]) ++ List.replicate (16 - (lg_sl ([.ref x0, .ref ay, .ref az, .ref ag, .int (nI ca)])).length) Slot.unset).toArray = ls at hl ⊢
  have hl : lv_has ls 16 [(0, .ref x0), (1, .ref ay), (2, .ref az), (3, .ref ag), (4, .int (nI ca))] := hl
  have hca : ca < 4 := by omega
  have hm1 : mm ≤ N := hCF.1.2.2.2.1
  have hMk1 : hMk xx = nI mm := hCF.1.2.2.2.2.2.2.1
  have hFd : mm = if (0 : Int32) = 0 then mm else 0 := rfl
  have hff : (0 : Int32) = 0 ∨ (0 : Int32) = 1 := by decide
  have hF5 : mm ≤ 5000 := by omega
  obtain ⟨r1, r2, r3, r4, r5, r6, -⟩ := z_page (z := fz) hCF hN hF5 hff hFd
  refine lv_aload_n hx hb dL_isPage_0 rfl (lv_at hl 3 rfl) ?_
  refine lv_iconst (v := 4) hx hb dL_isPage_1 (by decide) ?_
  refine lv_iload hx hb dL_isPage_2 (lv_at hl 4 rfl) ?_
  refine lv_imul hx hb dL_isPage_4 ?_
  refine z_tv (v := nI (4 * ca)) (pk_mul 4 ca) ?_
  refine lv_iconst (v := 2) hx hb dL_isPage_5 (by decide) ?_
  refine lv_iadd hx hb dL_isPage_6 ?_
  refine z_tv (v := nI ((4 * ca) + 2)) (nI_add (4 * ca) 2) ?_
  refine z_iald hx hb hK hP 2 rfl (zix_nI (by first | assumption | omega) (by decide)) dL_isPage_7 ?_
  refine z_tv (v := fg ((4 * ca) + 2)) (rfl) ?_
  refine z_tv (v := 1) (hg2) ?_
  refine lv_if_ne (tgt := 31) hx hb dL_isPage_8 (by decide) (fun c_8 => ?_) (fun c_8 => absurd c_8 (by decide))
  refine lv_aload_n hx hb dL_isPage_31 rfl (lv_at hl 0 rfl) ?_
  refine lv_iload hx hb dL_isPage_32 (lv_at hl 4 rfl) ?_
  refine z_cRi (va_runV (As := [.int (nI ca)]) (rest := []) ⟨hx, hb, hml, hown, hts⟩ (c_mark l dC dI cI cZ cH cJ x0 xq (nI N) xg had hg σ ca (by first | assumption | omega)) (cwV 1 hts gL_isPage_X3_mark rfl rfl rfl (by decide +kernel) ⟨Nat.le_of_ble_eq_true rfl, Nat.le_of_ble_eq_true rfl⟩) (zPreR1 hK (zP_r hP) (zrecv hK (zP_r hP))) rfl rfl hl.1 rfl (lv_room (Nat.le_of_ble_eq_true rfl)) dL_isPage_34 ⟨Nat.le_of_ble_eq_true rfl, Nat.le_of_ble_eq_true rfl⟩) ?_
  refine z_tv (v := nI mm) (by rw [hσx]; exact hMk1) ?_
  refine lv_istore (lv' := [(5, .int (nI mm)), (0, .ref x0), (1, .ref ay), (2, .ref az), (3, .ref ag), (4, .int (nI ca))]) hx hb dL_isPage_37 hl (by decide) rfl (fun ls hl => ?_)
  refine lv_aload_n hx hb dL_isPage_39 rfl (lv_at hl 1 rfl) ?_
  refine lv_iload hx hb dL_isPage_40 (lv_at hl 5 rfl) ?_
  refine z_cRi (va_runV (As := [.int (nI ca)]) (rest := []) ⟨hx, hb, hml, hown, hts⟩ (c_wrong l dC dI cI cZ cH cJ x0 xq (nI N) xg had hg σ ca (by first | assumption | omega)) (cwV 1 hts gL_isPage_X3_wrong rfl rfl rfl (by decide +kernel) ⟨Nat.le_of_ble_eq_true rfl, Nat.le_of_ble_eq_true rfl⟩) (zPreR1 hK (zP_r hP) (zrecv hK (zP_r hP))) rfl rfl hl.1 rfl (lv_room (Nat.le_of_ble_eq_true rfl)) dL_isPage_42 ⟨Nat.le_of_ble_eq_true rfl, Nat.le_of_ble_eq_true rfl⟩) ?_
  refine z_tv (v := zcu (hST xx) (hSW xx) (hSV xx) (hSS xx) (hFT xx) (hFW xx) (hFV xx) (hFS xx) 20) (by rw [hσx]; rfl) ?_
  refine lv_istore (lv' := [(6, .int (zcu (hST xx) (hSW xx) (hSV xx) (hSS xx) (hFT xx) (hFW xx) (hFV xx) (hFS xx) 20)), (5, .int (nI mm)), (0, .ref x0), (1, .ref ay), (2, .ref az), (3, .ref ag), (4, .int (nI ca))]) hx hb dL_isPage_45 hl (by decide) rfl (fun ls hl => ?_)
  refine lv_aload_n hx hb dL_isPage_47 rfl (lv_at hl 2 rfl) ?_
  refine lv_iload hx hb dL_isPage_48 (lv_at hl 6 rfl) ?_
  refine z_cGi (wr := [(ay, .inl (cI, 60, .inl fy)), (az, .inl (cI, 60, .inl fz)), (ag, .inl (cI, 12, .inl fg))]) (big1 := [(ay, .inl (cI, 60, .inl fy)), (az, .inl (cI, 60, .inl fz)), (ag, .inl (cI, 12, .inl fg))] ++ zOb cI cZ cH x0 xq xg had (nI N) (zup σ ca (hReadP (σ ca) (nI N)).2)) (va_runV (As := [.int (nI ca)]) (rest := []) ⟨hx, hb, hml, hown, hts⟩ (c_read l dC dI cI cZ cH cJ x0 xq (nI N) xg had hg σ ca (by first | assumption | omega) (by rw [hσx]; exact (show ¬ (1 : Int32) = 0 by decide)) (by rw [hσx]; exact hff) s.heap.size) (cwV 1 hts gL_isPage_X3_read rfl rfl rfl (by decide +kernel) ⟨Nat.le_of_ble_eq_true rfl, Nat.le_of_ble_eq_true rfl⟩) (zPreV1 hK (zP_r hP) (zD_r hD) (zrecv hK (zP_r hP))) rfl rfl hl.1 rfl (lv_room (Nat.le_of_ble_eq_true rfl)) dL_isPage_50 ⟨Nat.le_of_ble_eq_true rfl, Nat.le_of_ble_eq_true rfl⟩) hP hD hS hA (zeq_comm _ _) (zeq_comm _ _) (fun H locs hP hD hS => ?_)
  have hP : va_P (dC, dI) vwCl ([(ay, .inl (cI, 60, .inl fy)), (az, .inl (cI, 60, .inl fz)), (ag, .inl (cI, 12, .inl fg))] ++ zOb cI cZ cH x0 xq xg had (nI N) (zup σ ca (hReadP (σ ca) (nI N)).2)) H := hP
  have hD : va_D A ([(ay, .inl (cI, 60, .inl fy)), (az, .inl (cI, 60, .inl fz)), (ag, .inl (cI, 12, .inl fg))] ++ zOb cI cZ cH x0 xq xg had (nI N) (zup σ ca (hReadP (σ ca) (nI N)).2)) := hD
  refine z_tv (v := nI (min 3 (zlf (hZ xx) mm 0))) (by rw [hσx]; exact r1) ?_
  have hP := zP_eq (ws' := [(ay, .inl (cI, 60, .inl fy)), (az, .inl (cI, 60, .inl fz)), (ag, .inl (cI, 12, .inl fg))] ++ zOb cI cZ cH x0 xq xg had (nI N) (zup σ ca ((hReadP (hOpen xx 0 (nI N)) (nI N)).2))) hP (zw_t rfl (zOb_c (by rw [hσx])))
  have hD := zD_eq (ws' := [(ay, .inl (cI, 60, .inl fy)), (az, .inl (cI, 60, .inl fz)), (ag, .inl (cI, 12, .inl fg))] ++ zOb cI cZ cH x0 xq xg had (nI N) (zup σ ca ((hReadP (hOpen xx 0 (nI N)) (nI N)).2))) hD (zw_t rfl (zOb_c (by rw [hσx])))
  refine lv_istore (lv' := [(7, .int (nI (min 3 (zlf (hZ xx) mm 0)))), (6, .int (zcu (hST xx) (hSW xx) (hSV xx) (hSS xx) (hFT xx) (hFW xx) (hFV xx) (hFS xx) 20)), (5, .int (nI mm)), (0, .ref x0), (1, .ref ay), (2, .ref az), (3, .ref ag), (4, .int (nI ca))]) hx hb dL_isPage_53 hl (by decide) rfl (fun ls hl => ?_)
  refine lv_iconst (v := 0) hx hb dL_isPage_55 (by decide) ?_
  refine lv_istore (lv' := [(8, .int 0), (7, .int (nI (min 3 (zlf (hZ xx) mm 0)))), (6, .int (zcu (hST xx) (hSW xx) (hSV xx) (hSS xx) (hFT xx) (hFW xx) (hFV xx) (hFS xx) 20)), (5, .int (nI mm)), (0, .ref x0), (1, .ref ay), (2, .ref az), (3, .ref ag), (4, .int (nI ca))]) hx hb dL_isPage_56 hl (by decide) rfl (fun ls hl => ?_)
  refine lv_aload_n hx hb dL_isPage_58 rfl (lv_at hl 4 rfl) ?_
  refine lv_iload hx hb dL_isPage_59 (lv_at hl 8 rfl) ?_
  refine z_cRi (va_runV (As := [.int (nI ca)]) (rest := []) ⟨hx, hb, hml, hown, hts⟩ (c_isOpen l dC dI cI cZ cH cJ x0 xq (nI N) xg had hg (zup σ ca ((hReadP (hOpen xx 0 (nI N)) (nI N)).2)) ca (by first | assumption | omega) (by rw [zup_s, r2]; split <;> decide)) (cwV 1 hts gL_isPage_X3_isOpen rfl rfl rfl (by decide +kernel) ⟨Nat.le_of_ble_eq_true rfl, Nat.le_of_ble_eq_true rfl⟩) (zPreR1 hK (zP_r hP) (zrecv hK (zP_r hP))) rfl rfl hl.1 rfl (lv_room (Nat.le_of_ble_eq_true rfl)) dL_isPage_61 ⟨Nat.le_of_ble_eq_true rfl, Nat.le_of_ble_eq_true rfl⟩) ?_
  refine z_tv (v := if zlf (hZ xx) mm 0 ≤ 3 then 0 else 1) (by rw [zup_s]; exact r2) ?_
  refine lv_if_ne (tgt := 71) hx hb dL_isPage_64 (by decide) (fun c_64 => ?_) (fun c_64 => ?_)
  · skip
    have hgt : 3 < zlf (hZ xx) mm 0 := Nat.lt_of_not_le (fun q => c_64 (if_pos q))
    refine lv_iconst (v := 0) hx hb dL_isPage_71 (by decide) ?_
    refine lv_istore (lv' := [(9, .int 0), (8, .int 0), (7, .int (nI (min 3 (zlf (hZ xx) mm 0)))), (6, .int (zcu (hST xx) (hSW xx) (hSV xx) (hSS xx) (hFT xx) (hFW xx) (hFV xx) (hFS xx) 20)), (5, .int (nI mm)), (0, .ref x0), (1, .ref ay), (2, .ref az), (3, .ref ag), (4, .int (nI ca))]) hx hb dL_isPage_72 hl (by decide) rfl (fun ls hl => ?_)
    refine lv_aload_n hx hb dL_isPage_74 rfl (lv_at hl 8 rfl) ?_
    refine lv_iconst (v := 4) hx hb dL_isPage_75 (by decide) ?_
    refine lv_iload hx hb dL_isPage_76 (lv_at hl 9 rfl) ?_
    refine lv_imul hx hb dL_isPage_78 ?_
    refine z_tv (v := nI (4 * ca)) (pk_mul 4 ca) ?_
    refine lv_iconst (v := 2) hx hb dL_isPage_79 (by decide) ?_
    refine lv_iadd hx hb dL_isPage_80 ?_
    refine z_tv (v := nI ((4 * ca) + 2)) (nI_add (4 * ca) 2) ?_
    refine z_iald hx hb hK hP 2 rfl (zix_nI (by first | assumption | omega) (by decide)) dL_isPage_81 ?_
    refine z_tv (v := fg ((4 * ca) + 2)) (rfl) ?_
    refine z_tv (v := 1) (hg2) ?_
    refine lv_iconst (v := 2) hx hb dL_isPage_82 (by decide) ?_
    refine lv_icmp_ne (tgt := 90) hx hb dL_isPage_83 (by decide) (fun c_83 => ?_) (fun c_83 => absurd c_83 (by decide))
    refine lv_iconst (v := 0) hx hb dL_isPage_90 (by decide) ?_
    refine lv_istore (lv' := [(10, .int 0), (9, .int 0), (8, .int 0), (7, .int (nI (min 3 (zlf (hZ xx) mm 0)))), (6, .int (zcu (hST xx) (hSW xx) (hSV xx) (hSS xx) (hFT xx) (hFW xx) (hFV xx) (hFS xx) 20)), (5, .int (nI mm)), (0, .ref x0), (1, .ref ay), (2, .ref az), (3, .ref ag), (4, .int (nI ca))]) hx hb dL_isPage_91 hl (by decide) rfl (fun ls hl => ?_)
    refine lv_iload hx hb dL_isPage_93 (lv_at hl 3 rfl) ?_
    refine lv_if_lt (tgt := 119) hx hb dL_isPage_95 (by decide) (fun c_95 => absurd c_95 (nI_pos (by omega))) (fun c_95 => ?_)
    refine lv_iload hx hb dL_isPage_98 (lv_at hl 3 rfl) ?_
    refine lv_iconst (v := 3) hx hb dL_isPage_100 (by decide) ?_
    refine lv_icmp_gt (tgt := 119) hx hb dL_isPage_101 (by decide) (fun c_101 => absurd c_101 (nI_nlt (a := 3) (b := min 3 (zlf (hZ xx) mm 0)) (Nat.min_le_left _ _) (by decide))) (fun c_101 => ?_)
    refine lv_iload hx hb dL_isPage_104 (lv_at hl 1 rfl) ?_
    refine lv_if_ne (tgt := 115) hx hb dL_isPage_106 (by decide) (fun c_106 => absurd c_106 (by decide)) (fun c_106 => ?_)
    refine lv_iload hx hb dL_isPage_109 (lv_at hl 3 rfl) ?_
    refine lv_iconst (v := 3) hx hb dL_isPage_111 (by decide) ?_
    refine lv_icmp_ne (tgt := 119) hx hb dL_isPage_112 (by decide) (fun c_112 => absurd c_112 (fun q => q (by rw [show min 3 (zlf (hZ xx) mm 0) = 3 by omega]; rfl))) (fun c_112 => ?_)
    refine lv_iconst (v := 1) hx hb dL_isPage_115 (by decide) ?_
    refine lv_goto (tgt := 120) hx hb dL_isPage_116 (by decide) ?_
    refine lv_istore (lv' := [(11, .int 1), (10, .int 0), (9, .int 0), (8, .int 0), (7, .int (nI (min 3 (zlf (hZ xx) mm 0)))), (6, .int (zcu (hST xx) (hSW xx) (hSV xx) (hSS xx) (hFT xx) (hFW xx) (hFV xx) (hFS xx) 20)), (5, .int (nI mm)), (0, .ref x0), (1, .ref ay), (2, .ref az), (3, .ref ag), (4, .int (nI ca))]) hx hb dL_isPage_120 hl (by decide) rfl (fun ls hl => ?_)
    refine lv_bipush (v := 20) hx hb dL_isPage_122 (by decide) ?_
    refine lv_iload hx hb dL_isPage_124 (lv_at hl 11 rfl) ?_
    refine lv_imul hx hb dL_isPage_126 ?_
    refine z_tv (v := nI (20 * ca)) (pk_mul 20 ca) ?_
    refine lv_istore (lv' := [(12, .int (nI (20 * ca))), (11, .int 1), (10, .int 0), (9, .int 0), (8, .int 0), (7, .int (nI (min 3 (zlf (hZ xx) mm 0)))), (6, .int (zcu (hST xx) (hSW xx) (hSV xx) (hSS xx) (hFT xx) (hFW xx) (hFV xx) (hFS xx) 20)), (5, .int (nI mm)), (0, .ref x0), (1, .ref ay), (2, .ref az), (3, .ref ag), (4, .int (nI ca))]) hx hb dL_isPage_127 hl (by decide) rfl (fun ls hl => ?_)
    have LOOP1 : ∀ (n1 i : Nat), i ≤ 20 → 20 < i + n1 → ∀ (ls : Array Slot), lv_has ls 16 [(0, .ref x0), (1, .ref ay), (2, .ref az), (3, .ref ag), (4, .int (nI ca)), (5, .int (nI mm)), (6, .int (zcu (hST xx) (hSW xx) (hSV xx) (hSS xx) (hFT xx) (hFW xx) (hFV xx) (hFS xx) 20)), (7, .int (nI (min 3 (zlf (hZ xx) mm 0)))), (8, .int (nI (zc (fun r => decide (¬ zvl (hST ((hReadP (hOpen xx 0 (nI N)) (nI N)).2)) (hSV ((hReadP (hOpen xx 0 (nI N)) (nI N)).2)) r = zvl (hST xx) (hSV xx) r)) i))), (9, .int 0), (10, .int 0), (11, .int 1), (12, .int (nI (20 * ca + i)))] → W p l e (headSpec wsL_isPage ({ frames := 9, cells := 0, slots := 0, locals := 158 })).room s m ([.ref x0, .ref ay, .ref az, .ref ag, .int (nI ca)] : List Value).toArray below meth c H locs (0) (0) (MQ below (zQi dC dI 1 ([(ay, .inl (cI, 60, .inl fy)), (az, .inl (cI, 60, .inl fz)), (ag, .inl (cI, 12, .inl (upd fg (4 * ca + 2) (if zlf (hZ xx) mm 0 ≤ 3 then 0 else 1))))] ++ zOb cI cZ cH x0 xq xg had (nI N) (zup σ ca (hReadP (hOpen xx 0 (nI N)) (nI N)).2)) A) ([.ref x0, .ref ay, .ref az, .ref ag, .int (nI ca)] : List Value).toArray s 0 0 A) (F0 m 129 ls []) := by
      intro n1
      induction n1 with
      | zero => intro i h1 h2; exact absurd h2 (by omega)
      | succ n1 ih1 =>
        intro i hi hin   ls hl
        refine lv_iload hx hb dL_isPage_129 (lv_at hl 12 rfl) ?_
        refine lv_bipush (v := 20) hx hb dL_isPage_131 (by decide) ?_
        refine lv_iload hx hb dL_isPage_133 (lv_at hl 4 rfl) ?_
        refine lv_imul hx hb dL_isPage_135 ?_
        refine z_tv (v := nI (20 * ca)) (pk_mul 20 ca) ?_
        refine lv_bipush (v := 20) hx hb dL_isPage_136 (by decide) ?_
        refine lv_iadd hx hb dL_isPage_138 ?_
        refine z_tv (v := nI (20 * ca + 20)) (nI_add (20 * ca) 20) ?_
        refine lv_icmp_ge (tgt := 262) hx hb dL_isPage_139 (by decide) (fun c_139 => ?_) (fun c_139 => ?_)
        · skip
          have e20 : i = 20 := z_ge20b hi (by omega) c_139
          subst e20
          refine lv_iload hx hb dL_isPage_262 (lv_at hl 11 rfl) ?_
          refine lv_if_eq (tgt := 339) hx hb dL_isPage_264 (by decide) (fun c_264 => absurd c_264 (by decide)) (fun c_264 => ?_)
          refine lv_iload hx hb dL_isPage_267 (lv_at hl 9 rfl) ?_
          refine lv_if_eq (tgt := 277) hx hb dL_isPage_269 (by decide) (fun c_269 => ?_) (fun c_269 => absurd c_269 (by decide))
          refine lv_iload hx hb dL_isPage_277 (lv_at hl 8 rfl) ?_
          refine lv_iload hx hb dL_isPage_279 (lv_at hl 7 rfl) ?_
          refine lv_icmp_gt (tgt := 339) hx hb dL_isPage_281 (by decide) (fun c_281 => absurd c_281 (nI_nlt (r4 (by rintro ⟨q1, q2⟩; first | omega | exact absurd q2 (by decide))) (by omega))) (fun c_281 => ?_)
          refine lv_iload hx hb dL_isPage_284 (lv_at hl 9 rfl) ?_
          refine lv_if_ne (tgt := 300) hx hb dL_isPage_286 (by decide) (fun c_286 => absurd c_286 (by decide)) (fun c_286 => ?_)
          refine lv_aload_n hx hb dL_isPage_289 rfl (lv_at hl 0 rfl) ?_
          refine lv_iload hx hb dL_isPage_290 (lv_at hl 4 rfl) ?_
          refine z_cRi (va_runV (As := [.int (nI ca)]) (rest := []) ⟨hx, hb, hml, hown, hts⟩ (c_mark l dC dI cI cZ cH cJ x0 xq (nI N) xg had hg (zup σ ca ((hReadP (hOpen xx 0 (nI N)) (nI N)).2)) ca (by first | assumption | omega)) (cwV 1 hts gL_isPage_X3_mark rfl rfl rfl (by decide +kernel) ⟨Nat.le_of_ble_eq_true rfl, Nat.le_of_ble_eq_true rfl⟩) (zPreR1 hK (zP_r hP) (zrecv hK (zP_r hP))) rfl rfl hl.1 rfl (lv_room (Nat.le_of_ble_eq_true rfl)) dL_isPage_292 ⟨Nat.le_of_ble_eq_true rfl, Nat.le_of_ble_eq_true rfl⟩) ?_
          refine z_tv (v := nI mm) (by rw [zup_s, r6 hgt]; exact hMk1) ?_
          refine lv_iload hx hb dL_isPage_295 (lv_at hl 5 rfl) ?_
          refine lv_icmp_ne (tgt := 339) hx hb dL_isPage_297 (by decide) (fun c_297 => absurd c_297 (fun h => h rfl)) (fun c_297 => ?_)
          refine lv_iload hx hb dL_isPage_300 (lv_at hl 9 rfl) ?_
          refine lv_if_eq (tgt := 310) hx hb dL_isPage_302 (by decide) (fun c_302 => ?_) (fun c_302 => absurd c_302 (by decide))
          obtain ⟨wa, wb, k1, k2, k3, k4, k5⟩ := r5 (by rintro ⟨q1, q2⟩; first | omega | exact absurd q2 (by decide))
          refine lv_aload_n hx hb dL_isPage_310 rfl (lv_at hl 0 rfl) ?_
          refine lv_iload hx hb dL_isPage_311 (lv_at hl 4 rfl) ?_
          refine z_cRi (va_runV (As := [.int (nI ca)]) (rest := []) ⟨hx, hb, hml, hown, hts⟩ (c_wrong l dC dI cI cZ cH cJ x0 xq (nI N) xg had hg (zup σ ca ((hReadP (hOpen xx 0 (nI N)) (nI N)).2)) ca (by first | assumption | omega)) (cwV 1 hts gL_isPage_X3_wrong rfl rfl rfl (by decide +kernel) ⟨Nat.le_of_ble_eq_true rfl, Nat.le_of_ble_eq_true rfl⟩) (zPreR1 hK (zP_r hP) (zrecv hK (zP_r hP))) rfl rfl hl.1 rfl (lv_room (Nat.le_of_ble_eq_true rfl)) dL_isPage_313 ⟨Nat.le_of_ble_eq_true rfl, Nat.le_of_ble_eq_true rfl⟩) ?_
          refine z_tv (v := zcu (hST ((hReadP (hOpen xx 0 (nI N)) (nI N)).2)) (hSW ((hReadP (hOpen xx 0 (nI N)) (nI N)).2)) (hSV ((hReadP (hOpen xx 0 (nI N)) (nI N)).2)) (hSS ((hReadP (hOpen xx 0 (nI N)) (nI N)).2)) (hFT ((hReadP (hOpen xx 0 (nI N)) (nI N)).2)) (hFW ((hReadP (hOpen xx 0 (nI N)) (nI N)).2)) (hFV ((hReadP (hOpen xx 0 (nI N)) (nI N)).2)) (hFS ((hReadP (hOpen xx 0 (nI N)) (nI N)).2)) 20) (by rw [zup_s]) ?_
          refine lv_iload hx hb dL_isPage_316 (lv_at hl 6 rfl) ?_
          refine lv_icmp_gt (tgt := 339) hx hb dL_isPage_318 (by decide) (fun c_318 => absurd c_318 (by rw [k1, k2]; exact nI_nlt k3 (by omega))) (fun c_318 => ?_)
          refine lv_aload_n hx hb dL_isPage_321 rfl (lv_at hl 0 rfl) ?_
          refine lv_iload hx hb dL_isPage_322 (lv_at hl 4 rfl) ?_
          refine z_cRi (va_runV (As := [.int (nI ca)]) (rest := []) ⟨hx, hb, hml, hown, hts⟩ (c_wrong l dC dI cI cZ cH cJ x0 xq (nI N) xg had hg (zup σ ca ((hReadP (hOpen xx 0 (nI N)) (nI N)).2)) ca (by first | assumption | omega)) (cwV 1 hts gL_isPage_X3_wrong rfl rfl rfl (by decide +kernel) ⟨Nat.le_of_ble_eq_true rfl, Nat.le_of_ble_eq_true rfl⟩) (zPreR1 hK (zP_r hP) (zrecv hK (zP_r hP))) rfl rfl hl.1 rfl (lv_room (Nat.le_of_ble_eq_true rfl)) dL_isPage_324 ⟨Nat.le_of_ble_eq_true rfl, Nat.le_of_ble_eq_true rfl⟩) ?_
          refine z_tv (v := zcu (hST ((hReadP (hOpen xx 0 (nI N)) (nI N)).2)) (hSW ((hReadP (hOpen xx 0 (nI N)) (nI N)).2)) (hSV ((hReadP (hOpen xx 0 (nI N)) (nI N)).2)) (hSS ((hReadP (hOpen xx 0 (nI N)) (nI N)).2)) (hFT ((hReadP (hOpen xx 0 (nI N)) (nI N)).2)) (hFW ((hReadP (hOpen xx 0 (nI N)) (nI N)).2)) (hFV ((hReadP (hOpen xx 0 (nI N)) (nI N)).2)) (hFS ((hReadP (hOpen xx 0 (nI N)) (nI N)).2)) 20) (by rw [zup_s]) ?_
          refine lv_iload hx hb dL_isPage_327 (lv_at hl 6 rfl) ?_
          refine lv_iload hx hb dL_isPage_329 (lv_at hl 7 rfl) ?_
          refine lv_isub hx hb dL_isPage_331 ?_
          refine lv_icmp_lt (tgt := 339) hx hb dL_isPage_332 (by decide) (fun c_332 => absurd c_332 (by rw [k1, k2]; exact (zdf k4 k5 (Nat.min_le_left _ _)).resolve_right (by omega))) (fun c_332 => ?_)
          refine lv_iconst (v := 1) hx hb dL_isPage_335 (by decide) ?_
          refine lv_goto (tgt := 340) hx hb dL_isPage_336 (by decide) ?_
          refine lv_istore (lv' := [(11, .int 1), (0, .ref x0), (1, .ref ay), (2, .ref az), (3, .ref ag), (4, .int (nI ca)), (5, .int (nI mm)), (6, .int (zcu (hST xx) (hSW xx) (hSV xx) (hSS xx) (hFT xx) (hFW xx) (hFV xx) (hFS xx) 20)), (7, .int (nI (min 3 (zlf (hZ xx) mm 0)))), (8, .int (nI (zc (fun r => decide (¬ zvl (hST ((hReadP (hOpen xx 0 (nI N)) (nI N)).2)) (hSV ((hReadP (hOpen xx 0 (nI N)) (nI N)).2)) r = zvl (hST xx) (hSV xx) r)) 20))), (9, .int 0), (10, .int 0), (12, .int (nI (20 * ca + 20)))]) hx hb dL_isPage_340 hl (by decide) rfl (fun ls hl => ?_)
          refine lv_aload_n hx hb dL_isPage_342 rfl (lv_at hl 4 rfl) ?_
          refine lv_iconst (v := 4) hx hb dL_isPage_343 (by decide) ?_
          refine lv_iload hx hb dL_isPage_344 (lv_at hl 5 rfl) ?_
          refine lv_imul hx hb dL_isPage_346 ?_
          refine z_tv (v := nI (4 * ca)) (pk_mul 4 ca) ?_
          refine lv_iconst (v := 2) hx hb dL_isPage_347 (by decide) ?_
          refine lv_iadd hx hb dL_isPage_348 ?_
          refine z_tv (v := nI ((4 * ca) + 2)) (nI_add (4 * ca) 2) ?_
          refine lv_iload hx hb dL_isPage_349 (lv_at hl 10 rfl) ?_
          refine lv_if_eq (tgt := 358) hx hb dL_isPage_351 (by decide) (fun c_351 => ?_) (fun c_351 => absurd c_351 (by decide))
          refine lv_aload_n hx hb dL_isPage_358 rfl (lv_at hl 4 rfl) ?_
          refine lv_iconst (v := 4) hx hb dL_isPage_359 (by decide) ?_
          refine lv_iload hx hb dL_isPage_360 (lv_at hl 5 rfl) ?_
          refine lv_imul hx hb dL_isPage_362 ?_
          refine z_tv (v := nI (4 * ca)) (pk_mul 4 ca) ?_
          refine lv_iconst (v := 2) hx hb dL_isPage_363 (by decide) ?_
          refine lv_iadd hx hb dL_isPage_364 ?_
          refine z_tv (v := nI ((4 * ca) + 2)) (nI_add (4 * ca) 2) ?_
          refine z_iald hx hb hK hP 2 rfl (zix_nI (by first | assumption | omega) (by decide)) dL_isPage_365 ?_
          refine z_tv (v := fg ((4 * ca) + 2)) (rfl) ?_
          refine z_tv (v := 1) (hg2) ?_
          refine z_iast hx hb hK hP hD hS 2 rfl (zix_nI (by first | assumption | omega) (by decide)) dL_isPage_366 (fun H locs hP hD hS => ?_)
          have hP : va_P (dC, dI) vwCl ([(ay, .inl (cI, 60, .inl fy)), (az, .inl (cI, 60, .inl fz)), (ag, .inl (cI, 12, .inl (upd fg ((4 * ca) + 2) 1)))] ++ zOb cI cZ cH x0 xq xg had (nI N) (zup σ ca ((hReadP (hOpen xx 0 (nI N)) (nI N)).2))) H := hP
          have hD : va_D A ([(ay, .inl (cI, 60, .inl fy)), (az, .inl (cI, 60, .inl fz)), (ag, .inl (cI, 12, .inl (upd fg ((4 * ca) + 2) 1)))] ++ zOb cI cZ cH x0 xq xg had (nI N) (zup σ ca ((hReadP (hOpen xx 0 (nI N)) (nI N)).2))) := hD
          refine lv_iload hx hb dL_isPage_367 (lv_at hl 0 rfl) ?_
          have hP := zP_eq (ws' := [(ay, .inl (cI, 60, .inl fy)), (az, .inl (cI, 60, .inl fz)), (ag, .inl (cI, 12, .inl (upd fg (4 * ca + 2) (if zlf (hZ xx) mm 0 ≤ 3 then 0 else 1))))] ++ zOb cI cZ cH x0 xq xg had (nI N) (zup σ ca (hReadP (hOpen xx 0 (nI N)) (nI N)).2)) hP (zw_t (zw_k (zw_k (zw_a (by first | rw [if_pos hle] | rw [if_neg (Nat.not_le.mpr hgt)]) (rfl)))) (rfl))
          have hD := zD_eq (ws' := [(ay, .inl (cI, 60, .inl fy)), (az, .inl (cI, 60, .inl fz)), (ag, .inl (cI, 12, .inl (upd fg (4 * ca + 2) (if zlf (hZ xx) mm 0 ≤ 3 then 0 else 1))))] ++ zOb cI cZ cH x0 xq xg had (nI N) (zup σ ca (hReadP (hOpen xx 0 (nI N)) (nI N)).2)) hD (zw_t (zw_k (zw_k (zw_a (by first | rw [if_pos hle] | rw [if_neg (Nat.not_le.mpr hgt)]) (rfl)))) (rfl))
          exact W.zret (ty := .boolean) hx hb hr (rfl) (fun t ht hW => ⟨rfl, ⟨by rw [ht]; exact hP, hD⟩, hS.F ht⟩) hS.2.2 dL_isPage_369
        · skip
          have hlt : i < 20 := z_lt20b hi (by omega) c_139
          have hyi := zfr_y (hCF.2 i hlt) hN
          have hzi := zrc_z (hCZ i hlt) hN
          have hvi := r3 i hlt
          refine lv_iload hx hb dL_isPage_142 (lv_at hl 11 rfl) ?_
          refine lv_if_eq (tgt := 262) hx hb dL_isPage_144 (by decide) (fun c_144 => absurd c_144 (by decide)) (fun c_144 => ?_)
          refine lv_aload_n hx hb dL_isPage_147 rfl (lv_at hl 0 rfl) ?_
          refine lv_iload hx hb dL_isPage_148 (lv_at hl 4 rfl) ?_
          refine lv_iload hx hb dL_isPage_150 (lv_at hl 12 rfl) ?_
          refine lv_bipush (v := 20) hx hb dL_isPage_152 (by decide) ?_
          refine lv_irem hx hb dL_isPage_154 (by decide) ?_
          refine z_tv (v := nI i) (zk20 hlt hca) ?_
          refine z_cRi (va_runV (As := [.int (nI ca), .int (nI i)]) (rest := []) ⟨hx, hb, hml, hown, hts⟩ (c_stored l dC dI cI cZ cH cJ x0 xq (nI N) xg had hg (zup σ ca ((hReadP (hOpen xx 0 (nI N)) (nI N)).2)) ca (by first | assumption | omega) i (by first | assumption | omega)) (cwV 2 hts gL_isPage_X3_stored rfl rfl rfl (by decide +kernel) ⟨Nat.le_of_ble_eq_true rfl, Nat.le_of_ble_eq_true rfl⟩) (zPreR1 hK (zP_r hP) (zrecv hK (zP_r hP))) rfl rfl hl.1 rfl (lv_room (Nat.le_of_ble_eq_true rfl)) dL_isPage_155 ⟨Nat.le_of_ble_eq_true rfl, Nat.le_of_ble_eq_true rfl⟩) ?_
          refine z_tv (v := zvl (hST ((hReadP (hOpen xx 0 (nI N)) (nI N)).2)) (hSV ((hReadP (hOpen xx 0 (nI N)) (nI N)).2)) i) (by rw [zup_s]; rfl) ?_
          refine lv_istore (lv' := [(13, .int (zvl (hST ((hReadP (hOpen xx 0 (nI N)) (nI N)).2)) (hSV ((hReadP (hOpen xx 0 (nI N)) (nI N)).2)) i)), (0, .ref x0), (1, .ref ay), (2, .ref az), (3, .ref ag), (4, .int (nI ca)), (5, .int (nI mm)), (6, .int (zcu (hST xx) (hSW xx) (hSV xx) (hSS xx) (hFT xx) (hFW xx) (hFV xx) (hFS xx) 20)), (7, .int (nI (min 3 (zlf (hZ xx) mm 0)))), (8, .int (nI (zc (fun r => decide (¬ zvl (hST ((hReadP (hOpen xx 0 (nI N)) (nI N)).2)) (hSV ((hReadP (hOpen xx 0 (nI N)) (nI N)).2)) r = zvl (hST xx) (hSV xx) r)) i))), (9, .int 0), (10, .int 0), (11, .int 1), (12, .int (nI (20 * ca + i)))]) hx hb dL_isPage_158 hl (by decide) rfl (fun ls hl => ?_)
          have J179_2 : ∀ (ls : Array Slot), lv_has ls 16 [(13, .int (zvl (hST ((hReadP (hOpen xx 0 (nI N)) (nI N)).2)) (hSV ((hReadP (hOpen xx 0 (nI N)) (nI N)).2)) i)), (0, .ref x0), (1, .ref ay), (2, .ref az), (3, .ref ag), (4, .int (nI ca)), (5, .int (nI mm)), (6, .int (zcu (hST xx) (hSW xx) (hSV xx) (hSS xx) (hFT xx) (hFW xx) (hFV xx) (hFS xx) 20)), (7, .int (nI (min 3 (zlf (hZ xx) mm 0)))), (8, .int (nI (zc (fun r => decide (¬ zvl (hST ((hReadP (hOpen xx 0 (nI N)) (nI N)).2)) (hSV ((hReadP (hOpen xx 0 (nI N)) (nI N)).2)) r = zvl (hST xx) (hSV xx) r)) i))), (9, .int 0), (10, .int 0), (11, .int 1), (12, .int (nI (20 * ca + i)))] → W p l e (headSpec wsL_isPage ({ frames := 9, cells := 0, slots := 0, locals := 158 })).room s m ([.ref x0, .ref ay, .ref az, .ref ag, .int (nI ca)] : List Value).toArray below meth c H locs 0 0 (MQ below (zQi dC dI 1 ([(ay, .inl (cI, 60, .inl fy)), (az, .inl (cI, 60, .inl fz)), (ag, .inl (cI, 12, .inl (upd fg (4 * ca + 2) (if zlf (hZ xx) mm 0 ≤ 3 then 0 else 1))))] ++ zOb cI cZ cH x0 xq xg had (nI N) (zup σ ca (hReadP (hOpen xx 0 (nI N)) (nI N)).2)) A) ([.ref x0, .ref ay, .ref az, .ref ag, .int (nI ca)] : List Value).toArray s 0 0 A) (F0 m 179 ls [.int (zvl (hFT xx) (hFV xx) i)]) := by
            intro ls hl
            refine lv_istore (lv' := [(14, .int (zvl (hFT xx) (hFV xx) i)), (13, .int (zvl (hST ((hReadP (hOpen xx 0 (nI N)) (nI N)).2)) (hSV ((hReadP (hOpen xx 0 (nI N)) (nI N)).2)) i)), (0, .ref x0), (1, .ref ay), (2, .ref az), (3, .ref ag), (4, .int (nI ca)), (5, .int (nI mm)), (6, .int (zcu (hST xx) (hSW xx) (hSV xx) (hSS xx) (hFT xx) (hFW xx) (hFV xx) (hFS xx) 20)), (7, .int (nI (min 3 (zlf (hZ xx) mm 0)))), (8, .int (nI (zc (fun r => decide (¬ zvl (hST ((hReadP (hOpen xx 0 (nI N)) (nI N)).2)) (hSV ((hReadP (hOpen xx 0 (nI N)) (nI N)).2)) r = zvl (hST xx) (hSV xx) r)) i))), (9, .int 0), (10, .int 0), (11, .int 1), (12, .int (nI (20 * ca + i)))]) hx hb dL_isPage_179 hl (by decide) rfl (fun ls hl => ?_)
            have J200_3 : ∀ (ls : Array Slot), lv_has ls 16 [(14, .int (zvl (hFT xx) (hFV xx) i)), (13, .int (zvl (hST ((hReadP (hOpen xx 0 (nI N)) (nI N)).2)) (hSV ((hReadP (hOpen xx 0 (nI N)) (nI N)).2)) i)), (0, .ref x0), (1, .ref ay), (2, .ref az), (3, .ref ag), (4, .int (nI ca)), (5, .int (nI mm)), (6, .int (zcu (hST xx) (hSW xx) (hSV xx) (hSS xx) (hFT xx) (hFW xx) (hFV xx) (hFS xx) 20)), (7, .int (nI (min 3 (zlf (hZ xx) mm 0)))), (8, .int (nI (zc (fun r => decide (¬ zvl (hST ((hReadP (hOpen xx 0 (nI N)) (nI N)).2)) (hSV ((hReadP (hOpen xx 0 (nI N)) (nI N)).2)) r = zvl (hST xx) (hSV xx) r)) i))), (9, .int 0), (10, .int 0), (11, .int 1), (12, .int (nI (20 * ca + i)))] → W p l e (headSpec wsL_isPage ({ frames := 9, cells := 0, slots := 0, locals := 158 })).room s m ([.ref x0, .ref ay, .ref az, .ref ag, .int (nI ca)] : List Value).toArray below meth c H locs 0 0 (MQ below (zQi dC dI 1 ([(ay, .inl (cI, 60, .inl fy)), (az, .inl (cI, 60, .inl fz)), (ag, .inl (cI, 12, .inl (upd fg (4 * ca + 2) (if zlf (hZ xx) mm 0 ≤ 3 then 0 else 1))))] ++ zOb cI cZ cH x0 xq xg had (nI N) (zup σ ca (hReadP (hOpen xx 0 (nI N)) (nI N)).2)) A) ([.ref x0, .ref ay, .ref az, .ref ag, .int (nI ca)] : List Value).toArray s 0 0 A) (F0 m 200 ls [.int (zvl (hST xx) (hSV xx) i)]) := by
              intro ls hl
              refine lv_istore (lv' := [(15, .int (zvl (hST xx) (hSV xx) i)), (14, .int (zvl (hFT xx) (hFV xx) i)), (13, .int (zvl (hST ((hReadP (hOpen xx 0 (nI N)) (nI N)).2)) (hSV ((hReadP (hOpen xx 0 (nI N)) (nI N)).2)) i)), (0, .ref x0), (1, .ref ay), (2, .ref az), (3, .ref ag), (4, .int (nI ca)), (5, .int (nI mm)), (6, .int (zcu (hST xx) (hSW xx) (hSV xx) (hSS xx) (hFT xx) (hFW xx) (hFV xx) (hFS xx) 20)), (7, .int (nI (min 3 (zlf (hZ xx) mm 0)))), (8, .int (nI (zc (fun r => decide (¬ zvl (hST ((hReadP (hOpen xx 0 (nI N)) (nI N)).2)) (hSV ((hReadP (hOpen xx 0 (nI N)) (nI N)).2)) r = zvl (hST xx) (hSV xx) r)) i))), (9, .int 0), (10, .int 0), (11, .int 1), (12, .int (nI (20 * ca + i)))]) hx hb dL_isPage_200 hl (by decide) rfl (fun ls hl => ?_)
              have J232_4 : ∀ (ls : Array Slot), lv_has ls 16 [(15, .int (zvl (hST xx) (hSV xx) i)), (14, .int (zvl (hFT xx) (hFV xx) i)), (13, .int (zvl (hST ((hReadP (hOpen xx 0 (nI N)) (nI N)).2)) (hSV ((hReadP (hOpen xx 0 (nI N)) (nI N)).2)) i)), (0, .ref x0), (1, .ref ay), (2, .ref az), (3, .ref ag), (4, .int (nI ca)), (5, .int (nI mm)), (6, .int (zcu (hST xx) (hSW xx) (hSV xx) (hSS xx) (hFT xx) (hFW xx) (hFV xx) (hFS xx) 20)), (7, .int (nI (min 3 (zlf (hZ xx) mm 0)))), (8, .int (nI (zc (fun r => decide (¬ zvl (hST ((hReadP (hOpen xx 0 (nI N)) (nI N)).2)) (hSV ((hReadP (hOpen xx 0 (nI N)) (nI N)).2)) r = zvl (hST xx) (hSV xx) r)) i))), (9, .int 0), (10, .int 0), (11, .int 1), (12, .int (nI (20 * ca + i)))] → W p l e (headSpec wsL_isPage ({ frames := 9, cells := 0, slots := 0, locals := 158 })).room s m ([.ref x0, .ref ay, .ref az, .ref ag, .int (nI ca)] : List Value).toArray below meth c H locs 0 0 (MQ below (zQi dC dI 1 ([(ay, .inl (cI, 60, .inl fy)), (az, .inl (cI, 60, .inl fz)), (ag, .inl (cI, 12, .inl (upd fg (4 * ca + 2) (if zlf (hZ xx) mm 0 ≤ 3 then 0 else 1))))] ++ zOb cI cZ cH x0 xq xg had (nI N) (zup σ ca (hReadP (hOpen xx 0 (nI N)) (nI N)).2)) A) ([.ref x0, .ref ay, .ref az, .ref ag, .int (nI ca)] : List Value).toArray s 0 0 A) (F0 m 232 ls []) := by
                intro ls hl
                refine lv_iconst (v := 1) hx hb dL_isPage_232 (by decide) ?_
                refine lv_goto (tgt := 237) hx hb dL_isPage_233 (by decide) ?_
                refine lv_istore (lv' := [(11, .int 1), (15, .int (zvl (hST xx) (hSV xx) i)), (14, .int (zvl (hFT xx) (hFV xx) i)), (13, .int (zvl (hST ((hReadP (hOpen xx 0 (nI N)) (nI N)).2)) (hSV ((hReadP (hOpen xx 0 (nI N)) (nI N)).2)) i)), (0, .ref x0), (1, .ref ay), (2, .ref az), (3, .ref ag), (4, .int (nI ca)), (5, .int (nI mm)), (6, .int (zcu (hST xx) (hSW xx) (hSV xx) (hSS xx) (hFT xx) (hFW xx) (hFV xx) (hFS xx) 20)), (7, .int (nI (min 3 (zlf (hZ xx) mm 0)))), (8, .int (nI (zc (fun r => decide (¬ zvl (hST ((hReadP (hOpen xx 0 (nI N)) (nI N)).2)) (hSV ((hReadP (hOpen xx 0 (nI N)) (nI N)).2)) r = zvl (hST xx) (hSV xx) r)) i))), (9, .int 0), (10, .int 0), (12, .int (nI (20 * ca + i)))]) hx hb dL_isPage_237 hl (by decide) rfl (fun ls hl => ?_)
                refine lv_iload hx hb dL_isPage_239 (lv_at hl 12 rfl) ?_
                have J253_5 : ∀ (ls : Array Slot), lv_has ls 16 [(11, .int 1), (15, .int (zvl (hST xx) (hSV xx) i)), (14, .int (zvl (hFT xx) (hFV xx) i)), (13, .int (zvl (hST ((hReadP (hOpen xx 0 (nI N)) (nI N)).2)) (hSV ((hReadP (hOpen xx 0 (nI N)) (nI N)).2)) i)), (0, .ref x0), (1, .ref ay), (2, .ref az), (3, .ref ag), (4, .int (nI ca)), (5, .int (nI mm)), (6, .int (zcu (hST xx) (hSW xx) (hSV xx) (hSS xx) (hFT xx) (hFW xx) (hFV xx) (hFS xx) 20)), (7, .int (nI (min 3 (zlf (hZ xx) mm 0)))), (8, .int (nI (zc (fun r => decide (¬ zvl (hST ((hReadP (hOpen xx 0 (nI N)) (nI N)).2)) (hSV ((hReadP (hOpen xx 0 (nI N)) (nI N)).2)) r = zvl (hST xx) (hSV xx) r)) i))), (9, .int 0), (10, .int 0), (12, .int (nI (20 * ca + i)))] → W p l e (headSpec wsL_isPage ({ frames := 9, cells := 0, slots := 0, locals := 158 })).room s m ([.ref x0, .ref ay, .ref az, .ref ag, .int (nI ca)] : List Value).toArray below meth c H locs 0 0 (MQ below (zQi dC dI 1 ([(ay, .inl (cI, 60, .inl fy)), (az, .inl (cI, 60, .inl fz)), (ag, .inl (cI, 12, .inl (upd fg (4 * ca + 2) (if zlf (hZ xx) mm 0 ≤ 3 then 0 else 1))))] ++ zOb cI cZ cH x0 xq xg had (nI N) (zup σ ca (hReadP (hOpen xx 0 (nI N)) (nI N)).2)) A) ([.ref x0, .ref ay, .ref az, .ref ag, .int (nI ca)] : List Value).toArray s 0 0 A) (F0 m 253 ls [.int (if ¬ zvl (hST ((hReadP (hOpen xx 0 (nI N)) (nI N)).2)) (hSV ((hReadP (hOpen xx 0 (nI N)) (nI N)).2)) i = zvl (hST xx) (hSV xx) i then (1 : Int32) else 0), .int (nI (zc (fun r => decide (¬ zvl (hST ((hReadP (hOpen xx 0 (nI N)) (nI N)).2)) (hSV ((hReadP (hOpen xx 0 (nI N)) (nI N)).2)) r = zvl (hST xx) (hSV xx) r)) i))]) := by
                  intro ls hl
                  refine lv_iadd hx hb dL_isPage_253 ?_
                  refine z_tv (v := nI (zc (fun r => decide (¬ zvl (hST ((hReadP (hOpen xx 0 (nI N)) (nI N)).2)) (hSV ((hReadP (hOpen xx 0 (nI N)) (nI N)).2)) r = zvl (hST xx) (hSV xx) r)) (i + 1))) (zc_ad rfl) ?_
                  refine lv_istore (lv' := [(8, .int (nI (zc (fun r => decide (¬ zvl (hST ((hReadP (hOpen xx 0 (nI N)) (nI N)).2)) (hSV ((hReadP (hOpen xx 0 (nI N)) (nI N)).2)) r = zvl (hST xx) (hSV xx) r)) (i + 1)))), (11, .int 1), (15, .int (zvl (hST xx) (hSV xx) i)), (14, .int (zvl (hFT xx) (hFV xx) i)), (13, .int (zvl (hST ((hReadP (hOpen xx 0 (nI N)) (nI N)).2)) (hSV ((hReadP (hOpen xx 0 (nI N)) (nI N)).2)) i)), (0, .ref x0), (1, .ref ay), (2, .ref az), (3, .ref ag), (4, .int (nI ca)), (5, .int (nI mm)), (6, .int (zcu (hST xx) (hSW xx) (hSV xx) (hSS xx) (hFT xx) (hFW xx) (hFV xx) (hFS xx) 20)), (7, .int (nI (min 3 (zlf (hZ xx) mm 0)))), (9, .int 0), (10, .int 0), (12, .int (nI (20 * ca + i)))]) hx hb dL_isPage_254 hl (by decide) rfl (fun ls hl => ?_)
                  refine lv_iinc (v := nI (20 * ca + (i + 1))) (lv' := [(12, .int (nI (20 * ca + (i + 1)))), (8, .int (nI (zc (fun r => decide (¬ zvl (hST ((hReadP (hOpen xx 0 (nI N)) (nI N)).2)) (hSV ((hReadP (hOpen xx 0 (nI N)) (nI N)).2)) r = zvl (hST xx) (hSV xx) r)) (i + 1)))), (11, .int 1), (15, .int (zvl (hST xx) (hSV xx) i)), (14, .int (zvl (hFT xx) (hFV xx) i)), (13, .int (zvl (hST ((hReadP (hOpen xx 0 (nI N)) (nI N)).2)) (hSV ((hReadP (hOpen xx 0 (nI N)) (nI N)).2)) i)), (0, .ref x0), (1, .ref ay), (2, .ref az), (3, .ref ag), (4, .int (nI ca)), (5, .int (nI mm)), (6, .int (zcu (hST xx) (hSW xx) (hSV xx) (hSS xx) (hFT xx) (hFW xx) (hFV xx) (hFS xx) 20)), (7, .int (nI (min 3 (zlf (hZ xx) mm 0)))), (9, .int 0), (10, .int 0)]) hx hb dL_isPage_256 hl (k := 15) rfl (z_1) (by decide) rfl (fun ls hl => ?_)
                  refine lv_goto (tgt := 129) hx hb dL_isPage_259 (by decide) ?_
                  exact ih1 (i + 1) (by omega) (by omega)  _ (lv_sub hl [6, 7, 8, 9, 10, 11, 12, 13, 1, 14, 15, 2, 0] rfl)
                refine lv_iload hx hb dL_isPage_241 (lv_at hl 3 rfl) ?_
                refine lv_iload hx hb dL_isPage_243 (lv_at hl 1 rfl) ?_
                refine lv_icmp_eq (tgt := 252) hx hb dL_isPage_245 (by decide) (fun c_245 => ?_) (fun c_245 => ?_)
                · skip
                  refine lv_iconst (v := 0) hx hb dL_isPage_252 (by decide) ?_
                  refine z_tv (v := if ¬ zvl (hST ((hReadP (hOpen xx 0 (nI N)) (nI N)).2)) (hSV ((hReadP (hOpen xx 0 (nI N)) (nI N)).2)) i = zvl (hST xx) (hSV xx) i then (1 : Int32) else 0) (by simp only [c_245, if_true, if_false, not_true, not_false_eq_true]) ?_
                  exact J253_5 _ (lv_sub hl [0, 1, 2, 3, 4, 5, 6, 7, 8, 9, 10, 11, 12, 13, 14, 15] rfl)
                · skip
                  refine lv_iconst (v := 1) hx hb dL_isPage_248 (by decide) ?_
                  refine lv_goto (tgt := 253) hx hb dL_isPage_249 (by decide) ?_
                  refine z_tv (v := if ¬ zvl (hST ((hReadP (hOpen xx 0 (nI N)) (nI N)).2)) (hSV ((hReadP (hOpen xx 0 (nI N)) (nI N)).2)) i = zvl (hST xx) (hSV xx) i then (1 : Int32) else 0) (by simp only [c_245, if_true, if_false, not_true, not_false_eq_true]) ?_
                  exact J253_5 _ (lv_sub hl [0, 1, 2, 3, 4, 5, 6, 7, 8, 9, 10, 11, 12, 13, 14, 15] rfl)
              refine lv_iload hx hb dL_isPage_202 (lv_at hl 2 rfl) ?_
              refine lv_iload hx hb dL_isPage_204 (lv_at hl 1 rfl) ?_
              refine lv_icmp_eq (tgt := 232) hx hb dL_isPage_206 (by decide) (fun c_206 => ?_) (fun c_206 => ?_)
              · skip
                exact J232_4 _ (lv_sub hl [0, 1, 2, 3, 4, 5, 6, 7, 8, 9, 10, 11, 12, 13, 14, 15] rfl)
              · skip
                refine lv_iload hx hb dL_isPage_209 (lv_at hl 2 rfl) ?_
                refine lv_iload hx hb dL_isPage_211 (lv_at hl 0 rfl) ?_
                refine lv_icmp_eq (tgt := 232) hx hb dL_isPage_213 (by decide) (fun c_213 => ?_) (fun c_213 => absurd c_213 (fun q => hvi.elim c_206 q))
                exact J232_4 _ (lv_sub hl [0, 1, 2, 3, 4, 5, 6, 7, 8, 9, 10, 11, 12, 13, 14, 15] rfl)
            refine lv_aload_n hx hb dL_isPage_181 rfl (lv_at hl 4 rfl) ?_
            refine lv_iload hx hb dL_isPage_182 (lv_at hl 14 rfl) ?_
            refine z_iald hx hb hK hP 1 rfl (zix_nI (by first | assumption | omega) (by decide)) dL_isPage_184 ?_
            refine z_tv (v := fz (20 * ca + i)) (rfl) ?_
            refine lv_if_ge (tgt := 192) hx hb dL_isPage_185 (by decide) (fun c_185 => ?_) (fun c_185 => ?_)
            · skip
              refine lv_aload_n hx hb dL_isPage_192 rfl (lv_at hl 4 rfl) ?_
              refine lv_iload hx hb dL_isPage_193 (lv_at hl 14 rfl) ?_
              refine z_iald hx hb hK hP 1 rfl (zix_nI (by first | assumption | omega) (by decide)) dL_isPage_195 ?_
              refine z_tv (v := fz (20 * ca + i)) (rfl) ?_
              refine lv_sipush (v := 1023) hx hb dL_isPage_196 (by decide) ?_
              refine lv_iand hx hb dL_isPage_199 ?_
              refine z_tv (v := zvl (hST xx) (hSV xx) i) (by unfold zvl; grind) ?_
              exact J200_3 _ (lv_sub hl [0, 1, 2, 3, 4, 5, 6, 7, 8, 9, 10, 11, 12, 13, 14] rfl)
            · skip
              refine lv_iconst (v := (-1)) hx hb dL_isPage_188 (by decide) ?_
              refine lv_goto (tgt := 200) hx hb dL_isPage_189 (by decide) ?_
              refine z_tv (v := zvl (hST xx) (hSV xx) i) (by unfold zvl; grind) ?_
              exact J200_3 _ (lv_sub hl [0, 1, 2, 3, 4, 5, 6, 7, 8, 9, 10, 11, 12, 13, 14] rfl)
          refine lv_aload_n hx hb dL_isPage_160 rfl (lv_at hl 2 rfl) ?_
          refine lv_iload hx hb dL_isPage_161 (lv_at hl 13 rfl) ?_
          refine z_iald hx hb hK hP 0 rfl (zix_nI (by first | assumption | omega) (by decide)) dL_isPage_163 ?_
          refine z_tv (v := fy (20 * ca + i)) (rfl) ?_
          refine lv_if_ge (tgt := 171) hx hb dL_isPage_164 (by decide) (fun c_164 => ?_) (fun c_164 => ?_)
          · skip
            refine lv_aload_n hx hb dL_isPage_171 rfl (lv_at hl 2 rfl) ?_
            refine lv_iload hx hb dL_isPage_172 (lv_at hl 13 rfl) ?_
            refine z_iald hx hb hK hP 0 rfl (zix_nI (by first | assumption | omega) (by decide)) dL_isPage_174 ?_
            refine z_tv (v := fy (20 * ca + i)) (rfl) ?_
            refine lv_sipush (v := 1023) hx hb dL_isPage_175 (by decide) ?_
            refine lv_iand hx hb dL_isPage_178 ?_
            refine z_tv (v := zvl (hFT xx) (hFV xx) i) (by unfold zvl; grind) ?_
            exact J179_2 _ (lv_sub hl [0, 1, 2, 3, 4, 5, 6, 7, 8, 9, 10, 11, 12, 13] rfl)
          · skip
            refine lv_iconst (v := (-1)) hx hb dL_isPage_167 (by decide) ?_
            refine lv_goto (tgt := 179) hx hb dL_isPage_168 (by decide) ?_
            refine z_tv (v := zvl (hFT xx) (hFV xx) i) (by unfold zvl; grind) ?_
            exact J179_2 _ (lv_sub hl [0, 1, 2, 3, 4, 5, 6, 7, 8, 9, 10, 11, 12, 13] rfl)
    exact LOOP1 (20 + 1) 0 (by omega) (by omega)  _ (lv_cg (lv_sub (l' := [(0, .ref x0), (1, .ref ay), (2, .ref az), (3, .ref ag), (4, .int (nI ca)), (5, .int (nI mm)), (6, .int (zcu (hST xx) (hSW xx) (hSV xx) (hSS xx) (hFT xx) (hFW xx) (hFV xx) (hFS xx) 20)), (7, .int (nI (min 3 (zlf (hZ xx) mm 0)))), (8, .int 0), (9, .int 0), (10, .int 0), (11, .int 1), (12, .int (nI (20 * ca)))]) hl [8, 9, 10, 11, 12, 7, 6, 5, 4, 3, 2, 1, 0] rfl) (zl_k (zl_k (zl_k (zl_k (zl_k (zl_k (zl_k (zl_k (zl_c (rfl) (zl_k (zl_k (zl_k (zl_c (rfl) (rfl)))))))))))))))
  · skip
    have hle : zlf (hZ xx) mm 0 ≤ 3 := Classical.byContradiction (fun q => by rw [if_neg q] at c_64; exact absurd c_64 (by decide))
    refine lv_iconst (v := 1) hx hb dL_isPage_67 (by decide) ?_
    refine lv_goto (tgt := 72) hx hb dL_isPage_68 (by decide) ?_
    refine lv_istore (lv' := [(9, .int 1), (8, .int 0), (7, .int (nI (min 3 (zlf (hZ xx) mm 0)))), (6, .int (zcu (hST xx) (hSW xx) (hSV xx) (hSS xx) (hFT xx) (hFW xx) (hFV xx) (hFS xx) 20)), (5, .int (nI mm)), (0, .ref x0), (1, .ref ay), (2, .ref az), (3, .ref ag), (4, .int (nI ca))]) hx hb dL_isPage_72 hl (by decide) rfl (fun ls hl => ?_)
    refine lv_aload_n hx hb dL_isPage_74 rfl (lv_at hl 8 rfl) ?_
    refine lv_iconst (v := 4) hx hb dL_isPage_75 (by decide) ?_
    refine lv_iload hx hb dL_isPage_76 (lv_at hl 9 rfl) ?_
    refine lv_imul hx hb dL_isPage_78 ?_
    refine z_tv (v := nI (4 * ca)) (pk_mul 4 ca) ?_
    refine lv_iconst (v := 2) hx hb dL_isPage_79 (by decide) ?_
    refine lv_iadd hx hb dL_isPage_80 ?_
    refine z_tv (v := nI ((4 * ca) + 2)) (nI_add (4 * ca) 2) ?_
    refine z_iald hx hb hK hP 2 rfl (zix_nI (by first | assumption | omega) (by decide)) dL_isPage_81 ?_
    refine z_tv (v := fg ((4 * ca) + 2)) (rfl) ?_
    refine z_tv (v := 1) (hg2) ?_
    refine lv_iconst (v := 2) hx hb dL_isPage_82 (by decide) ?_
    refine lv_icmp_ne (tgt := 90) hx hb dL_isPage_83 (by decide) (fun c_83 => ?_) (fun c_83 => absurd c_83 (by decide))
    refine lv_iconst (v := 0) hx hb dL_isPage_90 (by decide) ?_
    refine lv_istore (lv' := [(10, .int 0), (9, .int 1), (8, .int 0), (7, .int (nI (min 3 (zlf (hZ xx) mm 0)))), (6, .int (zcu (hST xx) (hSW xx) (hSV xx) (hSS xx) (hFT xx) (hFW xx) (hFV xx) (hFS xx) 20)), (5, .int (nI mm)), (0, .ref x0), (1, .ref ay), (2, .ref az), (3, .ref ag), (4, .int (nI ca))]) hx hb dL_isPage_91 hl (by decide) rfl (fun ls hl => ?_)
    refine lv_iload hx hb dL_isPage_93 (lv_at hl 3 rfl) ?_
    refine lv_if_lt (tgt := 119) hx hb dL_isPage_95 (by decide) (fun c_95 => absurd c_95 (nI_pos (by omega))) (fun c_95 => ?_)
    refine lv_iload hx hb dL_isPage_98 (lv_at hl 3 rfl) ?_
    refine lv_iconst (v := 3) hx hb dL_isPage_100 (by decide) ?_
    refine lv_icmp_gt (tgt := 119) hx hb dL_isPage_101 (by decide) (fun c_101 => absurd c_101 (nI_nlt (a := 3) (b := min 3 (zlf (hZ xx) mm 0)) (Nat.min_le_left _ _) (by decide))) (fun c_101 => ?_)
    refine lv_iload hx hb dL_isPage_104 (lv_at hl 1 rfl) ?_
    refine lv_if_ne (tgt := 115) hx hb dL_isPage_106 (by decide) (fun c_106 => ?_) (fun c_106 => absurd c_106 (by decide))
    refine lv_iconst (v := 1) hx hb dL_isPage_115 (by decide) ?_
    refine lv_goto (tgt := 120) hx hb dL_isPage_116 (by decide) ?_
    refine lv_istore (lv' := [(11, .int 1), (10, .int 0), (9, .int 1), (8, .int 0), (7, .int (nI (min 3 (zlf (hZ xx) mm 0)))), (6, .int (zcu (hST xx) (hSW xx) (hSV xx) (hSS xx) (hFT xx) (hFW xx) (hFV xx) (hFS xx) 20)), (5, .int (nI mm)), (0, .ref x0), (1, .ref ay), (2, .ref az), (3, .ref ag), (4, .int (nI ca))]) hx hb dL_isPage_120 hl (by decide) rfl (fun ls hl => ?_)
    refine lv_bipush (v := 20) hx hb dL_isPage_122 (by decide) ?_
    refine lv_iload hx hb dL_isPage_124 (lv_at hl 11 rfl) ?_
    refine lv_imul hx hb dL_isPage_126 ?_
    refine z_tv (v := nI (20 * ca)) (pk_mul 20 ca) ?_
    refine lv_istore (lv' := [(12, .int (nI (20 * ca))), (11, .int 1), (10, .int 0), (9, .int 1), (8, .int 0), (7, .int (nI (min 3 (zlf (hZ xx) mm 0)))), (6, .int (zcu (hST xx) (hSW xx) (hSV xx) (hSS xx) (hFT xx) (hFW xx) (hFV xx) (hFS xx) 20)), (5, .int (nI mm)), (0, .ref x0), (1, .ref ay), (2, .ref az), (3, .ref ag), (4, .int (nI ca))]) hx hb dL_isPage_127 hl (by decide) rfl (fun ls hl => ?_)
    have LOOP6 : ∀ (n6 i : Nat), i ≤ 20 → 20 < i + n6 → ∀ (ls : Array Slot), lv_has ls 16 [(0, .ref x0), (1, .ref ay), (2, .ref az), (3, .ref ag), (4, .int (nI ca)), (5, .int (nI mm)), (6, .int (zcu (hST xx) (hSW xx) (hSV xx) (hSS xx) (hFT xx) (hFW xx) (hFV xx) (hFS xx) 20)), (7, .int (nI (min 3 (zlf (hZ xx) mm 0)))), (8, .int (nI (zc (fun r => decide (¬ zvl (hST ((hReadP (hOpen xx 0 (nI N)) (nI N)).2)) (hSV ((hReadP (hOpen xx 0 (nI N)) (nI N)).2)) r = zvl (hST xx) (hSV xx) r)) i))), (9, .int 1), (10, .int 0), (11, .int 1), (12, .int (nI (20 * ca + i)))] → W p l e (headSpec wsL_isPage ({ frames := 9, cells := 0, slots := 0, locals := 158 })).room s m ([.ref x0, .ref ay, .ref az, .ref ag, .int (nI ca)] : List Value).toArray below meth c H locs (0) (0) (MQ below (zQi dC dI 1 ([(ay, .inl (cI, 60, .inl fy)), (az, .inl (cI, 60, .inl fz)), (ag, .inl (cI, 12, .inl (upd fg (4 * ca + 2) (if zlf (hZ xx) mm 0 ≤ 3 then 0 else 1))))] ++ zOb cI cZ cH x0 xq xg had (nI N) (zup σ ca (hReadP (hOpen xx 0 (nI N)) (nI N)).2)) A) ([.ref x0, .ref ay, .ref az, .ref ag, .int (nI ca)] : List Value).toArray s 0 0 A) (F0 m 129 ls []) := by
      intro n6
      induction n6 with
      | zero => intro i h1 h2; exact absurd h2 (by omega)
      | succ n6 ih6 =>
        intro i hi hin   ls hl
        refine lv_iload hx hb dL_isPage_129 (lv_at hl 12 rfl) ?_
        refine lv_bipush (v := 20) hx hb dL_isPage_131 (by decide) ?_
        refine lv_iload hx hb dL_isPage_133 (lv_at hl 4 rfl) ?_
        refine lv_imul hx hb dL_isPage_135 ?_
        refine z_tv (v := nI (20 * ca)) (pk_mul 20 ca) ?_
        refine lv_bipush (v := 20) hx hb dL_isPage_136 (by decide) ?_
        refine lv_iadd hx hb dL_isPage_138 ?_
        refine z_tv (v := nI (20 * ca + 20)) (nI_add (20 * ca) 20) ?_
        refine lv_icmp_ge (tgt := 262) hx hb dL_isPage_139 (by decide) (fun c_139 => ?_) (fun c_139 => ?_)
        · skip
          have e20 : i = 20 := z_ge20b hi (by omega) c_139
          subst e20
          refine lv_iload hx hb dL_isPage_262 (lv_at hl 11 rfl) ?_
          refine lv_if_eq (tgt := 339) hx hb dL_isPage_264 (by decide) (fun c_264 => absurd c_264 (by decide)) (fun c_264 => ?_)
          refine lv_iload hx hb dL_isPage_267 (lv_at hl 9 rfl) ?_
          refine lv_if_eq (tgt := 277) hx hb dL_isPage_269 (by decide) (fun c_269 => absurd c_269 (by decide)) (fun c_269 => ?_)
          refine lv_iload hx hb dL_isPage_272 (lv_at hl 10 rfl) ?_
          refine lv_if_ne (tgt := 284) hx hb dL_isPage_274 (by decide) (fun c_274 => absurd c_274 (by decide)) (fun c_274 => ?_)
          refine lv_iload hx hb dL_isPage_277 (lv_at hl 8 rfl) ?_
          refine lv_iload hx hb dL_isPage_279 (lv_at hl 7 rfl) ?_
          refine lv_icmp_gt (tgt := 339) hx hb dL_isPage_281 (by decide) (fun c_281 => absurd c_281 (nI_nlt (r4 (by rintro ⟨q1, q2⟩; first | omega | exact absurd q2 (by decide))) (by omega))) (fun c_281 => ?_)
          refine lv_iload hx hb dL_isPage_284 (lv_at hl 9 rfl) ?_
          refine lv_if_ne (tgt := 300) hx hb dL_isPage_286 (by decide) (fun c_286 => ?_) (fun c_286 => absurd c_286 (by decide))
          refine lv_iload hx hb dL_isPage_300 (lv_at hl 9 rfl) ?_
          refine lv_if_eq (tgt := 310) hx hb dL_isPage_302 (by decide) (fun c_302 => absurd c_302 (by decide)) (fun c_302 => ?_)
          refine lv_iload hx hb dL_isPage_305 (lv_at hl 10 rfl) ?_
          refine lv_if_ne (tgt := 335) hx hb dL_isPage_307 (by decide) (fun c_307 => absurd c_307 (by decide)) (fun c_307 => ?_)
          obtain ⟨wa, wb, k1, k2, k3, k4, k5⟩ := r5 (by rintro ⟨q1, q2⟩; first | omega | exact absurd q2 (by decide))
          refine lv_aload_n hx hb dL_isPage_310 rfl (lv_at hl 0 rfl) ?_
          refine lv_iload hx hb dL_isPage_311 (lv_at hl 4 rfl) ?_
          refine z_cRi (va_runV (As := [.int (nI ca)]) (rest := []) ⟨hx, hb, hml, hown, hts⟩ (c_wrong l dC dI cI cZ cH cJ x0 xq (nI N) xg had hg (zup σ ca ((hReadP (hOpen xx 0 (nI N)) (nI N)).2)) ca (by first | assumption | omega)) (cwV 1 hts gL_isPage_X3_wrong rfl rfl rfl (by decide +kernel) ⟨Nat.le_of_ble_eq_true rfl, Nat.le_of_ble_eq_true rfl⟩) (zPreR1 hK (zP_r hP) (zrecv hK (zP_r hP))) rfl rfl hl.1 rfl (lv_room (Nat.le_of_ble_eq_true rfl)) dL_isPage_313 ⟨Nat.le_of_ble_eq_true rfl, Nat.le_of_ble_eq_true rfl⟩) ?_
          refine z_tv (v := zcu (hST ((hReadP (hOpen xx 0 (nI N)) (nI N)).2)) (hSW ((hReadP (hOpen xx 0 (nI N)) (nI N)).2)) (hSV ((hReadP (hOpen xx 0 (nI N)) (nI N)).2)) (hSS ((hReadP (hOpen xx 0 (nI N)) (nI N)).2)) (hFT ((hReadP (hOpen xx 0 (nI N)) (nI N)).2)) (hFW ((hReadP (hOpen xx 0 (nI N)) (nI N)).2)) (hFV ((hReadP (hOpen xx 0 (nI N)) (nI N)).2)) (hFS ((hReadP (hOpen xx 0 (nI N)) (nI N)).2)) 20) (by rw [zup_s]) ?_
          refine lv_iload hx hb dL_isPage_316 (lv_at hl 6 rfl) ?_
          refine lv_icmp_gt (tgt := 339) hx hb dL_isPage_318 (by decide) (fun c_318 => absurd c_318 (by rw [k1, k2]; exact nI_nlt k3 (by omega))) (fun c_318 => ?_)
          refine lv_aload_n hx hb dL_isPage_321 rfl (lv_at hl 0 rfl) ?_
          refine lv_iload hx hb dL_isPage_322 (lv_at hl 4 rfl) ?_
          refine z_cRi (va_runV (As := [.int (nI ca)]) (rest := []) ⟨hx, hb, hml, hown, hts⟩ (c_wrong l dC dI cI cZ cH cJ x0 xq (nI N) xg had hg (zup σ ca ((hReadP (hOpen xx 0 (nI N)) (nI N)).2)) ca (by first | assumption | omega)) (cwV 1 hts gL_isPage_X3_wrong rfl rfl rfl (by decide +kernel) ⟨Nat.le_of_ble_eq_true rfl, Nat.le_of_ble_eq_true rfl⟩) (zPreR1 hK (zP_r hP) (zrecv hK (zP_r hP))) rfl rfl hl.1 rfl (lv_room (Nat.le_of_ble_eq_true rfl)) dL_isPage_324 ⟨Nat.le_of_ble_eq_true rfl, Nat.le_of_ble_eq_true rfl⟩) ?_
          refine z_tv (v := zcu (hST ((hReadP (hOpen xx 0 (nI N)) (nI N)).2)) (hSW ((hReadP (hOpen xx 0 (nI N)) (nI N)).2)) (hSV ((hReadP (hOpen xx 0 (nI N)) (nI N)).2)) (hSS ((hReadP (hOpen xx 0 (nI N)) (nI N)).2)) (hFT ((hReadP (hOpen xx 0 (nI N)) (nI N)).2)) (hFW ((hReadP (hOpen xx 0 (nI N)) (nI N)).2)) (hFV ((hReadP (hOpen xx 0 (nI N)) (nI N)).2)) (hFS ((hReadP (hOpen xx 0 (nI N)) (nI N)).2)) 20) (by rw [zup_s]) ?_
          refine lv_iload hx hb dL_isPage_327 (lv_at hl 6 rfl) ?_
          refine lv_iload hx hb dL_isPage_329 (lv_at hl 7 rfl) ?_
          refine lv_isub hx hb dL_isPage_331 ?_
          refine lv_icmp_lt (tgt := 339) hx hb dL_isPage_332 (by decide) (fun c_332 => absurd c_332 (by rw [k1, k2]; exact (zdf k4 k5 (Nat.min_le_left _ _)).resolve_right (by omega))) (fun c_332 => ?_)
          refine lv_iconst (v := 1) hx hb dL_isPage_335 (by decide) ?_
          refine lv_goto (tgt := 340) hx hb dL_isPage_336 (by decide) ?_
          refine lv_istore (lv' := [(11, .int 1), (0, .ref x0), (1, .ref ay), (2, .ref az), (3, .ref ag), (4, .int (nI ca)), (5, .int (nI mm)), (6, .int (zcu (hST xx) (hSW xx) (hSV xx) (hSS xx) (hFT xx) (hFW xx) (hFV xx) (hFS xx) 20)), (7, .int (nI (min 3 (zlf (hZ xx) mm 0)))), (8, .int (nI (zc (fun r => decide (¬ zvl (hST ((hReadP (hOpen xx 0 (nI N)) (nI N)).2)) (hSV ((hReadP (hOpen xx 0 (nI N)) (nI N)).2)) r = zvl (hST xx) (hSV xx) r)) 20))), (9, .int 1), (10, .int 0), (12, .int (nI (20 * ca + 20)))]) hx hb dL_isPage_340 hl (by decide) rfl (fun ls hl => ?_)
          refine lv_aload_n hx hb dL_isPage_342 rfl (lv_at hl 4 rfl) ?_
          refine lv_iconst (v := 4) hx hb dL_isPage_343 (by decide) ?_
          refine lv_iload hx hb dL_isPage_344 (lv_at hl 5 rfl) ?_
          refine lv_imul hx hb dL_isPage_346 ?_
          refine z_tv (v := nI (4 * ca)) (pk_mul 4 ca) ?_
          refine lv_iconst (v := 2) hx hb dL_isPage_347 (by decide) ?_
          refine lv_iadd hx hb dL_isPage_348 ?_
          refine z_tv (v := nI ((4 * ca) + 2)) (nI_add (4 * ca) 2) ?_
          refine lv_iload hx hb dL_isPage_349 (lv_at hl 10 rfl) ?_
          refine lv_if_eq (tgt := 358) hx hb dL_isPage_351 (by decide) (fun c_351 => absurd c_351 (by decide)) (fun c_351 => ?_)
          refine lv_iconst (v := 0) hx hb dL_isPage_354 (by decide) ?_
          refine lv_goto (tgt := 366) hx hb dL_isPage_355 (by decide) ?_
          refine z_iast hx hb hK hP hD hS 2 rfl (zix_nI (by first | assumption | omega) (by decide)) dL_isPage_366 (fun H locs hP hD hS => ?_)
          have hP : va_P (dC, dI) vwCl ([(ay, .inl (cI, 60, .inl fy)), (az, .inl (cI, 60, .inl fz)), (ag, .inl (cI, 12, .inl (upd fg ((4 * ca) + 2) 0)))] ++ zOb cI cZ cH x0 xq xg had (nI N) (zup σ ca ((hReadP (hOpen xx 0 (nI N)) (nI N)).2))) H := hP
          have hD : va_D A ([(ay, .inl (cI, 60, .inl fy)), (az, .inl (cI, 60, .inl fz)), (ag, .inl (cI, 12, .inl (upd fg ((4 * ca) + 2) 0)))] ++ zOb cI cZ cH x0 xq xg had (nI N) (zup σ ca ((hReadP (hOpen xx 0 (nI N)) (nI N)).2))) := hD
          refine lv_iload hx hb dL_isPage_367 (lv_at hl 0 rfl) ?_
          have hP := zP_eq (ws' := [(ay, .inl (cI, 60, .inl fy)), (az, .inl (cI, 60, .inl fz)), (ag, .inl (cI, 12, .inl (upd fg (4 * ca + 2) (if zlf (hZ xx) mm 0 ≤ 3 then 0 else 1))))] ++ zOb cI cZ cH x0 xq xg had (nI N) (zup σ ca (hReadP (hOpen xx 0 (nI N)) (nI N)).2)) hP (zw_t (zw_k (zw_k (zw_a (by first | rw [if_pos hle] | rw [if_neg (Nat.not_le.mpr hgt)]) (rfl)))) (rfl))
          have hD := zD_eq (ws' := [(ay, .inl (cI, 60, .inl fy)), (az, .inl (cI, 60, .inl fz)), (ag, .inl (cI, 12, .inl (upd fg (4 * ca + 2) (if zlf (hZ xx) mm 0 ≤ 3 then 0 else 1))))] ++ zOb cI cZ cH x0 xq xg had (nI N) (zup σ ca (hReadP (hOpen xx 0 (nI N)) (nI N)).2)) hD (zw_t (zw_k (zw_k (zw_a (by first | rw [if_pos hle] | rw [if_neg (Nat.not_le.mpr hgt)]) (rfl)))) (rfl))
          exact W.zret (ty := .boolean) hx hb hr (rfl) (fun t ht hW => ⟨rfl, ⟨by rw [ht]; exact hP, hD⟩, hS.F ht⟩) hS.2.2 dL_isPage_369
        · skip
          have hlt : i < 20 := z_lt20b hi (by omega) c_139
          have hyi := zfr_y (hCF.2 i hlt) hN
          have hzi := zrc_z (hCZ i hlt) hN
          have hvi := r3 i hlt
          refine lv_iload hx hb dL_isPage_142 (lv_at hl 11 rfl) ?_
          refine lv_if_eq (tgt := 262) hx hb dL_isPage_144 (by decide) (fun c_144 => absurd c_144 (by decide)) (fun c_144 => ?_)
          refine lv_aload_n hx hb dL_isPage_147 rfl (lv_at hl 0 rfl) ?_
          refine lv_iload hx hb dL_isPage_148 (lv_at hl 4 rfl) ?_
          refine lv_iload hx hb dL_isPage_150 (lv_at hl 12 rfl) ?_
          refine lv_bipush (v := 20) hx hb dL_isPage_152 (by decide) ?_
          refine lv_irem hx hb dL_isPage_154 (by decide) ?_
          refine z_tv (v := nI i) (zk20 hlt hca) ?_
          refine z_cRi (va_runV (As := [.int (nI ca), .int (nI i)]) (rest := []) ⟨hx, hb, hml, hown, hts⟩ (c_stored l dC dI cI cZ cH cJ x0 xq (nI N) xg had hg (zup σ ca ((hReadP (hOpen xx 0 (nI N)) (nI N)).2)) ca (by first | assumption | omega) i (by first | assumption | omega)) (cwV 2 hts gL_isPage_X3_stored rfl rfl rfl (by decide +kernel) ⟨Nat.le_of_ble_eq_true rfl, Nat.le_of_ble_eq_true rfl⟩) (zPreR1 hK (zP_r hP) (zrecv hK (zP_r hP))) rfl rfl hl.1 rfl (lv_room (Nat.le_of_ble_eq_true rfl)) dL_isPage_155 ⟨Nat.le_of_ble_eq_true rfl, Nat.le_of_ble_eq_true rfl⟩) ?_
          refine z_tv (v := zvl (hST ((hReadP (hOpen xx 0 (nI N)) (nI N)).2)) (hSV ((hReadP (hOpen xx 0 (nI N)) (nI N)).2)) i) (by rw [zup_s]; rfl) ?_
          refine lv_istore (lv' := [(13, .int (zvl (hST ((hReadP (hOpen xx 0 (nI N)) (nI N)).2)) (hSV ((hReadP (hOpen xx 0 (nI N)) (nI N)).2)) i)), (0, .ref x0), (1, .ref ay), (2, .ref az), (3, .ref ag), (4, .int (nI ca)), (5, .int (nI mm)), (6, .int (zcu (hST xx) (hSW xx) (hSV xx) (hSS xx) (hFT xx) (hFW xx) (hFV xx) (hFS xx) 20)), (7, .int (nI (min 3 (zlf (hZ xx) mm 0)))), (8, .int (nI (zc (fun r => decide (¬ zvl (hST ((hReadP (hOpen xx 0 (nI N)) (nI N)).2)) (hSV ((hReadP (hOpen xx 0 (nI N)) (nI N)).2)) r = zvl (hST xx) (hSV xx) r)) i))), (9, .int 1), (10, .int 0), (11, .int 1), (12, .int (nI (20 * ca + i)))]) hx hb dL_isPage_158 hl (by decide) rfl (fun ls hl => ?_)
          have J179_7 : ∀ (ls : Array Slot), lv_has ls 16 [(13, .int (zvl (hST ((hReadP (hOpen xx 0 (nI N)) (nI N)).2)) (hSV ((hReadP (hOpen xx 0 (nI N)) (nI N)).2)) i)), (0, .ref x0), (1, .ref ay), (2, .ref az), (3, .ref ag), (4, .int (nI ca)), (5, .int (nI mm)), (6, .int (zcu (hST xx) (hSW xx) (hSV xx) (hSS xx) (hFT xx) (hFW xx) (hFV xx) (hFS xx) 20)), (7, .int (nI (min 3 (zlf (hZ xx) mm 0)))), (8, .int (nI (zc (fun r => decide (¬ zvl (hST ((hReadP (hOpen xx 0 (nI N)) (nI N)).2)) (hSV ((hReadP (hOpen xx 0 (nI N)) (nI N)).2)) r = zvl (hST xx) (hSV xx) r)) i))), (9, .int 1), (10, .int 0), (11, .int 1), (12, .int (nI (20 * ca + i)))] → W p l e (headSpec wsL_isPage ({ frames := 9, cells := 0, slots := 0, locals := 158 })).room s m ([.ref x0, .ref ay, .ref az, .ref ag, .int (nI ca)] : List Value).toArray below meth c H locs 0 0 (MQ below (zQi dC dI 1 ([(ay, .inl (cI, 60, .inl fy)), (az, .inl (cI, 60, .inl fz)), (ag, .inl (cI, 12, .inl (upd fg (4 * ca + 2) (if zlf (hZ xx) mm 0 ≤ 3 then 0 else 1))))] ++ zOb cI cZ cH x0 xq xg had (nI N) (zup σ ca (hReadP (hOpen xx 0 (nI N)) (nI N)).2)) A) ([.ref x0, .ref ay, .ref az, .ref ag, .int (nI ca)] : List Value).toArray s 0 0 A) (F0 m 179 ls [.int (zvl (hFT xx) (hFV xx) i)]) := by
            intro ls hl
            refine lv_istore (lv' := [(14, .int (zvl (hFT xx) (hFV xx) i)), (13, .int (zvl (hST ((hReadP (hOpen xx 0 (nI N)) (nI N)).2)) (hSV ((hReadP (hOpen xx 0 (nI N)) (nI N)).2)) i)), (0, .ref x0), (1, .ref ay), (2, .ref az), (3, .ref ag), (4, .int (nI ca)), (5, .int (nI mm)), (6, .int (zcu (hST xx) (hSW xx) (hSV xx) (hSS xx) (hFT xx) (hFW xx) (hFV xx) (hFS xx) 20)), (7, .int (nI (min 3 (zlf (hZ xx) mm 0)))), (8, .int (nI (zc (fun r => decide (¬ zvl (hST ((hReadP (hOpen xx 0 (nI N)) (nI N)).2)) (hSV ((hReadP (hOpen xx 0 (nI N)) (nI N)).2)) r = zvl (hST xx) (hSV xx) r)) i))), (9, .int 1), (10, .int 0), (11, .int 1), (12, .int (nI (20 * ca + i)))]) hx hb dL_isPage_179 hl (by decide) rfl (fun ls hl => ?_)
            have J200_8 : ∀ (ls : Array Slot), lv_has ls 16 [(14, .int (zvl (hFT xx) (hFV xx) i)), (13, .int (zvl (hST ((hReadP (hOpen xx 0 (nI N)) (nI N)).2)) (hSV ((hReadP (hOpen xx 0 (nI N)) (nI N)).2)) i)), (0, .ref x0), (1, .ref ay), (2, .ref az), (3, .ref ag), (4, .int (nI ca)), (5, .int (nI mm)), (6, .int (zcu (hST xx) (hSW xx) (hSV xx) (hSS xx) (hFT xx) (hFW xx) (hFV xx) (hFS xx) 20)), (7, .int (nI (min 3 (zlf (hZ xx) mm 0)))), (8, .int (nI (zc (fun r => decide (¬ zvl (hST ((hReadP (hOpen xx 0 (nI N)) (nI N)).2)) (hSV ((hReadP (hOpen xx 0 (nI N)) (nI N)).2)) r = zvl (hST xx) (hSV xx) r)) i))), (9, .int 1), (10, .int 0), (11, .int 1), (12, .int (nI (20 * ca + i)))] → W p l e (headSpec wsL_isPage ({ frames := 9, cells := 0, slots := 0, locals := 158 })).room s m ([.ref x0, .ref ay, .ref az, .ref ag, .int (nI ca)] : List Value).toArray below meth c H locs 0 0 (MQ below (zQi dC dI 1 ([(ay, .inl (cI, 60, .inl fy)), (az, .inl (cI, 60, .inl fz)), (ag, .inl (cI, 12, .inl (upd fg (4 * ca + 2) (if zlf (hZ xx) mm 0 ≤ 3 then 0 else 1))))] ++ zOb cI cZ cH x0 xq xg had (nI N) (zup σ ca (hReadP (hOpen xx 0 (nI N)) (nI N)).2)) A) ([.ref x0, .ref ay, .ref az, .ref ag, .int (nI ca)] : List Value).toArray s 0 0 A) (F0 m 200 ls [.int (zvl (hST xx) (hSV xx) i)]) := by
              intro ls hl
              refine lv_istore (lv' := [(15, .int (zvl (hST xx) (hSV xx) i)), (14, .int (zvl (hFT xx) (hFV xx) i)), (13, .int (zvl (hST ((hReadP (hOpen xx 0 (nI N)) (nI N)).2)) (hSV ((hReadP (hOpen xx 0 (nI N)) (nI N)).2)) i)), (0, .ref x0), (1, .ref ay), (2, .ref az), (3, .ref ag), (4, .int (nI ca)), (5, .int (nI mm)), (6, .int (zcu (hST xx) (hSW xx) (hSV xx) (hSS xx) (hFT xx) (hFW xx) (hFV xx) (hFS xx) 20)), (7, .int (nI (min 3 (zlf (hZ xx) mm 0)))), (8, .int (nI (zc (fun r => decide (¬ zvl (hST ((hReadP (hOpen xx 0 (nI N)) (nI N)).2)) (hSV ((hReadP (hOpen xx 0 (nI N)) (nI N)).2)) r = zvl (hST xx) (hSV xx) r)) i))), (9, .int 1), (10, .int 0), (11, .int 1), (12, .int (nI (20 * ca + i)))]) hx hb dL_isPage_200 hl (by decide) rfl (fun ls hl => ?_)
              have J232_9 : ∀ (ls : Array Slot), lv_has ls 16 [(15, .int (zvl (hST xx) (hSV xx) i)), (14, .int (zvl (hFT xx) (hFV xx) i)), (13, .int (zvl (hST ((hReadP (hOpen xx 0 (nI N)) (nI N)).2)) (hSV ((hReadP (hOpen xx 0 (nI N)) (nI N)).2)) i)), (0, .ref x0), (1, .ref ay), (2, .ref az), (3, .ref ag), (4, .int (nI ca)), (5, .int (nI mm)), (6, .int (zcu (hST xx) (hSW xx) (hSV xx) (hSS xx) (hFT xx) (hFW xx) (hFV xx) (hFS xx) 20)), (7, .int (nI (min 3 (zlf (hZ xx) mm 0)))), (8, .int (nI (zc (fun r => decide (¬ zvl (hST ((hReadP (hOpen xx 0 (nI N)) (nI N)).2)) (hSV ((hReadP (hOpen xx 0 (nI N)) (nI N)).2)) r = zvl (hST xx) (hSV xx) r)) i))), (9, .int 1), (10, .int 0), (11, .int 1), (12, .int (nI (20 * ca + i)))] → W p l e (headSpec wsL_isPage ({ frames := 9, cells := 0, slots := 0, locals := 158 })).room s m ([.ref x0, .ref ay, .ref az, .ref ag, .int (nI ca)] : List Value).toArray below meth c H locs 0 0 (MQ below (zQi dC dI 1 ([(ay, .inl (cI, 60, .inl fy)), (az, .inl (cI, 60, .inl fz)), (ag, .inl (cI, 12, .inl (upd fg (4 * ca + 2) (if zlf (hZ xx) mm 0 ≤ 3 then 0 else 1))))] ++ zOb cI cZ cH x0 xq xg had (nI N) (zup σ ca (hReadP (hOpen xx 0 (nI N)) (nI N)).2)) A) ([.ref x0, .ref ay, .ref az, .ref ag, .int (nI ca)] : List Value).toArray s 0 0 A) (F0 m 232 ls []) := by
                intro ls hl
                refine lv_iconst (v := 1) hx hb dL_isPage_232 (by decide) ?_
                refine lv_goto (tgt := 237) hx hb dL_isPage_233 (by decide) ?_
                refine lv_istore (lv' := [(11, .int 1), (15, .int (zvl (hST xx) (hSV xx) i)), (14, .int (zvl (hFT xx) (hFV xx) i)), (13, .int (zvl (hST ((hReadP (hOpen xx 0 (nI N)) (nI N)).2)) (hSV ((hReadP (hOpen xx 0 (nI N)) (nI N)).2)) i)), (0, .ref x0), (1, .ref ay), (2, .ref az), (3, .ref ag), (4, .int (nI ca)), (5, .int (nI mm)), (6, .int (zcu (hST xx) (hSW xx) (hSV xx) (hSS xx) (hFT xx) (hFW xx) (hFV xx) (hFS xx) 20)), (7, .int (nI (min 3 (zlf (hZ xx) mm 0)))), (8, .int (nI (zc (fun r => decide (¬ zvl (hST ((hReadP (hOpen xx 0 (nI N)) (nI N)).2)) (hSV ((hReadP (hOpen xx 0 (nI N)) (nI N)).2)) r = zvl (hST xx) (hSV xx) r)) i))), (9, .int 1), (10, .int 0), (12, .int (nI (20 * ca + i)))]) hx hb dL_isPage_237 hl (by decide) rfl (fun ls hl => ?_)
                refine lv_iload hx hb dL_isPage_239 (lv_at hl 12 rfl) ?_
                have J253_10 : ∀ (ls : Array Slot), lv_has ls 16 [(11, .int 1), (15, .int (zvl (hST xx) (hSV xx) i)), (14, .int (zvl (hFT xx) (hFV xx) i)), (13, .int (zvl (hST ((hReadP (hOpen xx 0 (nI N)) (nI N)).2)) (hSV ((hReadP (hOpen xx 0 (nI N)) (nI N)).2)) i)), (0, .ref x0), (1, .ref ay), (2, .ref az), (3, .ref ag), (4, .int (nI ca)), (5, .int (nI mm)), (6, .int (zcu (hST xx) (hSW xx) (hSV xx) (hSS xx) (hFT xx) (hFW xx) (hFV xx) (hFS xx) 20)), (7, .int (nI (min 3 (zlf (hZ xx) mm 0)))), (8, .int (nI (zc (fun r => decide (¬ zvl (hST ((hReadP (hOpen xx 0 (nI N)) (nI N)).2)) (hSV ((hReadP (hOpen xx 0 (nI N)) (nI N)).2)) r = zvl (hST xx) (hSV xx) r)) i))), (9, .int 1), (10, .int 0), (12, .int (nI (20 * ca + i)))] → W p l e (headSpec wsL_isPage ({ frames := 9, cells := 0, slots := 0, locals := 158 })).room s m ([.ref x0, .ref ay, .ref az, .ref ag, .int (nI ca)] : List Value).toArray below meth c H locs 0 0 (MQ below (zQi dC dI 1 ([(ay, .inl (cI, 60, .inl fy)), (az, .inl (cI, 60, .inl fz)), (ag, .inl (cI, 12, .inl (upd fg (4 * ca + 2) (if zlf (hZ xx) mm 0 ≤ 3 then 0 else 1))))] ++ zOb cI cZ cH x0 xq xg had (nI N) (zup σ ca (hReadP (hOpen xx 0 (nI N)) (nI N)).2)) A) ([.ref x0, .ref ay, .ref az, .ref ag, .int (nI ca)] : List Value).toArray s 0 0 A) (F0 m 253 ls [.int (if ¬ zvl (hST ((hReadP (hOpen xx 0 (nI N)) (nI N)).2)) (hSV ((hReadP (hOpen xx 0 (nI N)) (nI N)).2)) i = zvl (hST xx) (hSV xx) i then (1 : Int32) else 0), .int (nI (zc (fun r => decide (¬ zvl (hST ((hReadP (hOpen xx 0 (nI N)) (nI N)).2)) (hSV ((hReadP (hOpen xx 0 (nI N)) (nI N)).2)) r = zvl (hST xx) (hSV xx) r)) i))]) := by
                  intro ls hl
                  refine lv_iadd hx hb dL_isPage_253 ?_
                  refine z_tv (v := nI (zc (fun r => decide (¬ zvl (hST ((hReadP (hOpen xx 0 (nI N)) (nI N)).2)) (hSV ((hReadP (hOpen xx 0 (nI N)) (nI N)).2)) r = zvl (hST xx) (hSV xx) r)) (i + 1))) (zc_ad rfl) ?_
                  refine lv_istore (lv' := [(8, .int (nI (zc (fun r => decide (¬ zvl (hST ((hReadP (hOpen xx 0 (nI N)) (nI N)).2)) (hSV ((hReadP (hOpen xx 0 (nI N)) (nI N)).2)) r = zvl (hST xx) (hSV xx) r)) (i + 1)))), (11, .int 1), (15, .int (zvl (hST xx) (hSV xx) i)), (14, .int (zvl (hFT xx) (hFV xx) i)), (13, .int (zvl (hST ((hReadP (hOpen xx 0 (nI N)) (nI N)).2)) (hSV ((hReadP (hOpen xx 0 (nI N)) (nI N)).2)) i)), (0, .ref x0), (1, .ref ay), (2, .ref az), (3, .ref ag), (4, .int (nI ca)), (5, .int (nI mm)), (6, .int (zcu (hST xx) (hSW xx) (hSV xx) (hSS xx) (hFT xx) (hFW xx) (hFV xx) (hFS xx) 20)), (7, .int (nI (min 3 (zlf (hZ xx) mm 0)))), (9, .int 1), (10, .int 0), (12, .int (nI (20 * ca + i)))]) hx hb dL_isPage_254 hl (by decide) rfl (fun ls hl => ?_)
                  refine lv_iinc (v := nI (20 * ca + (i + 1))) (lv' := [(12, .int (nI (20 * ca + (i + 1)))), (8, .int (nI (zc (fun r => decide (¬ zvl (hST ((hReadP (hOpen xx 0 (nI N)) (nI N)).2)) (hSV ((hReadP (hOpen xx 0 (nI N)) (nI N)).2)) r = zvl (hST xx) (hSV xx) r)) (i + 1)))), (11, .int 1), (15, .int (zvl (hST xx) (hSV xx) i)), (14, .int (zvl (hFT xx) (hFV xx) i)), (13, .int (zvl (hST ((hReadP (hOpen xx 0 (nI N)) (nI N)).2)) (hSV ((hReadP (hOpen xx 0 (nI N)) (nI N)).2)) i)), (0, .ref x0), (1, .ref ay), (2, .ref az), (3, .ref ag), (4, .int (nI ca)), (5, .int (nI mm)), (6, .int (zcu (hST xx) (hSW xx) (hSV xx) (hSS xx) (hFT xx) (hFW xx) (hFV xx) (hFS xx) 20)), (7, .int (nI (min 3 (zlf (hZ xx) mm 0)))), (9, .int 1), (10, .int 0)]) hx hb dL_isPage_256 hl (k := 15) rfl (z_1) (by decide) rfl (fun ls hl => ?_)
                  refine lv_goto (tgt := 129) hx hb dL_isPage_259 (by decide) ?_
                  exact ih6 (i + 1) (by omega) (by omega)  _ (lv_sub hl [6, 7, 8, 9, 10, 11, 12, 13, 1, 14, 15, 2, 0] rfl)
                refine lv_iload hx hb dL_isPage_241 (lv_at hl 3 rfl) ?_
                refine lv_iload hx hb dL_isPage_243 (lv_at hl 1 rfl) ?_
                refine lv_icmp_eq (tgt := 252) hx hb dL_isPage_245 (by decide) (fun c_245 => ?_) (fun c_245 => ?_)
                · skip
                  refine lv_iconst (v := 0) hx hb dL_isPage_252 (by decide) ?_
                  refine z_tv (v := if ¬ zvl (hST ((hReadP (hOpen xx 0 (nI N)) (nI N)).2)) (hSV ((hReadP (hOpen xx 0 (nI N)) (nI N)).2)) i = zvl (hST xx) (hSV xx) i then (1 : Int32) else 0) (by simp only [c_245, if_true, if_false, not_true, not_false_eq_true]) ?_
                  exact J253_10 _ (lv_sub hl [0, 1, 2, 3, 4, 5, 6, 7, 8, 9, 10, 11, 12, 13, 14, 15] rfl)
                · skip
                  refine lv_iconst (v := 1) hx hb dL_isPage_248 (by decide) ?_
                  refine lv_goto (tgt := 253) hx hb dL_isPage_249 (by decide) ?_
                  refine z_tv (v := if ¬ zvl (hST ((hReadP (hOpen xx 0 (nI N)) (nI N)).2)) (hSV ((hReadP (hOpen xx 0 (nI N)) (nI N)).2)) i = zvl (hST xx) (hSV xx) i then (1 : Int32) else 0) (by simp only [c_245, if_true, if_false, not_true, not_false_eq_true]) ?_
                  exact J253_10 _ (lv_sub hl [0, 1, 2, 3, 4, 5, 6, 7, 8, 9, 10, 11, 12, 13, 14, 15] rfl)
              refine lv_iload hx hb dL_isPage_202 (lv_at hl 2 rfl) ?_
              refine lv_iload hx hb dL_isPage_204 (lv_at hl 1 rfl) ?_
              refine lv_icmp_eq (tgt := 232) hx hb dL_isPage_206 (by decide) (fun c_206 => ?_) (fun c_206 => ?_)
              · skip
                exact J232_9 _ (lv_sub hl [0, 1, 2, 3, 4, 5, 6, 7, 8, 9, 10, 11, 12, 13, 14, 15] rfl)
              · skip
                refine lv_iload hx hb dL_isPage_209 (lv_at hl 2 rfl) ?_
                refine lv_iload hx hb dL_isPage_211 (lv_at hl 0 rfl) ?_
                refine lv_icmp_eq (tgt := 232) hx hb dL_isPage_213 (by decide) (fun c_213 => ?_) (fun c_213 => absurd c_213 (fun q => hvi.elim c_206 q))
                exact J232_9 _ (lv_sub hl [0, 1, 2, 3, 4, 5, 6, 7, 8, 9, 10, 11, 12, 13, 14, 15] rfl)
            refine lv_aload_n hx hb dL_isPage_181 rfl (lv_at hl 4 rfl) ?_
            refine lv_iload hx hb dL_isPage_182 (lv_at hl 14 rfl) ?_
            refine z_iald hx hb hK hP 1 rfl (zix_nI (by first | assumption | omega) (by decide)) dL_isPage_184 ?_
            refine z_tv (v := fz (20 * ca + i)) (rfl) ?_
            refine lv_if_ge (tgt := 192) hx hb dL_isPage_185 (by decide) (fun c_185 => ?_) (fun c_185 => ?_)
            · skip
              refine lv_aload_n hx hb dL_isPage_192 rfl (lv_at hl 4 rfl) ?_
              refine lv_iload hx hb dL_isPage_193 (lv_at hl 14 rfl) ?_
              refine z_iald hx hb hK hP 1 rfl (zix_nI (by first | assumption | omega) (by decide)) dL_isPage_195 ?_
              refine z_tv (v := fz (20 * ca + i)) (rfl) ?_
              refine lv_sipush (v := 1023) hx hb dL_isPage_196 (by decide) ?_
              refine lv_iand hx hb dL_isPage_199 ?_
              refine z_tv (v := zvl (hST xx) (hSV xx) i) (by unfold zvl; grind) ?_
              exact J200_8 _ (lv_sub hl [0, 1, 2, 3, 4, 5, 6, 7, 8, 9, 10, 11, 12, 13, 14] rfl)
            · skip
              refine lv_iconst (v := (-1)) hx hb dL_isPage_188 (by decide) ?_
              refine lv_goto (tgt := 200) hx hb dL_isPage_189 (by decide) ?_
              refine z_tv (v := zvl (hST xx) (hSV xx) i) (by unfold zvl; grind) ?_
              exact J200_8 _ (lv_sub hl [0, 1, 2, 3, 4, 5, 6, 7, 8, 9, 10, 11, 12, 13, 14] rfl)
          refine lv_aload_n hx hb dL_isPage_160 rfl (lv_at hl 2 rfl) ?_
          refine lv_iload hx hb dL_isPage_161 (lv_at hl 13 rfl) ?_
          refine z_iald hx hb hK hP 0 rfl (zix_nI (by first | assumption | omega) (by decide)) dL_isPage_163 ?_
          refine z_tv (v := fy (20 * ca + i)) (rfl) ?_
          refine lv_if_ge (tgt := 171) hx hb dL_isPage_164 (by decide) (fun c_164 => ?_) (fun c_164 => ?_)
          · skip
            refine lv_aload_n hx hb dL_isPage_171 rfl (lv_at hl 2 rfl) ?_
            refine lv_iload hx hb dL_isPage_172 (lv_at hl 13 rfl) ?_
            refine z_iald hx hb hK hP 0 rfl (zix_nI (by first | assumption | omega) (by decide)) dL_isPage_174 ?_
            refine z_tv (v := fy (20 * ca + i)) (rfl) ?_
            refine lv_sipush (v := 1023) hx hb dL_isPage_175 (by decide) ?_
            refine lv_iand hx hb dL_isPage_178 ?_
            refine z_tv (v := zvl (hFT xx) (hFV xx) i) (by unfold zvl; grind) ?_
            exact J179_7 _ (lv_sub hl [0, 1, 2, 3, 4, 5, 6, 7, 8, 9, 10, 11, 12, 13] rfl)
          · skip
            refine lv_iconst (v := (-1)) hx hb dL_isPage_167 (by decide) ?_
            refine lv_goto (tgt := 179) hx hb dL_isPage_168 (by decide) ?_
            refine z_tv (v := zvl (hFT xx) (hFV xx) i) (by unfold zvl; grind) ?_
            exact J179_7 _ (lv_sub hl [0, 1, 2, 3, 4, 5, 6, 7, 8, 9, 10, 11, 12, 13] rfl)
    exact LOOP6 (20 + 1) 0 (by omega) (by omega)  _ (lv_cg (lv_sub (l' := [(0, .ref x0), (1, .ref ay), (2, .ref az), (3, .ref ag), (4, .int (nI ca)), (5, .int (nI mm)), (6, .int (zcu (hST xx) (hSW xx) (hSV xx) (hSS xx) (hFT xx) (hFW xx) (hFV xx) (hFS xx) 20)), (7, .int (nI (min 3 (zlf (hZ xx) mm 0)))), (8, .int 0), (9, .int 1), (10, .int 0), (11, .int 1), (12, .int (nI (20 * ca)))]) hl [8, 9, 10, 11, 12, 7, 6, 5, 4, 3, 2, 1, 0] rfl) (zl_k (zl_k (zl_k (zl_k (zl_k (zl_k (zl_k (zl_k (zl_c (rfl) (zl_k (zl_k (zl_k (zl_c (rfl) (rfl)))))))))))))))
