set_option maxHeartbeats 8000000 in
set_option maxRecDepth 100000 in
theorem law_loop {p : Program} {l : Launch} {e : Env} {s : State} {m : MethodId} {below : List Frame} {meth : Method} {c : Code} {A : Nat → Prop} {b L : Nat} {xs : Nat → Int32} {dC : Nat → ClassId} {dI : Nat → Nat → Nat} {cI cZ cH cJ : ClassId} {x0 xq : Nat} {xg : Nat → Option Nat} {had : Nat → Nat → Nat} {ay az ad ag : Nat} (hF : LFix p l s m meth c b L xs dC dI cI cZ cH cJ A xg had) (hAQ : ∀ q, A q → s.heap.size ≤ q) : ∀ (f n : Nat), n ≤ 120 → 120 < n + f → ∀ (H : Heap) (locs : List Loc) (ls : Array Slot), LInv dC dI cI cZ cH cJ A s x0 xq xg had ay az ad ag H locs → lv_has ls 17 [(0, .ref b), (1, .ref x0), (2, .ref ay), (3, .ref az), (4, .ref ad), (5, .ref ag), (6, .int 1), (7, .int (nI n))] → W p l e room_1 s m #[Value.ref b] below meth c H locs (160 + 46 * n) (1800 + 276 * n) (lw_Z below #[Value.ref b] s) (F0 m 111 ls []) := by
  have hF0 := hF
  obtain ⟨hC0, hst, hA, hbA, hK, hT1, hT2, hT3, hT4, hT5, hg, hL⟩ := hF
  obtain ⟨hx, hb0, hr, hml, hown, hts0, hX, hbl, hlocks, hgv⟩ := hC0
  have hb : c.code = cL_law := hb0
  have hown : s.vm.findClass RL = some m.cls := hown
  have hts : ∀ w ∈ wsL_law, w.before #[Value.ref b] s = true := fun w h => hts0 w (wsL_law_in w h)
  intro f
  induction f with
  | zero => intro n h1 h2; exact absurd h2 (by omega)
  | succ f ih =>
    intro n h1 h2 H locs ls hI0 hl
    have hI1 := hI0
    obtain ⟨N, σ, fy, fz, fd, fg, hI, hP, hD, hS⟩ := hI0
    have hN := hI.1
    have hP : va_P (dC, dI) vwCl ([(ay, .inl (cI, 60, .inl fy)), (az, .inl (cI, 60, .inl fz)), (ad, .inl (cI, 60, .inl fd)), (ag, .inl (cI, 12, .inl fg))] ++ zOb cI cZ cH x0 xq xg had (nI N) σ) H := hP
    have hD : va_D A ([(ay, .inl (cI, 60, .inl fy)), (az, .inl (cI, 60, .inl fz)), (ad, .inl (cI, 60, .inl fd)), (ag, .inl (cI, 12, .inl fg))] ++ zOb cI cZ cH x0 xq xg had (nI N) σ) := hD
    refine lv_iload hx hb dL_law_111 (lv_at hl 7 rfl) ?_
    refine lv_bipush (v := 120) hx hb dL_law_113 (by decide) ?_
    refine lv_icmp_ge (tgt := 743) hx hb dL_law_115 (by decide) (fun c_115 => ?_) (fun c_115 => ?_)
    · skip
      have en : n = 120 := z_ge (n := 120) h1 (by decide) c_115
      refine lv_iload hx hb dL_law_743 (lv_at hl 6 rfl) ?_
      refine va_forget (fun q hq => hAQ _ (hS.2.2 q hq)) ?_
      refine W.widen (k := 600104) (n := 7301314) (by omega) (by omega) ?_
      exact lw_ret hx hb0 hr hlocks dL_law_745
    · skip
      have hlt : n < 120 := z_lt (n := 120) h1 (by decide) c_115
      refine lv_iload hx hb dL_law_118 (lv_at hl 6 rfl) ?_
      refine lv_if_eq (tgt := 743) hx hb dL_law_120 (by decide) (fun c_120 => absurd c_120 (by decide)) (fun c_120 => ?_)
      refine lv_aload_n hx hb dL_law_123 rfl (lv_at hl 0 rfl) ?_
      refine lv_iload hx hb dL_law_124 (lv_at hl 7 rfl) ?_
      refine z_cRi (va_runS (As := [.ref b, .int (nI n)]) (rest := []) ⟨hx, hb, hml, hown, hts⟩ (kL_dice l b L xs hL n hlt) (va_cwS 2 hts gL_law_L_dice rfl rfl rfl (by decide +kernel) ⟨Nat.le_of_ble_eq_true rfl, Nat.le_of_ble_eq_true rfl⟩) (zPreD hX hbl hbA hS) rfl rfl hl.1 rfl (lv_room (Nat.le_of_ble_eq_true rfl)) dL_law_126 ⟨show _ ≤ 600104 by omega, show _ ≤ 7301314 by omega⟩) ?_
      obtain ⟨X, hX31, eX⟩ : ∃ X : Nat, X < 2 ^ 31 ∧ zdice xs L n = nI X := pk_andE _ 31 (by decide)
      refine z_tv (v := nI X) eX ?_
      clear eX
      have hk : ∀ (H : Heap) (locs : List Loc) (ls : Array Slot), LInv dC dI cI cZ cH cJ A s x0 xq xg had ay az ad ag H locs → lv_has ls 17 [(0, .ref b), (1, .ref x0), (2, .ref ay), (3, .ref az), (4, .ref ad), (5, .ref ag), (6, .int 1), (7, .int (nI n)), (8, .int (nI X))] → W p l e room_1 s m #[Value.ref b] below meth c H locs (160 + 46 * n + 1) (1800 + 276 * n + 6) (lw_Z below #[Value.ref b] s) (F0 m 692 ls []) := by
        intro H locs ls hI2 hl
        obtain ⟨N, σ, fy, fz, fd, fg, hI, hP, hD, hS⟩ := hI2
        have hN := hI.1
        rcases Nat.mod_two_eq_zero_or_one (X / 3) with hpar | hpar
        · skip
          have hP : va_P (dC, dI) vwCl ([(ay, .inl (cI, 60, .inl fy)), (az, .inl (cI, 60, .inl fz)), (ad, .inl (cI, 60, .inl fd)), (ag, .inl (cI, 12, .inl fg))] ++ zOb cI cZ cH x0 xq xg had (nI N) σ) H := hP
          have hD : va_D A ([(ay, .inl (cI, 60, .inl fy)), (az, .inl (cI, 60, .inl fz)), (ad, .inl (cI, 60, .inl fd)), (ag, .inl (cI, 12, .inl fg))] ++ zOb cI cZ cH x0 xq xg had (nI N) σ) := hD
          refine lv_iload hx hb dL_law_692 (lv_at hl 6 rfl) ?_
          refine lv_if_eq (tgt := 734) hx hb dL_law_694 (by decide) (fun c_694 => absurd c_694 (by decide)) (fun c_694 => ?_)
          refine lv_aload_n hx hb dL_law_697 rfl (lv_at hl 1 rfl) ?_
          refine lv_aload_n hx hb dL_law_698 rfl (lv_at hl 2 rfl) ?_
          refine lv_aload_n hx hb dL_law_699 rfl (lv_at hl 3 rfl) ?_
          refine lv_aload hx hb dL_law_700 (lv_at hl 5 rfl) ?_
          refine z_cRi (va_runS (As := [.ref x0, .ref ay, .ref az, .ref ag]) (rest := []) ⟨hx, hb, hml, hown, hts⟩ (kL_areAll l dC dI cI cZ cH cJ x0 xq xg had hg σ N (by first | assumption | omega) ay az ag fy fz fg fd (by first | assumption | omega)) (va_cwS 4 hts gL_law_L_areAll rfl rfl rfl (by decide +kernel) ⟨Nat.le_of_ble_eq_true rfl, Nat.le_of_ble_eq_true rfl⟩) (zPreRS1 hK (zP_t (w1 := [(ay, .inl (cI, 60, .inl fy)), (az, .inl (cI, 60, .inl fz)), (ag, .inl (cI, 12, .inl fg))]) (is := [0, 1, 3]) hP rfl)) rfl rfl hl.1 rfl (lv_room (Nat.le_of_ble_eq_true rfl)) dL_law_702 ⟨show _ ≤ 600104 by omega, show _ ≤ 7301314 by omega⟩) ?_
          refine z_tv (v := 1) rfl ?_
          refine lv_if_eq (tgt := 734) hx hb dL_law_705 (by decide) (fun c_705 => absurd c_705 (by decide)) (fun c_705 => ?_)
          refine lv_iload hx hb dL_law_708 (lv_at hl 7 rfl) ?_
          refine lv_bipush (v := 20) hx hb dL_law_710 (by decide) ?_
          refine lv_irem hx hb dL_law_712 (by decide) ?_
          refine z_tv (v := nI (n % 20)) (pk_rem (d := 20) (by omega) (by decide) (by decide)) ?_
          refine lv_if_gt (tgt := 730) hx hb dL_law_713 (by decide) (fun c_713 => ?_) (fun c_713 => ?_)
          · skip
            refine lv_iconst (v := 1) hx hb dL_law_730 (by decide) ?_
            refine lv_goto (tgt := 735) hx hb dL_law_731 (by decide) ?_
            refine lv_istore (lv' := [(6, .int 1), (0, .ref b), (1, .ref x0), (2, .ref ay), (3, .ref az), (4, .ref ad), (5, .ref ag), (7, .int (nI n)), (8, .int (nI X))]) hx hb dL_law_735 hl (by decide) rfl (fun ls hl => ?_)
            refine lv_iinc (v := nI (n + 1)) (lv' := [(7, .int (nI (n + 1))), (6, .int 1), (0, .ref b), (1, .ref x0), (2, .ref ay), (3, .ref az), (4, .ref ad), (5, .ref ag), (8, .int (nI X))]) hx hb dL_law_737 hl (k := 7) rfl (z_1) (by decide) rfl (fun ls hl => ?_)
            refine lv_goto (tgt := 111) hx hb dL_law_740 (by decide) ?_
            refine W.widen (k := 160 + 46 * (n + 1)) (n := 1800 + 276 * (n + 1)) (by omega) (by omega) ?_
            exact ih (n + 1) (by omega) (by omega) _ _ _ ⟨N, σ, fy, fz, fd, fg, hI, hP, hD, hS⟩ (lv_sub hl [2, 3, 4, 5, 6, 7, 1, 0] rfl)
          · skip
            refine lv_aload_n hx hb dL_law_716 rfl (lv_at hl 1 rfl) ?_
            refine lv_aload_n hx hb dL_law_717 rfl (lv_at hl 2 rfl) ?_
            refine lv_aload hx hb dL_law_718 (lv_at hl 5 rfl) ?_
            refine lv_iload hx hb dL_law_720 (lv_at hl 8 rfl) ?_
            refine lv_iconst (v := 3) hx hb dL_law_722 (by decide) ?_
            refine lv_idiv hx hb dL_law_723 (by decide) ?_
            refine z_tv (v := nI (X / 3)) (pk_div (d := 3) (by omega) (by decide) (by decide)) ?_
            refine z_cG (va_runS (As := [.ref x0, .ref ay, .ref ag, .int (nI (X / 3))]) (rest := []) ⟨hx, hb, hml, hown, hts⟩ (kL_isRefused_lo l dC dI cI cZ cH cJ x0 xq xg had hg σ N (by first | assumption | omega) ay ag fy fg (X / 3 / 2 % 3) (Nat.mod_lt _ (by decide)) (X / 3) (by omega) (hpar) (rfl) (zInv_ho hI) (zInv_yr hI (Nat.mod_lt _ (by decide))) ((hI.2.1 _ (Nat.mod_lt _ (by decide))).2.2.2) ((hI.2.1 _ (Nat.mod_lt _ (by decide))).2.2.1) hst) (va_cwS 4 hts gL_law_L_isRefused rfl rfl rfl (by decide +kernel) ⟨Nat.le_of_ble_eq_true rfl, Nat.le_of_ble_eq_true rfl⟩) (zPreY1 hS hA hT1 hT2 hT3 hT4 hT5 hK (zP_t (w1 := [(ay, .inl (cI, 60, .inl fy)), (ag, .inl (cI, 12, .inl fg))]) (is := [0, 3]) hP rfl)) rfl rfl hl.1 rfl (lv_room (Nat.le_of_ble_eq_true rfl)) dL_law_724 ⟨show _ ≤ 600104 by omega, show _ ≤ 7301314 by omega⟩) hS (fun H hz1 hk1 hS => ?_)
            have hP := z_kept hP hk1
            have hP : va_P (dC, dI) vwCl ([(ay, .inl (cI, 60, .inl fy)), (az, .inl (cI, 60, .inl fz)), (ad, .inl (cI, 60, .inl fd)), (ag, .inl (cI, 12, .inl fg))] ++ zOb cI cZ cH x0 xq xg had (nI N) σ) H := hP
            have hD : va_D A ([(ay, .inl (cI, 60, .inl fy)), (az, .inl (cI, 60, .inl fz)), (ad, .inl (cI, 60, .inl fd)), (ag, .inl (cI, 12, .inl fg))] ++ zOb cI cZ cH x0 xq xg had (nI N) σ) := hD
            refine z_tv (v := 1) rfl ?_
            refine lv_if_eq (tgt := 734) hx hb dL_law_727 (by decide) (fun c_727 => absurd c_727 (by decide)) (fun c_727 => ?_)
            refine lv_iconst (v := 1) hx hb dL_law_730 (by decide) ?_
            refine lv_goto (tgt := 735) hx hb dL_law_731 (by decide) ?_
            refine lv_istore (lv' := [(6, .int 1), (0, .ref b), (1, .ref x0), (2, .ref ay), (3, .ref az), (4, .ref ad), (5, .ref ag), (7, .int (nI n)), (8, .int (nI X))]) hx hb dL_law_735 hl (by decide) rfl (fun ls hl => ?_)
            refine lv_iinc (v := nI (n + 1)) (lv' := [(7, .int (nI (n + 1))), (6, .int 1), (0, .ref b), (1, .ref x0), (2, .ref ay), (3, .ref az), (4, .ref ad), (5, .ref ag), (8, .int (nI X))]) hx hb dL_law_737 hl (k := 7) rfl (z_1) (by decide) rfl (fun ls hl => ?_)
            refine lv_goto (tgt := 111) hx hb dL_law_740 (by decide) ?_
            refine W.widen (k := 160 + 46 * (n + 1)) (n := 1800 + 276 * (n + 1)) (by omega) (by omega) ?_
            exact ih (n + 1) (by omega) (by omega) _ _ _ ⟨N, σ, fy, fz, fd, fg, hI, hP, hD, hS⟩ (lv_sub hl [2, 3, 4, 5, 6, 7, 1, 0] rfl)
        · skip
          have hP : va_P (dC, dI) vwCl ([(ay, .inl (cI, 60, .inl fy)), (az, .inl (cI, 60, .inl fz)), (ad, .inl (cI, 60, .inl fd)), (ag, .inl (cI, 12, .inl fg))] ++ zOb cI cZ cH x0 xq xg had (nI N) σ) H := hP
          have hD : va_D A ([(ay, .inl (cI, 60, .inl fy)), (az, .inl (cI, 60, .inl fz)), (ad, .inl (cI, 60, .inl fd)), (ag, .inl (cI, 12, .inl fg))] ++ zOb cI cZ cH x0 xq xg had (nI N) σ) := hD
          refine lv_iload hx hb dL_law_692 (lv_at hl 6 rfl) ?_
          refine lv_if_eq (tgt := 734) hx hb dL_law_694 (by decide) (fun c_694 => absurd c_694 (by decide)) (fun c_694 => ?_)
          refine lv_aload_n hx hb dL_law_697 rfl (lv_at hl 1 rfl) ?_
          refine lv_aload_n hx hb dL_law_698 rfl (lv_at hl 2 rfl) ?_
          refine lv_aload_n hx hb dL_law_699 rfl (lv_at hl 3 rfl) ?_
          refine lv_aload hx hb dL_law_700 (lv_at hl 5 rfl) ?_
          refine z_cRi (va_runS (As := [.ref x0, .ref ay, .ref az, .ref ag]) (rest := []) ⟨hx, hb, hml, hown, hts⟩ (kL_areAll l dC dI cI cZ cH cJ x0 xq xg had hg σ N (by first | assumption | omega) ay az ag fy fz fg fd (by first | assumption | omega)) (va_cwS 4 hts gL_law_L_areAll rfl rfl rfl (by decide +kernel) ⟨Nat.le_of_ble_eq_true rfl, Nat.le_of_ble_eq_true rfl⟩) (zPreRS1 hK (zP_t (w1 := [(ay, .inl (cI, 60, .inl fy)), (az, .inl (cI, 60, .inl fz)), (ag, .inl (cI, 12, .inl fg))]) (is := [0, 1, 3]) hP rfl)) rfl rfl hl.1 rfl (lv_room (Nat.le_of_ble_eq_true rfl)) dL_law_702 ⟨show _ ≤ 600104 by omega, show _ ≤ 7301314 by omega⟩) ?_
          refine z_tv (v := 1) rfl ?_
          refine lv_if_eq (tgt := 734) hx hb dL_law_705 (by decide) (fun c_705 => absurd c_705 (by decide)) (fun c_705 => ?_)
          refine lv_iload hx hb dL_law_708 (lv_at hl 7 rfl) ?_
          refine lv_bipush (v := 20) hx hb dL_law_710 (by decide) ?_
          refine lv_irem hx hb dL_law_712 (by decide) ?_
          refine z_tv (v := nI (n % 20)) (pk_rem (d := 20) (by omega) (by decide) (by decide)) ?_
          refine lv_if_gt (tgt := 730) hx hb dL_law_713 (by decide) (fun c_713 => ?_) (fun c_713 => ?_)
          · skip
            refine lv_iconst (v := 1) hx hb dL_law_730 (by decide) ?_
            refine lv_goto (tgt := 735) hx hb dL_law_731 (by decide) ?_
            refine lv_istore (lv' := [(6, .int 1), (0, .ref b), (1, .ref x0), (2, .ref ay), (3, .ref az), (4, .ref ad), (5, .ref ag), (7, .int (nI n)), (8, .int (nI X))]) hx hb dL_law_735 hl (by decide) rfl (fun ls hl => ?_)
            refine lv_iinc (v := nI (n + 1)) (lv' := [(7, .int (nI (n + 1))), (6, .int 1), (0, .ref b), (1, .ref x0), (2, .ref ay), (3, .ref az), (4, .ref ad), (5, .ref ag), (8, .int (nI X))]) hx hb dL_law_737 hl (k := 7) rfl (z_1) (by decide) rfl (fun ls hl => ?_)
            refine lv_goto (tgt := 111) hx hb dL_law_740 (by decide) ?_
            refine W.widen (k := 160 + 46 * (n + 1)) (n := 1800 + 276 * (n + 1)) (by omega) (by omega) ?_
            exact ih (n + 1) (by omega) (by omega) _ _ _ ⟨N, σ, fy, fz, fd, fg, hI, hP, hD, hS⟩ (lv_sub hl [2, 3, 4, 5, 6, 7, 1, 0] rfl)
          · skip
            refine lv_aload_n hx hb dL_law_716 rfl (lv_at hl 1 rfl) ?_
            refine lv_aload_n hx hb dL_law_717 rfl (lv_at hl 2 rfl) ?_
            refine lv_aload hx hb dL_law_718 (lv_at hl 5 rfl) ?_
            refine lv_iload hx hb dL_law_720 (lv_at hl 8 rfl) ?_
            refine lv_iconst (v := 3) hx hb dL_law_722 (by decide) ?_
            refine lv_idiv hx hb dL_law_723 (by decide) ?_
            refine z_tv (v := nI (X / 3)) (pk_div (d := 3) (by omega) (by decide) (by decide)) ?_
            refine z_cG (va_runS (As := [.ref x0, .ref ay, .ref ag, .int (nI (X / 3))]) (rest := []) ⟨hx, hb, hml, hown, hts⟩ (kL_isRefused_hi l dC dI cI cZ cH cJ x0 xq xg had hg σ N (by first | assumption | omega) ay ag fy fg (X / 3 / 2 % 3) (Nat.mod_lt _ (by decide)) (X / 3) (by omega) (hpar) (rfl) (zInv_ho hI) (zInv_yr hI (Nat.mod_lt _ (by decide))) ((hI.2.1 _ (Nat.mod_lt _ (by decide))).2.2.2) ((hI.2.1 _ (Nat.mod_lt _ (by decide))).2.2.1) hst) (va_cwS 4 hts gL_law_L_isRefused rfl rfl rfl (by decide +kernel) ⟨Nat.le_of_ble_eq_true rfl, Nat.le_of_ble_eq_true rfl⟩) (zPreY1 hS hA hT1 hT2 hT3 hT4 hT5 hK (zP_t (w1 := [(ay, .inl (cI, 60, .inl fy)), (ag, .inl (cI, 12, .inl fg))]) (is := [0, 3]) hP rfl)) rfl rfl hl.1 rfl (lv_room (Nat.le_of_ble_eq_true rfl)) dL_law_724 ⟨show _ ≤ 600104 by omega, show _ ≤ 7301314 by omega⟩) hS (fun H hz1 hk1 hS => ?_)
            have hP := z_kept hP hk1
            have hP : va_P (dC, dI) vwCl ([(ay, .inl (cI, 60, .inl fy)), (az, .inl (cI, 60, .inl fz)), (ad, .inl (cI, 60, .inl fd)), (ag, .inl (cI, 12, .inl fg))] ++ zOb cI cZ cH x0 xq xg had (nI N) σ) H := hP
            have hD : va_D A ([(ay, .inl (cI, 60, .inl fy)), (az, .inl (cI, 60, .inl fz)), (ad, .inl (cI, 60, .inl fd)), (ag, .inl (cI, 12, .inl fg))] ++ zOb cI cZ cH x0 xq xg had (nI N) σ) := hD
            refine z_tv (v := 1) rfl ?_
            refine lv_if_eq (tgt := 734) hx hb dL_law_727 (by decide) (fun c_727 => absurd c_727 (by decide)) (fun c_727 => ?_)
            refine lv_iconst (v := 1) hx hb dL_law_730 (by decide) ?_
            refine lv_goto (tgt := 735) hx hb dL_law_731 (by decide) ?_
            refine lv_istore (lv' := [(6, .int 1), (0, .ref b), (1, .ref x0), (2, .ref ay), (3, .ref az), (4, .ref ad), (5, .ref ag), (7, .int (nI n)), (8, .int (nI X))]) hx hb dL_law_735 hl (by decide) rfl (fun ls hl => ?_)
            refine lv_iinc (v := nI (n + 1)) (lv' := [(7, .int (nI (n + 1))), (6, .int 1), (0, .ref b), (1, .ref x0), (2, .ref ay), (3, .ref az), (4, .ref ad), (5, .ref ag), (8, .int (nI X))]) hx hb dL_law_737 hl (k := 7) rfl (z_1) (by decide) rfl (fun ls hl => ?_)
            refine lv_goto (tgt := 111) hx hb dL_law_740 (by decide) ?_
            refine W.widen (k := 160 + 46 * (n + 1)) (n := 1800 + 276 * (n + 1)) (by omega) (by omega) ?_
            exact ih (n + 1) (by omega) (by omega) _ _ _ ⟨N, σ, fy, fz, fd, fg, hI, hP, hD, hS⟩ (lv_sub hl [2, 3, 4, 5, 6, 7, 1, 0] rfl)
      have hc0 : 160 + 46 * n + 1 ≤ 600104 := by omega
      have hs0 : 1800 + 276 * n + 6 ≤ 7301314 := by omega
      have hV : X / 32 < 2 ^ 31 := by omega
      refine lv_istore (lv' := [(8, .int (nI X)), (0, .ref b), (1, .ref x0), (2, .ref ay), (3, .ref az), (4, .ref ad), (5, .ref ag), (6, .int 1), (7, .int (nI n))]) hx hb dL_law_129 hl (by decide) rfl (fun ls hl => ?_)
      refine lv_iload hx hb dL_law_131 (lv_at hl 0 rfl) ?_
      refine lv_bipush (v := 32) hx hb dL_law_133 (by decide) ?_
      refine lv_idiv hx hb dL_law_135 (by decide) ?_
      refine z_tv (v := nI (X / 32)) (pk_div (d := 32) (by omega) (by decide) (by decide)) ?_
      refine lv_istore (lv' := [(9, .int (nI (X / 32))), (8, .int (nI X)), (0, .ref b), (1, .ref x0), (2, .ref ay), (3, .ref az), (4, .ref ad), (5, .ref ag), (6, .int 1), (7, .int (nI n))]) hx hb dL_law_136 hl (by decide) rfl (fun ls hl => ?_)
      refine lv_iload hx hb dL_law_138 (lv_at hl 1 rfl) ?_
      refine lv_bipush (v := 32) hx hb dL_law_140 (by decide) ?_
      refine lv_irem hx hb dL_law_142 (by decide) ?_
      refine z_tv (v := nI (X % 32)) (pk_rem (d := 32) (by omega) (by decide) (by decide)) ?_
      refine lv_istore (lv' := [(10, .int (nI (X % 32))), (9, .int (nI (X / 32))), (8, .int (nI X)), (0, .ref b), (1, .ref x0), (2, .ref ay), (3, .ref az), (4, .ref ad), (5, .ref ag), (6, .int 1), (7, .int (nI n))]) hx hb dL_law_143 hl (by decide) rfl (fun ls hl => ?_)
      have J174 : ∀ (cc : Nat), cc < 3 → ∀ (ls : Array Slot), lv_has ls 17 [(10, .int (nI (X % 32))), (9, .int (nI (X / 32))), (8, .int (nI X)), (0, .ref b), (1, .ref x0), (2, .ref ay), (3, .ref az), (4, .ref ad), (5, .ref ag), (6, .int 1), (7, .int (nI n))] → W p l e room_1 s m #[Value.ref b] below meth c H locs (160 + 46 * n) (1800 + 276 * n) (lw_Z below #[Value.ref b] s) (F0 m 174 ls [.int (nI cc)]) := by
        intro cc hcc ls hl
        refine lv_istore (lv' := [(11, .int (nI cc)), (10, .int (nI (X % 32))), (9, .int (nI (X / 32))), (8, .int (nI X)), (0, .ref b), (1, .ref x0), (2, .ref ay), (3, .ref az), (4, .ref ad), (5, .ref ag), (6, .int 1), (7, .int (nI n))]) hx hb dL_law_174 hl (by decide) rfl (fun ls hl => ?_)
        have J196 : ∀ (rr : Nat), rr < 20 → ∀ (ls : Array Slot), lv_has ls 17 [(11, .int (nI cc)), (10, .int (nI (X % 32))), (9, .int (nI (X / 32))), (8, .int (nI X)), (0, .ref b), (1, .ref x0), (2, .ref ay), (3, .ref az), (4, .ref ad), (5, .ref ag), (6, .int 1), (7, .int (nI n))] → W p l e room_1 s m #[Value.ref b] below meth c H locs (160 + 46 * n) (1800 + 276 * n) (lw_Z below #[Value.ref b] s) (F0 m 196 ls [.int (nI rr)]) := by
          intro rr hrr ls hl
          refine lv_istore (lv' := [(12, .int (nI rr)), (11, .int (nI cc)), (10, .int (nI (X % 32))), (9, .int (nI (X / 32))), (8, .int (nI X)), (0, .ref b), (1, .ref x0), (2, .ref ay), (3, .ref az), (4, .ref ad), (5, .ref ag), (6, .int 1), (7, .int (nI n))]) hx hb dL_law_196 hl (by decide) rfl (fun ls hl => ?_)
          refine lv_iload hx hb dL_law_198 (lv_at hl 2 rfl) ?_
          refine lv_if_ne (tgt := 310) hx hb dL_law_200 (by decide) (fun c_200 => ?_) (fun c_200 => ?_)
          · skip
            refine lv_iload hx hb dL_law_310 (lv_at hl 2 rfl) ?_
            refine lv_bipush (v := 12) hx hb dL_law_312 (by decide) ?_
            refine lv_icmp_ge (tgt := 352) hx hb dL_law_314 (by decide) (fun c_314 => ?_) (fun c_314 => ?_)
            · skip
              refine lv_iload hx hb dL_law_352 (lv_at hl 2 rfl) ?_
              refine lv_bipush (v := 17) hx hb dL_law_354 (by decide) ?_
              refine lv_icmp_ge (tgt := 377) hx hb dL_law_356 (by decide) (fun c_356 => ?_) (fun c_356 => ?_)
              · skip
                refine lv_iload hx hb dL_law_377 (lv_at hl 2 rfl) ?_
                refine lv_bipush (v := 21) hx hb dL_law_379 (by decide) ?_
                refine lv_icmp_ge (tgt := 523) hx hb dL_law_381 (by decide) (fun c_381 => ?_) (fun c_381 => ?_)
                · skip
                  refine lv_iload hx hb dL_law_523 (lv_at hl 2 rfl) ?_
                  refine lv_bipush (v := 27) hx hb dL_law_525 (by decide) ?_
                  refine lv_icmp_ge (tgt := 560) hx hb dL_law_527 (by decide) (fun c_527 => ?_) (fun c_527 => ?_)
                  · skip
                    exact lc_page hF0 hc0 hs0 hcc hrr hV hk hI1 (lv_sub hl [5, 6, 7, 8, 9, 10, 12, 4, 3, 2, 1, 0] rfl)
                  · skip
                    exact lc_round hF0 hc0 hs0 hcc hrr hV hk hI1 (lv_sub hl [5, 6, 7, 8, 9, 10, 12, 4, 3, 2, 1, 0] rfl)
                · skip
                  exact lc_pass hF0 hc0 hs0 hcc hrr hV hk hI1 (lv_sub hl [5, 6, 7, 8, 9, 10, 12, 4, 3, 2, 1, 0] rfl)
              · skip
                exact lc_rem hF0 hc0 hs0 hcc hrr hV hk hI1 (lv_sub hl [5, 6, 7, 8, 9, 10, 12, 4, 3, 2, 1, 0] rfl)
            · skip
              exact lc_put hF0 hc0 hs0 hcc hrr hV hk hI1 (lv_sub hl [5, 6, 7, 8, 9, 10, 12, 4, 3, 2, 1, 0] rfl)
          · skip
            exact lc_set hF0 hc0 hs0 hcc hrr hV hk hI1 (lv_sub hl [5, 6, 7, 8, 9, 10, 12, 4, 3, 2, 1, 0] rfl)
        refine lv_iload hx hb dL_law_176 (lv_at hl 2 rfl) ?_
        refine lv_bipush (v := 16) hx hb dL_law_178 (by decide) ?_
        refine lv_idiv hx hb dL_law_180 (by decide) ?_
        refine z_tv (v := nI (X / 32 / 16)) (pk_div (d := 16) (by omega) (by decide) (by decide)) ?_
        refine lv_iload hx hb dL_law_181 (lv_at hl 2 rfl) ?_
        refine lv_iconst (v := 3) hx hb dL_law_183 (by decide) ?_
        refine lv_irem hx hb dL_law_184 (by decide) ?_
        refine z_tv (v := nI (X / 32 % 3)) (pk_rem (d := 3) (by omega) (by decide) (by decide)) ?_
        refine lv_if_ne (tgt := 193) hx hb dL_law_185 (by decide) (fun c_185 => ?_) (fun c_185 => ?_)
        · skip
          refine lv_bipush (v := 7) hx hb dL_law_193 (by decide) ?_
          refine lv_irem hx hb dL_law_195 (by decide) ?_
          refine z_tv (v := nI (X / 32 / 16 % 7)) (pk_rem (d := 7) (by omega) (by decide) (by decide)) ?_
          exact J196 _ (by omega) _ hl
        · skip
          refine lv_bipush (v := 20) hx hb dL_law_188 (by decide) ?_
          refine lv_goto (tgt := 195) hx hb dL_law_190 (by decide) ?_
          refine lv_irem hx hb dL_law_195 (by decide) ?_
          refine z_tv (v := nI (X / 32 / 16 % 20)) (pk_rem (d := 20) (by omega) (by decide) (by decide)) ?_
          exact J196 _ (by omega) _ hl
      refine lv_iload hx hb dL_law_145 (lv_at hl 1 rfl) ?_
      refine lv_bipush (v := 16) hx hb dL_law_147 (by decide) ?_
      refine lv_irem hx hb dL_law_149 (by decide) ?_
      refine z_tv (v := nI (X / 32 % 16)) (pk_rem (d := 16) (by omega) (by decide) (by decide)) ?_
      refine lv_bipush (v := 9) hx hb dL_law_150 (by decide) ?_
      refine lv_icmp_ge (tgt := 159) hx hb dL_law_152 (by decide) (fun c_152 => ?_) (fun c_152 => ?_)
      · skip
        refine lv_iload hx hb dL_law_159 (lv_at hl 1 rfl) ?_
        refine lv_bipush (v := 16) hx hb dL_law_161 (by decide) ?_
        refine lv_irem hx hb dL_law_163 (by decide) ?_
        refine z_tv (v := nI (X / 32 % 16)) (pk_rem (d := 16) (by omega) (by decide) (by decide)) ?_
        refine lv_bipush (v := 13) hx hb dL_law_164 (by decide) ?_
        refine lv_icmp_ge (tgt := 173) hx hb dL_law_166 (by decide) (fun c_166 => ?_) (fun c_166 => ?_)
        · skip
          refine lv_iconst (v := 2) hx hb dL_law_173 (by decide) ?_
          exact J174 2 (by decide) _ hl
        · skip
          refine lv_iconst (v := 1) hx hb dL_law_169 (by decide) ?_
          refine lv_goto (tgt := 174) hx hb dL_law_170 (by decide) ?_
          exact J174 1 (by decide) _ hl
      · skip
        refine lv_iconst (v := 0) hx hb dL_law_155 (by decide) ?_
        refine lv_goto (tgt := 174) hx hb dL_law_156 (by decide) ?_
        exact J174 0 (by decide) _ hl
