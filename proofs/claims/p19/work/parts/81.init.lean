def zt0 : zHS := (0, 0, 0, 0, 0, (-1), (-1), 1, 0, fun _ => 0, fun _ => 0, fun _ => 0, fun _ => 0, fun _ => 0, fun _ => 0, fun _ => 0, fun _ => 0, fun _ => 0, fun _ => 0, fun _ => 0, fun _ => 0)
def zfl (n : Nat) : zI := fun j => if j < n then -1 else 0
def zgl (n : Nat) : zI := fun j => if j < 4 * n ∧ j % 4 = 0 then 1 else 0
theorem zfl_0 : (fun _ => 0) = zfl 0 := by
  funext j
  unfold zfl
  rw [if_neg (Nat.not_lt_zero j)]
theorem zfl_s {i : Nat} : upd (zfl i) i (-1) = zfl (i + 1) := by
  funext j
  unfold upd zfl
  by_cases h : j = i
  · rw [if_pos h, if_pos (by omega)]
  · rw [if_neg h]
    have : (j < i + 1) = (j < i) := propext ⟨fun q => by omega, fun q => by omega⟩
    simp only [this]
theorem zgl_0 : (fun _ => 0) = zgl 0 := by
  funext j
  unfold zgl
  rw [if_neg (fun q => by omega)]
theorem zgl_s {i : Nat} : upd (zgl i) (4 * i) 1 = zgl (i + 1) := by
  funext j
  unfold upd zgl
  by_cases h : j = 4 * i
  · rw [if_pos h, if_pos (by omega)]
  · rw [if_neg h]
    have : (j < 4 * (i + 1) ∧ j % 4 = 0) = (j < 4 * i ∧ j % 4 = 0) := propext ⟨fun q => by omega, fun q => by omega⟩
    simp only [this]
theorem zInv_0 : zInv 0 (fun _ => zt0) (zfl 60) (zfl 60) (fun _ => 0) (zgl 3) := by
  refine ⟨by decide, fun c hc => ⟨⟨1, 0, 0, ⟨by decide, by decide, by decide, by decide, rfl, rfl, rfl, ?_, ?_, Or.inl rfl, Or.inl rfl⟩, fun r hr => Or.inl ⟨rfl, rfl, ?_⟩⟩, fun r hr => Or.inl ⟨rfl, ?_⟩, rfl, ?_⟩, rfl, fun r hr => ⟨rfl, rfl, rfl⟩⟩
  · unfold zgl
    exact if_pos (by omega)
  · unfold zgl
    exact if_neg (by omega)
  · unfold zfl
    exact if_pos (by omega)
  · unfold zfl
    exact if_pos (by omega)
  · unfold zgl
    exact if_neg (by omega)
set_option maxHeartbeats 8000000 in
set_option maxRecDepth 100000 in
theorem law_init {p : Program} {l : Launch} {e : Env} {s : State} {m : MethodId} {below : List Frame} {meth : Method} {c : Code} {A : Nat → Prop} {b L : Nat} {xs : Nat → Int32} {dC : Nat → ClassId} {dI : Nat → Nat → Nat} {cI cZ cH cJ : ClassId} {x0 xq : Nat} {xg : Nat → Option Nat} {had : Nat → Nat → Nat} {ay az ad ag : Nat} (hF : LFix p l s m meth c b L xs dC dI cI cZ cH cJ A xg had) (hAQ : ∀ q, A q → s.heap.size ≤ q) {H : Heap} {locs : List Loc} (hP : va_P (dC, dI) vwCl ([(ay, .inl (cI, 60, .inl (fun _ => 0))), (az, .inl (cI, 60, .inl (fun _ => 0))), (ad, .inl (cI, 60, .inl (fun _ => 0))), (ag, .inl (cI, 12, .inl (fun _ => 0)))] ++ zOb cI cZ cH x0 xq xg had (nI 0) (fun _ => zt0)) H) (hD : va_D A ([(ay, .inl (cI, 60, .inl (fun _ => 0))), (az, .inl (cI, 60, .inl (fun _ => 0))), (ad, .inl (cI, 60, .inl (fun _ => 0))), (ag, .inl (cI, 12, .inl (fun _ => 0)))] ++ zOb cI cZ cH x0 xq xg had (nI 0) (fun _ => zt0))) (hS : va_S A s.heap H locs) {ls : Array Slot} (hl : lv_has ls 17 [(0, .ref b), (1, .ref x0), (2, .ref ay), (3, .ref az), (4, .ref ad), (5, .ref ag)]) : W p l e room_1 s m #[Value.ref b] below meth c H locs 70 1254 (lw_Z below #[Value.ref b] s) (F0 m 30 ls []) := by
  have hF0 := hF
  obtain ⟨hC0, hst, hA, hbA, hK, hT1, hT2, hT3, hT4, hT5, hg, hL⟩ := hF
  obtain ⟨hx, hb, hr, hml, hown, hts0, hX, hbl, hlocks, hgv⟩ := hC0
  have hb : c.code = cL_law := hb
  have hown : s.vm.findClass RL = some m.cls := hown
  have hts : ∀ w ∈ wsL_law, w.before #[Value.ref b] s = true := fun w h => hts0 w (wsL_law_in w h)
  refine lv_iconst (v := 0) hx hb dL_law_30 (by decide) ?_
  refine lv_istore (lv' := [(6, .int 0), (0, .ref b), (1, .ref x0), (2, .ref ay), (3, .ref az), (4, .ref ad), (5, .ref ag)]) hx hb dL_law_31 hl (by decide) rfl (fun ls hl => ?_)
  have LOOP1 : ∀ (n1 i : Nat), i ≤ 60 → 60 < i + n1 → ∀ (H : Heap) (locs : List Loc), va_P (dC, dI) vwCl ([(ay, .inl (cI, 60, .inl (zfl i))), (az, .inl (cI, 60, .inl (zfl i))), (ad, .inl (cI, 60, .inl (fun _ => 0))), (ag, .inl (cI, 12, .inl (fun _ => 0)))] ++ zOb cI cZ cH x0 xq xg had (nI 0) (fun _ => zt0)) H → va_D A ([(ay, .inl (cI, 60, .inl (zfl i))), (az, .inl (cI, 60, .inl (zfl i))), (ad, .inl (cI, 60, .inl (fun _ => 0))), (ag, .inl (cI, 12, .inl (fun _ => 0)))] ++ zOb cI cZ cH x0 xq xg had (nI 0) (fun _ => zt0)) → va_S A s.heap H locs → ∀ (ls : Array Slot), lv_has ls 17 [(0, .ref b), (1, .ref x0), (2, .ref ay), (3, .ref az), (4, .ref ad), (5, .ref ag), (6, .int (nI i))] → W p l e room_1 s m #[Value.ref b] below meth c H locs (70) (1254) (lw_Z below #[Value.ref b] s) (F0 m 33 ls []) := by
    intro n1
    induction n1 with
    | zero => intro i h1 h2; exact absurd h2 (by omega)
    | succ n1 ih1 =>
      intro i hi hin  H locs hP hD hS ls hl
      refine lv_iload hx hb dL_law_33 (lv_at hl 6 rfl) ?_
      refine lv_bipush (v := 60) hx hb dL_law_35 (by decide) ?_
      refine lv_icmp_ge (tgt := 56) hx hb dL_law_37 (by decide) (fun c_37 => ?_) (fun c_37 => ?_)
      · skip
        have ee : i = 60 := z_ge (n := 60) hi (by decide) c_37
        subst ee
        refine lv_iconst (v := 0) hx hb dL_law_56 (by decide) ?_
        refine lv_istore (lv' := [(6, .int 0), (0, .ref b), (1, .ref x0), (2, .ref ay), (3, .ref az), (4, .ref ad), (5, .ref ag)]) hx hb dL_law_57 hl (by decide) rfl (fun ls hl => ?_)
        have LOOP2 : ∀ (n2 i : Nat), i ≤ 3 → 3 < i + n2 → ∀ (H : Heap) (locs : List Loc), va_P (dC, dI) vwCl ([(ay, .inl (cI, 60, .inl (zfl 60))), (az, .inl (cI, 60, .inl (zfl 60))), (ad, .inl (cI, 60, .inl (fun _ => 0))), (ag, .inl (cI, 12, .inl (zgl i)))] ++ zOb cI cZ cH x0 xq xg had (nI 0) (fun _ => zt0)) H → va_D A ([(ay, .inl (cI, 60, .inl (zfl 60))), (az, .inl (cI, 60, .inl (zfl 60))), (ad, .inl (cI, 60, .inl (fun _ => 0))), (ag, .inl (cI, 12, .inl (zgl i)))] ++ zOb cI cZ cH x0 xq xg had (nI 0) (fun _ => zt0)) → va_S A s.heap H locs → ∀ (ls : Array Slot), lv_has ls 17 [(0, .ref b), (1, .ref x0), (2, .ref ay), (3, .ref az), (4, .ref ad), (5, .ref ag), (6, .int (nI i))] → W p l e room_1 s m #[Value.ref b] below meth c H locs (70) (1254) (lw_Z below #[Value.ref b] s) (F0 m 59 ls []) := by
          intro n2
          induction n2 with
          | zero => intro i h1 h2; exact absurd h2 (by omega)
          | succ n2 ih2 =>
            intro i hi hin  H locs hP hD hS ls hl
            refine lv_iload hx hb dL_law_59 (lv_at hl 6 rfl) ?_
            refine lv_iconst (v := 3) hx hb dL_law_61 (by decide) ?_
            refine lv_icmp_ge (tgt := 79) hx hb dL_law_62 (by decide) (fun c_62 => ?_) (fun c_62 => ?_)
            · skip
              have ee : i = 3 := z_ge (n := 3) hi (by decide) c_62
              subst ee
              refine lv_aload_n hx hb dL_law_79 rfl (lv_at hl 1 rfl) ?_
              refine lv_aload_n hx hb dL_law_80 rfl (lv_at hl 2 rfl) ?_
              refine lv_aload hx hb dL_law_81 (lv_at hl 5 rfl) ?_
              refine lv_iconst (v := 0) hx hb dL_law_83 (by decide) ?_
              refine z_cG (va_runS (As := [.ref x0, .ref ay, .ref ag, .int 0]) (rest := []) ⟨hx, hb, hml, hown, hts⟩ (kL_isRefused_lo l dC dI cI cZ cH cJ x0 xq xg had hg (fun _ => zt0) 0 (by decide) ay ag (zfl 60) (zgl 3) 0 (by decide) 0 (by decide) (by decide) (by decide) (zInv_ho zInv_0) (zInv_yr zInv_0 (c := 0) (by decide)) ((zInv_0.2.1 0 (by decide)).2.2.2) ((zInv_0.2.1 0 (by decide)).2.2.1) hst) (va_cwS 4 hts gL_law_L_isRefused rfl rfl rfl (by decide +kernel) ⟨Nat.le_of_ble_eq_true rfl, Nat.le_of_ble_eq_true rfl⟩) (zPreY1 hS hA hT1 hT2 hT3 hT4 hT5 hK (zP_t (w1 := [(ay, .inl (cI, 60, .inl (zfl 60))), (ag, .inl (cI, 12, .inl (zgl 3)))]) (is := [0, 3]) hP rfl)) rfl rfl hl.1 rfl (lv_room (Nat.le_of_ble_eq_true rfl)) dL_law_84 ⟨show _ ≤ 600104 by omega, show _ ≤ 7301314 by omega⟩) hS (fun H hz1 hk1 hS => ?_)
              have hP := z_kept hP hk1
              have hP : va_P (dC, dI) vwCl ([(ay, .inl (cI, 60, .inl (zfl 60))), (az, .inl (cI, 60, .inl (zfl 60))), (ad, .inl (cI, 60, .inl (fun _ => 0))), (ag, .inl (cI, 12, .inl (zgl 3)))] ++ zOb cI cZ cH x0 xq xg had (nI 0) (fun _ => zt0)) H := hP
              have hD : va_D A ([(ay, .inl (cI, 60, .inl (zfl 60))), (az, .inl (cI, 60, .inl (zfl 60))), (ad, .inl (cI, 60, .inl (fun _ => 0))), (ag, .inl (cI, 12, .inl (zgl 3)))] ++ zOb cI cZ cH x0 xq xg had (nI 0) (fun _ => zt0)) := hD
              refine z_tv (v := 1) rfl ?_
              refine lv_if_eq (tgt := 105) hx hb dL_law_87 (by decide) (fun c_87 => absurd c_87 (by decide)) (fun c_87 => ?_)
              refine lv_aload_n hx hb dL_law_90 rfl (lv_at hl 1 rfl) ?_
              refine lv_aload_n hx hb dL_law_91 rfl (lv_at hl 2 rfl) ?_
              refine lv_aload hx hb dL_law_92 (lv_at hl 5 rfl) ?_
              refine lv_iconst (v := 5) hx hb dL_law_94 (by decide) ?_
              refine z_cG (va_runS (As := [.ref x0, .ref ay, .ref ag, .int 5]) (rest := []) ⟨hx, hb, hml, hown, hts⟩ (kL_isRefused_hi l dC dI cI cZ cH cJ x0 xq xg had hg (fun _ => zt0) 0 (by decide) ay ag (zfl 60) (zgl 3) 2 (by decide) 5 (by decide) (by decide) (by decide) (zInv_ho zInv_0) (zInv_yr zInv_0 (c := 2) (by decide)) ((zInv_0.2.1 2 (by decide)).2.2.2) ((zInv_0.2.1 2 (by decide)).2.2.1) hst) (va_cwS 4 hts gL_law_L_isRefused rfl rfl rfl (by decide +kernel) ⟨Nat.le_of_ble_eq_true rfl, Nat.le_of_ble_eq_true rfl⟩) (zPreY1 hS hA hT1 hT2 hT3 hT4 hT5 hK (zP_t (w1 := [(ay, .inl (cI, 60, .inl (zfl 60))), (ag, .inl (cI, 12, .inl (zgl 3)))]) (is := [0, 3]) hP rfl)) rfl rfl hl.1 rfl (lv_room (Nat.le_of_ble_eq_true rfl)) dL_law_95 ⟨show _ ≤ 600104 by omega, show _ ≤ 7301314 by omega⟩) hS (fun H hz1 hk1 hS => ?_)
              have hP := z_kept hP hk1
              have hP : va_P (dC, dI) vwCl ([(ay, .inl (cI, 60, .inl (zfl 60))), (az, .inl (cI, 60, .inl (zfl 60))), (ad, .inl (cI, 60, .inl (fun _ => 0))), (ag, .inl (cI, 12, .inl (zgl 3)))] ++ zOb cI cZ cH x0 xq xg had (nI 0) (fun _ => zt0)) H := hP
              have hD : va_D A ([(ay, .inl (cI, 60, .inl (zfl 60))), (az, .inl (cI, 60, .inl (zfl 60))), (ad, .inl (cI, 60, .inl (fun _ => 0))), (ag, .inl (cI, 12, .inl (zgl 3)))] ++ zOb cI cZ cH x0 xq xg had (nI 0) (fun _ => zt0)) := hD
              refine z_tv (v := 1) rfl ?_
              refine lv_if_eq (tgt := 105) hx hb dL_law_98 (by decide) (fun c_98 => absurd c_98 (by decide)) (fun c_98 => ?_)
              refine lv_iconst (v := 1) hx hb dL_law_101 (by decide) ?_
              refine lv_goto (tgt := 106) hx hb dL_law_102 (by decide) ?_
              refine lv_istore (lv' := [(6, .int 1), (0, .ref b), (1, .ref x0), (2, .ref ay), (3, .ref az), (4, .ref ad), (5, .ref ag)]) hx hb dL_law_106 hl (by decide) rfl (fun ls hl => ?_)
              refine lv_iconst (v := 0) hx hb dL_law_108 (by decide) ?_
              refine lv_istore (lv' := [(7, .int 0), (6, .int 1), (0, .ref b), (1, .ref x0), (2, .ref ay), (3, .ref az), (4, .ref ad), (5, .ref ag)]) hx hb dL_law_109 hl (by decide) rfl (fun ls hl => ?_)
              refine W.widen (k := 160 + 46 * 0) (n := 1800 + 276 * 0) (by omega) (by omega) ?_
              exact law_loop hF0 hAQ 121 0 (by decide) (by decide) _ _ _ ⟨0, (fun _ => zt0), zfl 60, zfl 60, (fun _ => 0), zgl 3, zInv_0, hP, hD, hS⟩ (lv_cg (lv_sub (l' := [(0, .ref b), (1, .ref x0), (2, .ref ay), (3, .ref az), (4, .ref ad), (5, .ref ag), (6, .int 1), (7, .int 0)]) hl [2, 3, 4, 5, 6, 7, 1, 0] rfl) (zl_k (zl_k (zl_k (zl_k (zl_k (zl_k (zl_k (zl_c (rfl) (rfl))))))))))
            · skip
              have hlt : i < 3 := z_lt (n := 3) hi (by decide) c_62
              refine lv_aload hx hb dL_law_65 (lv_at hl 5 rfl) ?_
              refine lv_iconst (v := 4) hx hb dL_law_67 (by decide) ?_
              refine lv_iload hx hb dL_law_68 (lv_at hl 6 rfl) ?_
              refine lv_imul hx hb dL_law_70 ?_
              refine z_tv (v := nI (4 * i)) (pk_mul 4 i) ?_
              refine lv_iconst (v := 1) hx hb dL_law_71 (by decide) ?_
              refine z_iast hx hb hK hP hD hS 3 rfl (zix_nI (by first | assumption | omega) (by decide)) dL_law_72 (fun H locs hP hD hS => ?_)
              have hP : va_P (dC, dI) vwCl ([(ay, .inl (cI, 60, .inl (zfl 60))), (az, .inl (cI, 60, .inl (zfl 60))), (ad, .inl (cI, 60, .inl (fun _ => 0))), (ag, .inl (cI, 12, .inl (upd (zgl i) (4 * i) 1)))] ++ zOb cI cZ cH x0 xq xg had (nI 0) (fun _ => zt0)) H := hP
              have hD : va_D A ([(ay, .inl (cI, 60, .inl (zfl 60))), (az, .inl (cI, 60, .inl (zfl 60))), (ad, .inl (cI, 60, .inl (fun _ => 0))), (ag, .inl (cI, 12, .inl (upd (zgl i) (4 * i) 1)))] ++ zOb cI cZ cH x0 xq xg had (nI 0) (fun _ => zt0)) := hD
              refine lv_iinc (v := nI (i + 1)) (lv' := [(6, .int (nI (i + 1))), (0, .ref b), (1, .ref x0), (2, .ref ay), (3, .ref az), (4, .ref ad), (5, .ref ag)]) hx hb dL_law_73 hl (k := 6) rfl (z_1) (by decide) rfl (fun ls hl => ?_)
              refine lv_goto (tgt := 59) hx hb dL_law_76 (by decide) ?_
              exact ih2 (i + 1) (by omega) (by omega)  _ _ (zP_eq hP (zw_t (zw_k (zw_k (zw_k (zw_a (zgl_s) (rfl))))) (rfl))) (zD_eq hD (zw_t (zw_k (zw_k (zw_k (zw_a (zgl_s) (rfl))))) (rfl))) hS _ (lv_sub hl [1, 2, 3, 4, 5, 6, 0] rfl)
        exact LOOP2 (3 + 1) 0 (by omega) (by omega)  _ _ (zP_eq hP (zw_t (zw_k (zw_k (zw_k (zw_a (zgl_0) (rfl))))) (rfl))) (zD_eq hD (zw_t (zw_k (zw_k (zw_k (zw_a (zgl_0) (rfl))))) (rfl))) hS _ (lv_cg (lv_sub (l' := [(0, .ref b), (1, .ref x0), (2, .ref ay), (3, .ref az), (4, .ref ad), (5, .ref ag), (6, .int 0)]) hl [1, 2, 3, 4, 5, 6, 0] rfl) (zl_k (zl_k (zl_k (zl_k (zl_k (zl_k (zl_c (rfl) (rfl)))))))))
      · skip
        have hlt : i < 60 := z_lt (n := 60) hi (by decide) c_37
        refine lv_aload_n hx hb dL_law_40 rfl (lv_at hl 2 rfl) ?_
        refine lv_iload hx hb dL_law_41 (lv_at hl 6 rfl) ?_
        refine lv_iconst (v := (-1)) hx hb dL_law_43 (by decide) ?_
        refine z_iast hx hb hK hP hD hS 0 rfl (zix_nI (by first | assumption | omega) (by decide)) dL_law_44 (fun H locs hP hD hS => ?_)
        have hP : va_P (dC, dI) vwCl ([(ay, .inl (cI, 60, .inl (upd (zfl i) i (-1)))), (az, .inl (cI, 60, .inl (zfl i))), (ad, .inl (cI, 60, .inl (fun _ => 0))), (ag, .inl (cI, 12, .inl (fun _ => 0)))] ++ zOb cI cZ cH x0 xq xg had (nI 0) (fun _ => zt0)) H := hP
        have hD : va_D A ([(ay, .inl (cI, 60, .inl (upd (zfl i) i (-1)))), (az, .inl (cI, 60, .inl (zfl i))), (ad, .inl (cI, 60, .inl (fun _ => 0))), (ag, .inl (cI, 12, .inl (fun _ => 0)))] ++ zOb cI cZ cH x0 xq xg had (nI 0) (fun _ => zt0)) := hD
        refine lv_aload_n hx hb dL_law_45 rfl (lv_at hl 3 rfl) ?_
        refine lv_iload hx hb dL_law_46 (lv_at hl 6 rfl) ?_
        refine lv_iconst (v := (-1)) hx hb dL_law_48 (by decide) ?_
        refine z_iast hx hb hK hP hD hS 1 rfl (zix_nI (by first | assumption | omega) (by decide)) dL_law_49 (fun H locs hP hD hS => ?_)
        have hP : va_P (dC, dI) vwCl ([(ay, .inl (cI, 60, .inl (upd (zfl i) i (-1)))), (az, .inl (cI, 60, .inl (upd (zfl i) i (-1)))), (ad, .inl (cI, 60, .inl (fun _ => 0))), (ag, .inl (cI, 12, .inl (fun _ => 0)))] ++ zOb cI cZ cH x0 xq xg had (nI 0) (fun _ => zt0)) H := hP
        have hD : va_D A ([(ay, .inl (cI, 60, .inl (upd (zfl i) i (-1)))), (az, .inl (cI, 60, .inl (upd (zfl i) i (-1)))), (ad, .inl (cI, 60, .inl (fun _ => 0))), (ag, .inl (cI, 12, .inl (fun _ => 0)))] ++ zOb cI cZ cH x0 xq xg had (nI 0) (fun _ => zt0)) := hD
        refine lv_iinc (v := nI (i + 1)) (lv' := [(6, .int (nI (i + 1))), (0, .ref b), (1, .ref x0), (2, .ref ay), (3, .ref az), (4, .ref ad), (5, .ref ag)]) hx hb dL_law_50 hl (k := 6) rfl (z_1) (by decide) rfl (fun ls hl => ?_)
        refine lv_goto (tgt := 33) hx hb dL_law_53 (by decide) ?_
        exact ih1 (i + 1) (by omega) (by omega)  _ _ (zP_eq hP (zw_t (zw_a (zfl_s) (zw_a (zfl_s) (zw_k (zw_k (rfl))))) (rfl))) (zD_eq hD (zw_t (zw_a (zfl_s) (zw_a (zfl_s) (zw_k (zw_k (rfl))))) (rfl))) hS _ (lv_sub hl [1, 2, 3, 4, 5, 6, 0] rfl)
  exact LOOP1 (60 + 1) 0 (by omega) (by omega)  _ _ (zP_eq hP (zw_t (zw_a (zfl_0) (zw_a (zfl_0) (zw_k (zw_k (rfl))))) (rfl))) (zD_eq hD (zw_t (zw_a (zfl_0) (zw_a (zfl_0) (zw_k (zw_k (rfl))))) (rfl))) hS _ (lv_cg (lv_sub (l' := [(0, .ref b), (1, .ref x0), (2, .ref ay), (3, .ref az), (4, .ref ad), (5, .ref ag), (6, .int 0)]) hl [1, 2, 3, 4, 5, 6, 0] rfl) (zl_k (zl_k (zl_k (zl_k (zl_k (zl_k (zl_c (rfl) (rfl)))))))))
