theorem zmt_n {z : zI} {w : Int32} {i : Nat} (h : mt z w i = false) : nI (zc (mt z w) i) = nI (zc (mt z w) (i + 1)) := by
  rw [zc, h]
  rfl
theorem zmt_y {z : zI} {w : Int32} {i : Nat} (h : mt z w i = true) : nI (zc (mt z w) i + 1) = nI (zc (mt z w) (i + 1)) := by
  rw [zc, h]
  rfl
theorem zth_n {z : zI} {w B : Int32} {i : Nat} (h : mt z w i = false) : zth z w B (i + 1) = zth z w B i := by
  rw [zth, if_neg (by rw [h]; decide)]
theorem zcd_d {c0 r0 : Nat} (hc : c0 < 3) (hr : r0 < 20) : nI (100 * c0 + r0) / 100 = nI c0 := by
  have h := pk_div (a := 100 * c0 + r0) (d := 100) (by omega) (by decide) (by decide)
  rw [show (100 * c0 + r0) / 100 = c0 by omega] at h
  exact h
theorem zcd_r {c0 r0 : Nat} (hc : c0 < 3) (hr : r0 < 20) : nI (100 * c0 + r0) - nI (100 * c0 + r0) / 100 * 100 = nI r0 := by
  have h := pk_rem (a := 100 * c0 + r0) (d := 100) (by omega) (by decide) (by decide)
  rw [show (100 * c0 + r0) % 100 = r0 by omega] at h
  exact h
set_option maxHeartbeats 8000000 in
set_option maxRecDepth 100000 in
/-- areAll -/
theorem kL_areAll (l : Launch) (dC : Nat → ClassId) (dI : Nat → Nat → Nat) (cI cZ cH cJ : ClassId) (x0 : Nat) (xq : Nat) (xg : Nat → Option Nat) (had : Nat → Nat → Nat) (hg : ∀ i, i < 4 → xg i = some (had i 0)) (σ : Nat → zHS) (N : Nat) (hN : N ≤ 5000) (ay : Nat) (az : Nat) (ag : Nat) (fy : zI) (fz : zI) (fg : zI) (fd : zI) (hI : zInv N σ fy fz fd fg) : Met l yL_areAll wsL_areAll ({ frames := 3, cells := 0, slots := 0, locals := 67 }) (zRc dC dI (zTy cI cZ cH cJ) [.ref x0, .ref ay, .ref az, .ref ag] ([(ay, .inl (cI, 60, .inl fy)), (az, .inl (cI, 60, .inl fz)), (ag, .inl (cI, 12, .inl fg))] ++ zOb cI cZ cH x0 xq xg had (nI N) σ)) (zSi 1) 0 0 (fun _ => False) := by
  refine Met.ofW (cc := cL_areAll) (maxL := 12) (ret := (some .boolean)) (by decide) rfl ?_
  intro p e s m args below meth c s₁ B hml hv0
  obtain ⟨rfl, hP, hK⟩ := hv0
  have hx := B.exec
  have hb := B.bytes
  have hr := B.returns
  have hts := atoms_spec (ws := wsL_areAll) B.pre
  have hown : s.vm.findClass RL = some m.cls := findClass_of_methodNamed B.named
  have hlocks := B.notSynchronized
  have hl := lv_entry ([.ref x0, .ref ay, .ref az, .ref ag]) (n := 12) (Nat.le_of_ble_eq_true rfl)
  rw [lg_entry_eq]
  generalize (lg_sl ([.ref x0, .ref ay, .ref az, .ref ag]) ++ List.replicate (12 - (lg_sl ([.ref x0, .ref ay, .ref az, .ref ag])).length) Slot.unset).toArray = ls at hl ⊢
  have hl : lv_has ls 12 [(0, .ref x0), (1, .ref ay), (2, .ref az), (3, .ref ag)] := hl
  refine lv_iconst (v := 1) hx hb dL_areAll_0 (by decide) ?_
  refine lv_istore (lv' := [(4, .int 1), (0, .ref x0), (1, .ref ay), (2, .ref az), (3, .ref ag)]) hx hb dL_areAll_1 hl (by decide) rfl (fun ls hl => ?_)
  refine lv_iconst (v := 0) hx hb dL_areAll_3 (by decide) ?_
  refine lv_istore (lv' := [(5, .int 0), (4, .int 1), (0, .ref x0), (1, .ref ay), (2, .ref az), (3, .ref ag)]) hx hb dL_areAll_4 hl (by decide) rfl (fun ls hl => ?_)
  have LOOP1 : ∀ (n1 j : Nat), j ≤ 3 → 3 < j + n1 → ∀ (ls : Array Slot), lv_has ls 12 [(0, .ref x0), (1, .ref ay), (2, .ref az), (3, .ref ag), (4, .int 1), (5, .int (nI j))] → W p l e (headSpec wsL_areAll ({ frames := 3, cells := 0, slots := 0, locals := 67 })).room s m ([.ref x0, .ref ay, .ref az, .ref ag] : List Value).toArray below meth c s.heap [] (0) (0) (MQ below (zSi 1) ([.ref x0, .ref ay, .ref az, .ref ag] : List Value).toArray s 0 0 (fun _ => False)) (F0 m 6 ls []) := by
    intro n1
    induction n1 with
    | zero => intro j h1 h2; exact absurd h2 (by omega)
    | succ n1 ih1 =>
      intro j hi hin   ls hl
      refine lv_iload hx hb dL_areAll_6 (lv_at hl 5 rfl) ?_
      refine lv_iconst (v := 3) hx hb dL_areAll_8 (by decide) ?_
      refine lv_icmp_ge (tgt := 282) hx hb dL_areAll_9 (by decide) (fun c_9 => ?_) (fun c_9 => ?_)
      · skip
        have e3 : j = 3 := z_ge (n := 3) hi (by decide) c_9
        subst e3
        refine lv_iconst (v := 0) hx hb dL_areAll_282 (by decide) ?_
        refine lv_istore (lv' := [(5, .int 0), (0, .ref x0), (1, .ref ay), (2, .ref az), (3, .ref ag), (4, .int 1)]) hx hb dL_areAll_283 hl (by decide) rfl (fun ls hl => ?_)
        refine lv_iconst (v := 0) hx hb dL_areAll_285 (by decide) ?_
        refine lv_istore (lv' := [(6, .int 0), (5, .int 0), (0, .ref x0), (1, .ref ay), (2, .ref az), (3, .ref ag), (4, .int 1)]) hx hb dL_areAll_286 hl (by decide) rfl (fun ls hl => ?_)
        have LOOP2 : ∀ (n2 j : Nat), j ≤ 10 → 10 < j + n2 → ∀ (ls : Array Slot), lv_has ls 12 [(0, .ref x0), (2, .ref az), (4, .int 1), (5, .int (nI (zws fz j))), (6, .int (nI j))] → W p l e (headSpec wsL_areAll ({ frames := 3, cells := 0, slots := 0, locals := 67 })).room s m ([.ref x0, .ref ay, .ref az, .ref ag] : List Value).toArray below meth c s.heap [] (0) (0) (MQ below (zSi 1) ([.ref x0, .ref ay, .ref az, .ref ag] : List Value).toArray s 0 0 (fun _ => False)) (F0 m 288 ls []) := by
          intro n2
          induction n2 with
          | zero => intro j h1 h2; exact absurd h2 (by omega)
          | succ n2 ih2 =>
            intro j hi hin   ls hl
            refine lv_iload hx hb dL_areAll_288 (lv_at hl 4 rfl) ?_
            refine lv_bipush (v := 10) hx hb dL_areAll_290 (by decide) ?_
            refine lv_icmp_ge (tgt := 546) hx hb dL_areAll_292 (by decide) (fun c_292 => ?_) (fun c_292 => ?_)
            · skip
              have e10 : j = 10 := z_ge (n := 10) hi (by decide) c_292
              subst e10
              refine lv_iload hx hb dL_areAll_546 (lv_at hl 2 rfl) ?_
              refine lv_if_eq (tgt := 585) hx hb dL_areAll_548 (by decide) (fun c_548 => absurd c_548 (by decide)) (fun c_548 => ?_)
              refine lv_iload hx hb dL_areAll_551 (lv_at hl 3 rfl) ?_
              refine lv_aload_n hx hb dL_areAll_553 rfl (lv_at hl 0 rfl) ?_
              refine lv_iconst (v := 0) hx hb dL_areAll_554 (by decide) ?_
              refine z_cRi (va_runV (As := [.int 0]) (rest := [.int (nI (zws fz 10))]) ⟨hx, hb, hml, hown, hts⟩ (c_held l dC dI cI cZ cH cJ x0 xq (nI N) xg had hg σ 0 (by first | assumption | omega)) (cwV 1 hts gL_areAll_X3_held rfl rfl rfl (by decide +kernel) ⟨Nat.le_of_ble_eq_true rfl, Nat.le_of_ble_eq_true rfl⟩) (zPreR1 hK (zP_r hP) (zrecv hK (zP_r hP))) rfl rfl hl.1 rfl (lv_room (Nat.le_of_ble_eq_true rfl)) dL_areAll_555 ⟨Nat.le_of_ble_eq_true rfl, Nat.le_of_ble_eq_true rfl⟩) ?_
              refine z_tv (v := zcnt (hST (σ 0)) 20) rfl ?_
              refine lv_aload_n hx hb dL_areAll_558 rfl (lv_at hl 0 rfl) ?_
              refine lv_iconst (v := 1) hx hb dL_areAll_559 (by decide) ?_
              refine z_cRi (va_runV (As := [.int 1]) (rest := [.int (zcnt (hST (σ 0)) 20), .int (nI (zws fz 10))]) ⟨hx, hb, hml, hown, hts⟩ (c_held l dC dI cI cZ cH cJ x0 xq (nI N) xg had hg σ 1 (by first | assumption | omega)) (cwV 1 hts gL_areAll_X3_held rfl rfl rfl (by decide +kernel) ⟨Nat.le_of_ble_eq_true rfl, Nat.le_of_ble_eq_true rfl⟩) (zPreR1 hK (zP_r hP) (zrecv hK (zP_r hP))) rfl rfl hl.1 rfl (lv_room (Nat.le_of_ble_eq_true rfl)) dL_areAll_560 ⟨Nat.le_of_ble_eq_true rfl, Nat.le_of_ble_eq_true rfl⟩) ?_
              refine z_tv (v := zcnt (hST (σ 1)) 20) rfl ?_
              refine lv_iadd hx hb dL_areAll_563 ?_
              refine lv_aload_n hx hb dL_areAll_564 rfl (lv_at hl 0 rfl) ?_
              refine lv_iconst (v := 2) hx hb dL_areAll_565 (by decide) ?_
              refine z_cRi (va_runV (As := [.int 2]) (rest := [.int ((zcnt (hST (σ 0)) 20) + (zcnt (hST (σ 1)) 20)), .int (nI (zws fz 10))]) ⟨hx, hb, hml, hown, hts⟩ (c_held l dC dI cI cZ cH cJ x0 xq (nI N) xg had hg σ 2 (by first | assumption | omega)) (cwV 1 hts gL_areAll_X3_held rfl rfl rfl (by decide +kernel) ⟨Nat.le_of_ble_eq_true rfl, Nat.le_of_ble_eq_true rfl⟩) (zPreR1 hK (zP_r hP) (zrecv hK (zP_r hP))) rfl rfl hl.1 rfl (lv_room (Nat.le_of_ble_eq_true rfl)) dL_areAll_566 ⟨Nat.le_of_ble_eq_true rfl, Nat.le_of_ble_eq_true rfl⟩) ?_
              refine z_tv (v := zcnt (hST (σ 2)) 20) rfl ?_
              refine lv_iadd hx hb dL_areAll_569 ?_
              refine z_tv (v := nI (zws fz 10)) (zheld_m hI) ?_
              refine lv_icmp_ne (tgt := 585) hx hb dL_areAll_570 (by decide) (fun c_570 => absurd c_570 (fun h => h rfl)) (fun c_570 => ?_)
              refine lv_aload_n hx hb dL_areAll_573 rfl (lv_at hl 0 rfl) ?_
              refine lv_iconst (v := 3) hx hb dL_areAll_574 (by decide) ?_
              refine z_cRi (va_runV (As := [.int 3]) (rest := []) ⟨hx, hb, hml, hown, hts⟩ (c_far l dC dI cI cZ cH cJ x0 xq (nI N) xg had hg σ 3 (by first | assumption | omega)) (cwV 1 hts gL_areAll_X3_far rfl rfl rfl (by decide +kernel) ⟨Nat.le_of_ble_eq_true rfl, Nat.le_of_ble_eq_true rfl⟩) (zPreR1 hK (zP_r hP) (zrecv hK (zP_r hP))) rfl rfl hl.1 rfl (lv_room (Nat.le_of_ble_eq_true rfl)) dL_areAll_575 ⟨Nat.le_of_ble_eq_true rfl, Nat.le_of_ble_eq_true rfl⟩) ?_
              refine z_tv (v := 0) (zfar3 hI) ?_
              refine lv_if_ne (tgt := 585) hx hb dL_areAll_578 (by decide) (fun c_578 => absurd c_578 (by decide)) (fun c_578 => ?_)
              refine lv_iconst (v := 1) hx hb dL_areAll_581 (by decide) ?_
              refine lv_goto (tgt := 586) hx hb dL_areAll_582 (by decide) ?_
              exact W.zret (ty := .boolean) hx hb hr (rfl) (fun t ht hW => ⟨rfl, ht⟩) (fun _ h => nomatch h) dL_areAll_586
            · skip
              have hj10 : j < 10 := z_lt (n := 10) hi (by decide) c_292
              refine lv_iload hx hb dL_areAll_295 (lv_at hl 2 rfl) ?_
              refine lv_if_eq (tgt := 546) hx hb dL_areAll_297 (by decide) (fun c_297 => absurd c_297 (by decide)) (fun c_297 => ?_)
              refine lv_aload_n hx hb dL_areAll_300 rfl (lv_at hl 0 rfl) ?_
              refine lv_iload hx hb dL_areAll_301 (lv_at hl 4 rfl) ?_
              refine z_cRi (va_runV (As := [.int (nI j)]) (rest := []) ⟨hx, hb, hml, hown, hts⟩ (c_best l dC dI cI cZ cH cJ x0 xq (nI N) xg had hg σ (nI j) (zin_n9 (by omega))) (cwV 1 hts gL_areAll_X3_best rfl rfl rfl (by decide +kernel) ⟨Nat.le_of_ble_eq_true rfl, Nat.le_of_ble_eq_true rfl⟩) (zPreR1 hK (zP_r hP) (zrecv hK (zP_r hP))) rfl rfl hl.1 rfl (lv_room (Nat.le_of_ble_eq_true rfl)) dL_areAll_303 ⟨Nat.le_of_ble_eq_true rfl, Nat.le_of_ble_eq_true rfl⟩) ?_
              refine z_tv (v := zB σ (nI j)) (rfl) ?_
              refine lv_istore (lv' := [(7, .int (zB σ (nI j))), (0, .ref x0), (2, .ref az), (4, .int 1), (5, .int (nI (zws fz j))), (6, .int (nI j))]) hx hb dL_areAll_306 hl (by decide) rfl (fun ls hl => ?_)
              refine lv_iconst (v := 0) hx hb dL_areAll_308 (by decide) ?_
              refine lv_istore (lv' := [(8, .int 0), (7, .int (zB σ (nI j))), (0, .ref x0), (2, .ref az), (4, .int 1), (5, .int (nI (zws fz j))), (6, .int (nI j))]) hx hb dL_areAll_309 hl (by decide) rfl (fun ls hl => ?_)
              have J322_3 : ∀ (ls : Array Slot), lv_has ls 12 [(8, .int 0), (7, .int (zB σ (nI j))), (0, .ref x0), (2, .ref az), (4, .int 1), (5, .int (nI (zws fz j))), (6, .int (nI j))] → W p l e (headSpec wsL_areAll ({ frames := 3, cells := 0, slots := 0, locals := 67 })).room s m ([.ref x0, .ref ay, .ref az, .ref ag] : List Value).toArray below meth c s.heap [] 0 0 (MQ below (zSi 1) ([.ref x0, .ref ay, .ref az, .ref ag] : List Value).toArray s 0 0 (fun _ => False)) (F0 m 322 ls [.int (zth fz (nI j) (zB σ (nI j)) 0)]) := by
                intro ls hl
                refine lv_istore (lv' := [(9, .int (zth fz (nI j) (zB σ (nI j)) 0)), (8, .int 0), (7, .int (zB σ (nI j))), (0, .ref x0), (2, .ref az), (4, .int 1), (5, .int (nI (zws fz j))), (6, .int (nI j))]) hx hb dL_areAll_322 hl (by decide) rfl (fun ls hl => ?_)
                refine lv_iconst (v := 0) hx hb dL_areAll_324 (by decide) ?_
                refine lv_istore (lv' := [(10, .int 0), (9, .int (zth fz (nI j) (zB σ (nI j)) 0)), (8, .int 0), (7, .int (zB σ (nI j))), (0, .ref x0), (2, .ref az), (4, .int 1), (5, .int (nI (zws fz j))), (6, .int (nI j))]) hx hb dL_areAll_325 hl (by decide) rfl (fun ls hl => ?_)
                have LOOP4 : ∀ (n4 i : Nat), i ≤ 60 → 60 < i + n4 → ∀ (ls : Array Slot), lv_has ls 12 [(0, .ref x0), (2, .ref az), (4, .int 1), (5, .int (nI (zws fz j))), (6, .int (nI j)), (7, .int (zB σ (nI j))), (8, .int (nI (zc (mt fz (nI j)) i))), (9, .int (zth fz (nI j) (zB σ (nI j)) i)), (10, .int (nI i))] → W p l e (headSpec wsL_areAll ({ frames := 3, cells := 0, slots := 0, locals := 67 })).room s m ([.ref x0, .ref ay, .ref az, .ref ag] : List Value).toArray below meth c s.heap [] (0) (0) (MQ below (zSi 1) ([.ref x0, .ref ay, .ref az, .ref ag] : List Value).toArray s 0 0 (fun _ => False)) (F0 m 327 ls []) := by
                  intro n4
                  induction n4 with
                  | zero => intro i h1 h2; exact absurd h2 (by omega)
                  | succ n4 ih4 =>
                    intro i hi hin   ls hl
                    refine lv_iload hx hb dL_areAll_327 (lv_at hl 8 rfl) ?_
                    refine lv_bipush (v := 60) hx hb dL_areAll_329 (by decide) ?_
                    refine lv_icmp_ge (tgt := 482) hx hb dL_areAll_331 (by decide) (fun c_331 => ?_) (fun c_331 => ?_)
                    · skip
                      have e60 : i = 60 := z_ge (n := 60) hi (by decide) c_331
                      subst e60
                      refine lv_iload hx hb dL_areAll_482 (lv_at hl 3 rfl) ?_
                      refine lv_iload hx hb dL_areAll_484 (lv_at hl 6 rfl) ?_
                      refine lv_iadd hx hb dL_areAll_486 ?_
                      refine z_tv (v := nI (zws fz (j + 1))) (nI_add _ _) ?_
                      refine lv_istore (lv' := [(5, .int (nI (zws fz (j + 1)))), (0, .ref x0), (2, .ref az), (4, .int 1), (6, .int (nI j)), (7, .int (zB σ (nI j))), (8, .int (nI (zc (mt fz (nI j)) 60))), (9, .int (zth fz (nI j) (zB σ (nI j)) 60)), (10, .int (nI 60))]) hx hb dL_areAll_487 hl (by decide) rfl (fun ls hl => ?_)
                      refine lv_iload hx hb dL_areAll_489 (lv_at hl 3 rfl) ?_
                      refine lv_if_eq (tgt := 537) hx hb dL_areAll_491 (by decide) (fun c_491 => absurd c_491 (by decide)) (fun c_491 => ?_)
                      refine lv_iload hx hb dL_areAll_494 (lv_at hl 7 rfl) ?_
                      refine z_tv (v := 1) (zB_th hI _) ?_
                      refine lv_if_eq (tgt := 537) hx hb dL_areAll_496 (by decide) (fun c_496 => absurd c_496 (by decide)) (fun c_496 => ?_)
                      refine lv_aload_n hx hb dL_areAll_499 rfl (lv_at hl 1 rfl) ?_
                      refine lv_iload hx hb dL_areAll_500 (lv_at hl 4 rfl) ?_
                      refine z_cRi (va_runV (As := [.int (nI j)]) (rest := []) ⟨hx, hb, hml, hown, hts⟩ (c_copies l dC dI cI cZ cH cJ x0 xq (nI N) xg had hg σ (nI j) (zin_n9 (by omega))) (cwV 1 hts gL_areAll_X3_copies rfl rfl rfl (by decide +kernel) ⟨Nat.le_of_ble_eq_true rfl, Nat.le_of_ble_eq_true rfl⟩) (zPreR1 hK (zP_r hP) (zrecv hK (zP_r hP))) rfl rfl hl.1 rfl (lv_room (Nat.le_of_ble_eq_true rfl)) dL_areAll_502 ⟨Nat.le_of_ble_eq_true rfl, Nat.le_of_ble_eq_true rfl⟩) ?_
                      refine z_tv (v := nI (zc (mt fz (nI j)) 60)) (zcop_m hI _) ?_
                      refine lv_iload hx hb dL_areAll_505 (lv_at hl 6 rfl) ?_
                      refine lv_icmp_ne (tgt := 537) hx hb dL_areAll_507 (by decide) (fun c_507 => absurd c_507 (fun h => h rfl)) (fun c_507 => ?_)
                      refine lv_iload hx hb dL_areAll_510 (lv_at hl 5 rfl) ?_
                      refine lv_if_ge (tgt := 519) hx hb dL_areAll_512 (by decide) (fun c_512 => ?_) (fun c_512 => ?_)
                      · skip
                        refine lv_iconst (v := 0) hx hb dL_areAll_519 (by decide) ?_
                        refine lv_iload hx hb dL_areAll_520 (lv_at hl 6 rfl) ?_
                        refine lv_if_ne (tgt := 529) hx hb dL_areAll_522 (by decide) (fun c_522 => ?_) (fun c_522 => absurd c_522 ((zB_0 hI _).mp c_512))
                        refine lv_iconst (v := 0) hx hb dL_areAll_529 (by decide) ?_
                        refine lv_icmp_ne (tgt := 537) hx hb dL_areAll_530 (by decide) (fun c_530 => absurd c_530 (by decide)) (fun c_530 => ?_)
                        refine lv_iconst (v := 1) hx hb dL_areAll_533 (by decide) ?_
                        refine lv_goto (tgt := 538) hx hb dL_areAll_534 (by decide) ?_
                        refine lv_istore (lv' := [(4, .int 1), (5, .int (nI (zws fz (j + 1)))), (0, .ref x0), (2, .ref az), (6, .int (nI j)), (7, .int (zB σ (nI j))), (8, .int (nI (zc (mt fz (nI j)) 60))), (9, .int (zth fz (nI j) (zB σ (nI j)) 60)), (10, .int (nI 60))]) hx hb dL_areAll_538 hl (by decide) rfl (fun ls hl => ?_)
                        refine lv_iinc (v := nI (j + 1)) (lv' := [(6, .int (nI (j + 1))), (4, .int 1), (5, .int (nI (zws fz (j + 1)))), (0, .ref x0), (2, .ref az), (7, .int (zB σ (nI j))), (8, .int (nI (zc (mt fz (nI j)) 60))), (9, .int (zth fz (nI j) (zB σ (nI j)) 60)), (10, .int (nI 60))]) hx hb dL_areAll_540 hl (k := 4) rfl (z_1) (by decide) rfl (fun ls hl => ?_)
                        refine lv_goto (tgt := 288) hx hb dL_areAll_543 (by decide) ?_
                        exact ih2 (j + 1) (by omega) (by omega)  _ (lv_sub hl [3, 4, 1, 2, 0] rfl)
                      · skip
                        refine lv_iconst (v := 1) hx hb dL_areAll_515 (by decide) ?_
                        refine lv_goto (tgt := 520) hx hb dL_areAll_516 (by decide) ?_
                        refine lv_iload hx hb dL_areAll_520 (lv_at hl 6 rfl) ?_
                        refine lv_if_ne (tgt := 529) hx hb dL_areAll_522 (by decide) (fun c_522 => absurd c_522 (fun q => q (Classical.byContradiction (fun z => c_512 ((zB_0 hI _).mpr z))))) (fun c_522 => ?_)
                        refine lv_iconst (v := 1) hx hb dL_areAll_525 (by decide) ?_
                        refine lv_goto (tgt := 530) hx hb dL_areAll_526 (by decide) ?_
                        refine lv_icmp_ne (tgt := 537) hx hb dL_areAll_530 (by decide) (fun c_530 => absurd c_530 (by decide)) (fun c_530 => ?_)
                        refine lv_iconst (v := 1) hx hb dL_areAll_533 (by decide) ?_
                        refine lv_goto (tgt := 538) hx hb dL_areAll_534 (by decide) ?_
                        refine lv_istore (lv' := [(4, .int 1), (5, .int (nI (zws fz (j + 1)))), (0, .ref x0), (2, .ref az), (6, .int (nI j)), (7, .int (zB σ (nI j))), (8, .int (nI (zc (mt fz (nI j)) 60))), (9, .int (zth fz (nI j) (zB σ (nI j)) 60)), (10, .int (nI 60))]) hx hb dL_areAll_538 hl (by decide) rfl (fun ls hl => ?_)
                        refine lv_iinc (v := nI (j + 1)) (lv' := [(6, .int (nI (j + 1))), (4, .int 1), (5, .int (nI (zws fz (j + 1)))), (0, .ref x0), (2, .ref az), (7, .int (zB σ (nI j))), (8, .int (nI (zc (mt fz (nI j)) 60))), (9, .int (zth fz (nI j) (zB σ (nI j)) 60)), (10, .int (nI 60))]) hx hb dL_areAll_540 hl (k := 4) rfl (z_1) (by decide) rfl (fun ls hl => ?_)
                        refine lv_goto (tgt := 288) hx hb dL_areAll_543 (by decide) ?_
                        exact ih2 (j + 1) (by omega) (by omega)  _ (lv_sub hl [3, 4, 1, 2, 0] rfl)
                    · skip
                      have hlt : i < 60 := z_lt (n := 60) hi (by decide) c_331
                      refine lv_iload hx hb dL_areAll_334 (lv_at hl 2 rfl) ?_
                      refine lv_if_eq (tgt := 482) hx hb dL_areAll_336 (by decide) (fun c_336 => absurd c_336 (by decide)) (fun c_336 => ?_)
                      refine lv_aload_n hx hb dL_areAll_339 rfl (lv_at hl 1 rfl) ?_
                      refine lv_iload hx hb dL_areAll_340 (lv_at hl 8 rfl) ?_
                      refine z_iald hx hb hK hP 1 rfl (zix_nI (by first | assumption | omega) (by decide)) dL_areAll_342 ?_
                      refine z_tv (v := fz i) (rfl) ?_
                      refine lv_if_lt (tgt := 476) hx hb dL_areAll_343 (by decide) (fun c_343 => ?_) (fun c_343 => ?_)
                      · skip
                        have hmn : mt fz (nI j) i = false := decide_eq_false (fun q => nlt_le c_343 q.1)
                        refine lv_iinc (v := nI (i + 1)) (lv' := [(10, .int (nI (i + 1))), (0, .ref x0), (2, .ref az), (4, .int 1), (5, .int (nI (zws fz j))), (6, .int (nI j)), (7, .int (zB σ (nI j))), (8, .int (nI (zc (mt fz (nI j)) i))), (9, .int (zth fz (nI j) (zB σ (nI j)) i))]) hx hb dL_areAll_476 hl (k := 8) rfl (z_1) (by decide) rfl (fun ls hl => ?_)
                        refine lv_goto (tgt := 327) hx hb dL_areAll_479 (by decide) ?_
                        exact ih4 (i + 1) (by omega) (by omega)  _ (lv_cg (lv_sub (l' := [(0, .ref x0), (2, .ref az), (4, .int 1), (5, .int (nI (zws fz j))), (6, .int (nI j)), (7, .int (zB σ (nI j))), (8, .int (nI (zc (mt fz (nI j)) i))), (9, .int (zth fz (nI j) (zB σ (nI j)) i)), (10, .int (nI (i + 1)))]) hl [1, 2, 3, 4, 5, 6, 7, 8, 0] rfl) (zl_k (zl_k (zl_k (zl_k (zl_k (zl_k (zl_c (by first | exact zmt_n hmn | exact zmt_y hmy) (zl_c (by first | exact (zth_n hmn).symm | rfl) (zl_k (rfl)))))))))))
                      · skip
                        refine lv_aload_n hx hb dL_areAll_346 rfl (lv_at hl 1 rfl) ?_
                        refine lv_iload hx hb dL_areAll_347 (lv_at hl 8 rfl) ?_
                        refine z_iald hx hb hK hP 1 rfl (zix_nI (by first | assumption | omega) (by decide)) dL_areAll_349 ?_
                        refine z_tv (v := fz i) (rfl) ?_
                        refine lv_bipush (v := 10) hx hb dL_areAll_350 (by decide) ?_
                        refine lv_ishr hx hb dL_areAll_352 ?_
                        refine z_tv (v := (fz i) >>> 10) (congrArg (fun z => (fz i) >>> z) (show (10 : Int32) &&& 31 = 10 by decide)) ?_
                        refine lv_bipush (v := 15) hx hb dL_areAll_353 (by decide) ?_
                        refine lv_iand hx hb dL_areAll_355 ?_
                        refine lv_iload hx hb dL_areAll_356 (lv_at hl 4 rfl) ?_
                        refine lv_icmp_ne (tgt := 476) hx hb dL_areAll_358 (by decide) (fun c_358 => ?_) (fun c_358 => ?_)
                        · skip
                          have hmn : mt fz (nI j) i = false := decide_eq_false (fun q => c_358 q.2)
                          refine lv_iinc (v := nI (i + 1)) (lv' := [(10, .int (nI (i + 1))), (0, .ref x0), (2, .ref az), (4, .int 1), (5, .int (nI (zws fz j))), (6, .int (nI j)), (7, .int (zB σ (nI j))), (8, .int (nI (zc (mt fz (nI j)) i))), (9, .int (zth fz (nI j) (zB σ (nI j)) i))]) hx hb dL_areAll_476 hl (k := 8) rfl (z_1) (by decide) rfl (fun ls hl => ?_)
                          refine lv_goto (tgt := 327) hx hb dL_areAll_479 (by decide) ?_
                          exact ih4 (i + 1) (by omega) (by omega)  _ (lv_cg (lv_sub (l' := [(0, .ref x0), (2, .ref az), (4, .int 1), (5, .int (nI (zws fz j))), (6, .int (nI j)), (7, .int (zB σ (nI j))), (8, .int (nI (zc (mt fz (nI j)) i))), (9, .int (zth fz (nI j) (zB σ (nI j)) i)), (10, .int (nI (i + 1)))]) hl [1, 2, 3, 4, 5, 6, 7, 8, 0] rfl) (zl_k (zl_k (zl_k (zl_k (zl_k (zl_k (zl_c (by first | exact zmt_n hmn | exact zmt_y hmy) (zl_c (by first | exact (zth_n hmn).symm | rfl) (zl_k (rfl)))))))))))
                        · skip
                          have hmy : mt fz (nI j) i = true := decide_eq_true ⟨(Int32.not_lt).mp c_343, c_358⟩
                          obtain ⟨c0, r0, hc0, hr0, hB, hm0, hmax⟩ := (zB_sp hI (nI j)).resolve_left (fun q => by have q1 := q.2 i hlt; rw [hmy] at q1; exact absurd q1 (by decide))
                          have hmi := hmax i hlt hmy
                          refine lv_bipush (v := 100) hx hb dL_areAll_361 (by decide) ?_
                          refine lv_iload hx hb dL_areAll_363 (lv_at hl 8 rfl) ?_
                          refine lv_bipush (v := 20) hx hb dL_areAll_365 (by decide) ?_
                          refine lv_idiv hx hb dL_areAll_367 (by decide) ?_
                          refine z_tv (v := nI (i / 20)) (pk_div (d := 20) (by omega) (by decide) (by decide)) ?_
                          refine lv_imul hx hb dL_areAll_368 ?_
                          refine z_tv (v := nI (100 * (i / 20))) (pk_mul 100 (i / 20)) ?_
                          refine lv_iload hx hb dL_areAll_369 (lv_at hl 8 rfl) ?_
                          refine lv_bipush (v := 20) hx hb dL_areAll_371 (by decide) ?_
                          refine lv_irem hx hb dL_areAll_373 (by decide) ?_
                          refine z_tv (v := nI (i % 20)) (pk_rem (d := 20) (by omega) (by decide) (by decide)) ?_
                          refine lv_iadd hx hb dL_areAll_374 ?_
                          refine z_tv (v := nI (zcd i)) (nI_add _ _) ?_
                          refine lv_istore (lv' := [(11, .int (nI (zcd i))), (0, .ref x0), (2, .ref az), (4, .int 1), (5, .int (nI (zws fz j))), (6, .int (nI j)), (7, .int (zB σ (nI j))), (8, .int (nI (zc (mt fz (nI j)) i))), (9, .int (zth fz (nI j) (zB σ (nI j)) i)), (10, .int (nI i))]) hx hb dL_areAll_375 hl (by decide) rfl (fun ls hl => ?_)
                          refine lv_iinc (v := nI ((zc (mt fz (nI j)) i) + 1)) (lv' := [(8, .int (nI ((zc (mt fz (nI j)) i) + 1))), (11, .int (nI (zcd i))), (0, .ref x0), (2, .ref az), (4, .int 1), (5, .int (nI (zws fz j))), (6, .int (nI j)), (7, .int (zB σ (nI j))), (9, .int (zth fz (nI j) (zB σ (nI j)) i)), (10, .int (nI i))]) hx hb dL_areAll_377 hl (k := 7) rfl (z_1) (by decide) rfl (fun ls hl => ?_)
                          have J397_5 : ∀ (ls : Array Slot), lv_has ls 12 [(8, .int (nI ((zc (mt fz (nI j)) i) + 1))), (11, .int (nI (zcd i))), (0, .ref x0), (2, .ref az), (4, .int 1), (5, .int (nI (zws fz j))), (6, .int (nI j)), (7, .int (zB σ (nI j))), (9, .int (zth fz (nI j) (zB σ (nI j)) i)), (10, .int (nI i))] → W p l e (headSpec wsL_areAll ({ frames := 3, cells := 0, slots := 0, locals := 67 })).room s m ([.ref x0, .ref ay, .ref az, .ref ag] : List Value).toArray below meth c s.heap [] 0 0 (MQ below (zSi 1) ([.ref x0, .ref ay, .ref az, .ref ag] : List Value).toArray s 0 0 (fun _ => False)) (F0 m 397 ls [.int (zth fz (nI j) (zB σ (nI j)) (i + 1))]) := by
                            intro ls hl
                            refine lv_istore (lv' := [(9, .int (zth fz (nI j) (zB σ (nI j)) (i + 1))), (8, .int (nI ((zc (mt fz (nI j)) i) + 1))), (11, .int (nI (zcd i))), (0, .ref x0), (2, .ref az), (4, .int 1), (5, .int (nI (zws fz j))), (6, .int (nI j)), (7, .int (zB σ (nI j))), (10, .int (nI i))]) hx hb dL_areAll_397 hl (by decide) rfl (fun ls hl => ?_)
                            refine lv_iload hx hb dL_areAll_399 (lv_at hl 8 rfl) ?_
                            refine lv_if_lt (tgt := 473) hx hb dL_areAll_401 (by decide) (fun c_401 => absurd c_401 (by rw [hB]; exact nI_pos (by omega))) (fun c_401 => ?_)
                            refine lv_aload_n hx hb dL_areAll_404 rfl (lv_at hl 4 rfl) ?_
                            refine lv_iload hx hb dL_areAll_405 (lv_at hl 9 rfl) ?_
                            refine z_iald hx hb hK hP 1 rfl (zix_nI (by first | assumption | omega) (by decide)) dL_areAll_407 ?_
                            refine z_tv (v := fz i) (rfl) ?_
                            refine z_cRi (va_runS (As := [.int (fz i)]) (rest := []) ⟨hx, hb, hml, hown, hts⟩ (kL_stampOf l (fz i)) (va_cwS 1 hts gL_areAll_L_stampOf rfl rfl rfl (by decide +kernel) ⟨Nat.le_of_ble_eq_true rfl, Nat.le_of_ble_eq_true rfl⟩) (zPre0) rfl rfl hl.1 rfl (lv_room (Nat.le_of_ble_eq_true rfl)) dL_areAll_408 ⟨Nat.le_of_ble_eq_true rfl, Nat.le_of_ble_eq_true rfl⟩) ?_
                            refine z_tv (v := zso (fz i)) rfl ?_
                            refine lv_aload_n hx hb dL_areAll_411 rfl (lv_at hl 4 rfl) ?_
                            refine lv_iload hx hb dL_areAll_412 (lv_at hl 8 rfl) ?_
                            refine z_tv (v := nI (100 * c0 + r0)) (hB) ?_
                            refine lv_bipush (v := 100) hx hb dL_areAll_414 (by decide) ?_
                            refine lv_idiv hx hb dL_areAll_416 (by decide) ?_
                            refine z_tv (v := nI c0) (zcd_d hc0 hr0) ?_
                            refine lv_bipush (v := 20) hx hb dL_areAll_417 (by decide) ?_
                            refine lv_imul hx hb dL_areAll_419 ?_
                            refine z_tv (v := nI (20 * c0)) ((pk_mul c0 20).trans (congrArg nI (Nat.mul_comm c0 20))) ?_
                            refine lv_iload hx hb dL_areAll_420 (lv_at hl 8 rfl) ?_
                            refine z_tv (v := nI (100 * c0 + r0)) (hB) ?_
                            refine lv_bipush (v := 100) hx hb dL_areAll_422 (by decide) ?_
                            refine lv_irem hx hb dL_areAll_424 (by decide) ?_
                            refine z_tv (v := nI r0) (zcd_r hc0 hr0) ?_
                            refine lv_iadd hx hb dL_areAll_425 ?_
                            refine z_tv (v := nI (20 * c0 + r0)) (nI_add (20 * c0) r0) ?_
                            refine z_iald hx hb hK hP 1 rfl (zix_nI (by first | assumption | omega) (by decide)) dL_areAll_426 ?_
                            refine z_tv (v := fz (20 * c0 + r0)) (rfl) ?_
                            refine z_cRi (va_runS (As := [.int (fz (20 * c0 + r0))]) (rest := [.int (zso (fz i))]) ⟨hx, hb, hml, hown, hts⟩ (kL_stampOf l (fz (20 * c0 + r0))) (va_cwS 1 hts gL_areAll_L_stampOf rfl rfl rfl (by decide +kernel) ⟨Nat.le_of_ble_eq_true rfl, Nat.le_of_ble_eq_true rfl⟩) (zPre0) rfl rfl hl.1 rfl (lv_room (Nat.le_of_ble_eq_true rfl)) dL_areAll_427 ⟨Nat.le_of_ble_eq_true rfl, Nat.le_of_ble_eq_true rfl⟩) ?_
                            refine z_tv (v := zso (fz (20 * c0 + r0))) rfl ?_
                            refine lv_icmp_lt (tgt := 469) hx hb dL_areAll_430 (by decide) (fun c_430 => ?_) (fun c_430 => ?_)
                            · skip
                              refine lv_iconst (v := 1) hx hb dL_areAll_469 (by decide) ?_
                              refine lv_goto (tgt := 474) hx hb dL_areAll_470 (by decide) ?_
                              refine lv_istore (lv' := [(4, .int 1), (9, .int (zth fz (nI j) (zB σ (nI j)) (i + 1))), (8, .int (nI ((zc (mt fz (nI j)) i) + 1))), (11, .int (nI (zcd i))), (0, .ref x0), (2, .ref az), (5, .int (nI (zws fz j))), (6, .int (nI j)), (7, .int (zB σ (nI j))), (10, .int (nI i))]) hx hb dL_areAll_474 hl (by decide) rfl (fun ls hl => ?_)
                              refine lv_iinc (v := nI (i + 1)) (lv' := [(10, .int (nI (i + 1))), (4, .int 1), (9, .int (zth fz (nI j) (zB σ (nI j)) (i + 1))), (8, .int (nI ((zc (mt fz (nI j)) i) + 1))), (11, .int (nI (zcd i))), (0, .ref x0), (2, .ref az), (5, .int (nI (zws fz j))), (6, .int (nI j)), (7, .int (zB σ (nI j)))]) hx hb dL_areAll_476 hl (k := 9) rfl (z_1) (by decide) rfl (fun ls hl => ?_)
                              refine lv_goto (tgt := 327) hx hb dL_areAll_479 (by decide) ?_
                              exact ih4 (i + 1) (by omega) (by omega)  _ (lv_cg (lv_sub (l' := [(0, .ref x0), (2, .ref az), (4, .int 1), (5, .int (nI (zws fz j))), (6, .int (nI j)), (7, .int (zB σ (nI j))), (8, .int (nI ((zc (mt fz (nI j)) i) + 1))), (9, .int (zth fz (nI j) (zB σ (nI j)) (i + 1))), (10, .int (nI (i + 1)))]) hl [5, 6, 1, 7, 8, 9, 3, 2, 0] rfl) (zl_k (zl_k (zl_k (zl_k (zl_k (zl_k (zl_c (by first | exact zmt_n hmn | exact zmt_y hmy) (zl_k (zl_k (rfl)))))))))))
                            · skip
                              refine lv_aload_n hx hb dL_areAll_433 rfl (lv_at hl 4 rfl) ?_
                              refine lv_iload hx hb dL_areAll_434 (lv_at hl 9 rfl) ?_
                              refine z_iald hx hb hK hP 1 rfl (zix_nI (by first | assumption | omega) (by decide)) dL_areAll_436 ?_
                              refine z_tv (v := fz i) (rfl) ?_
                              refine z_cRi (va_runS (As := [.int (fz i)]) (rest := []) ⟨hx, hb, hml, hown, hts⟩ (kL_stampOf l (fz i)) (va_cwS 1 hts gL_areAll_L_stampOf rfl rfl rfl (by decide +kernel) ⟨Nat.le_of_ble_eq_true rfl, Nat.le_of_ble_eq_true rfl⟩) (zPre0) rfl rfl hl.1 rfl (lv_room (Nat.le_of_ble_eq_true rfl)) dL_areAll_437 ⟨Nat.le_of_ble_eq_true rfl, Nat.le_of_ble_eq_true rfl⟩) ?_
                              refine z_tv (v := zso (fz i)) rfl ?_
                              refine lv_aload_n hx hb dL_areAll_440 rfl (lv_at hl 4 rfl) ?_
                              refine lv_iload hx hb dL_areAll_441 (lv_at hl 8 rfl) ?_
                              refine z_tv (v := nI (100 * c0 + r0)) (hB) ?_
                              refine lv_bipush (v := 100) hx hb dL_areAll_443 (by decide) ?_
                              refine lv_idiv hx hb dL_areAll_445 (by decide) ?_
                              refine z_tv (v := nI c0) (zcd_d hc0 hr0) ?_
                              refine lv_bipush (v := 20) hx hb dL_areAll_446 (by decide) ?_
                              refine lv_imul hx hb dL_areAll_448 ?_
                              refine z_tv (v := nI (20 * c0)) ((pk_mul c0 20).trans (congrArg nI (Nat.mul_comm c0 20))) ?_
                              refine lv_iload hx hb dL_areAll_449 (lv_at hl 8 rfl) ?_
                              refine z_tv (v := nI (100 * c0 + r0)) (hB) ?_
                              refine lv_bipush (v := 100) hx hb dL_areAll_451 (by decide) ?_
                              refine lv_irem hx hb dL_areAll_453 (by decide) ?_
                              refine z_tv (v := nI r0) (zcd_r hc0 hr0) ?_
                              refine lv_iadd hx hb dL_areAll_454 ?_
                              refine z_tv (v := nI (20 * c0 + r0)) (nI_add (20 * c0) r0) ?_
                              refine z_iald hx hb hK hP 1 rfl (zix_nI (by first | assumption | omega) (by decide)) dL_areAll_455 ?_
                              refine z_tv (v := fz (20 * c0 + r0)) (rfl) ?_
                              refine z_cRi (va_runS (As := [.int (fz (20 * c0 + r0))]) (rest := [.int (zso (fz i))]) ⟨hx, hb, hml, hown, hts⟩ (kL_stampOf l (fz (20 * c0 + r0))) (va_cwS 1 hts gL_areAll_L_stampOf rfl rfl rfl (by decide +kernel) ⟨Nat.le_of_ble_eq_true rfl, Nat.le_of_ble_eq_true rfl⟩) (zPre0) rfl rfl hl.1 rfl (lv_room (Nat.le_of_ble_eq_true rfl)) dL_areAll_456 ⟨Nat.le_of_ble_eq_true rfl, Nat.le_of_ble_eq_true rfl⟩) ?_
                              refine z_tv (v := zso (fz (20 * c0 + r0))) rfl ?_
                              refine lv_icmp_ne (tgt := 473) hx hb dL_areAll_459 (by decide) (fun c_459 => absurd c_459 (fun q => q ((hmi.resolve_left c_430).1))) (fun c_459 => ?_)
                              refine lv_iload hx hb dL_areAll_462 (lv_at hl 8 rfl) ?_
                              refine z_tv (v := nI (100 * c0 + r0)) (hB) ?_
                              refine lv_iload hx hb dL_areAll_464 (lv_at hl 2 rfl) ?_
                              refine lv_icmp_gt (tgt := 473) hx hb dL_areAll_466 (by decide) (fun c_466 => absurd c_466 (nI_nlt ((hmi.resolve_left c_430).2) (by unfold zcd; omega))) (fun c_466 => ?_)
                              refine lv_iconst (v := 1) hx hb dL_areAll_469 (by decide) ?_
                              refine lv_goto (tgt := 474) hx hb dL_areAll_470 (by decide) ?_
                              refine lv_istore (lv' := [(4, .int 1), (9, .int (zth fz (nI j) (zB σ (nI j)) (i + 1))), (8, .int (nI ((zc (mt fz (nI j)) i) + 1))), (11, .int (nI (zcd i))), (0, .ref x0), (2, .ref az), (5, .int (nI (zws fz j))), (6, .int (nI j)), (7, .int (zB σ (nI j))), (10, .int (nI i))]) hx hb dL_areAll_474 hl (by decide) rfl (fun ls hl => ?_)
                              refine lv_iinc (v := nI (i + 1)) (lv' := [(10, .int (nI (i + 1))), (4, .int 1), (9, .int (zth fz (nI j) (zB σ (nI j)) (i + 1))), (8, .int (nI ((zc (mt fz (nI j)) i) + 1))), (11, .int (nI (zcd i))), (0, .ref x0), (2, .ref az), (5, .int (nI (zws fz j))), (6, .int (nI j)), (7, .int (zB σ (nI j)))]) hx hb dL_areAll_476 hl (k := 9) rfl (z_1) (by decide) rfl (fun ls hl => ?_)
                              refine lv_goto (tgt := 327) hx hb dL_areAll_479 (by decide) ?_
                              exact ih4 (i + 1) (by omega) (by omega)  _ (lv_cg (lv_sub (l' := [(0, .ref x0), (2, .ref az), (4, .int 1), (5, .int (nI (zws fz j))), (6, .int (nI j)), (7, .int (zB σ (nI j))), (8, .int (nI ((zc (mt fz (nI j)) i) + 1))), (9, .int (zth fz (nI j) (zB σ (nI j)) (i + 1))), (10, .int (nI (i + 1)))]) hl [5, 6, 1, 7, 8, 9, 3, 2, 0] rfl) (zl_k (zl_k (zl_k (zl_k (zl_k (zl_k (zl_c (by first | exact zmt_n hmn | exact zmt_y hmy) (zl_k (zl_k (rfl)))))))))))
                          refine lv_iload hx hb dL_areAll_380 (lv_at hl 8 rfl) ?_
                          refine lv_if_ne (tgt := 392) hx hb dL_areAll_382 (by decide) (fun c_382 => ?_) (fun c_382 => ?_)
                          · skip
                            refine lv_iconst (v := 1) hx hb dL_areAll_392 (by decide) ?_
                            refine lv_goto (tgt := 397) hx hb dL_areAll_393 (by decide) ?_
                            refine z_tv (v := zth fz (nI j) (zB σ (nI j)) (i + 1)) (by rw [zth, if_pos hmy]; first | rw [if_neg c_382] | rw [if_pos c_382, if_pos c_389] | rw [if_pos c_382, if_neg c_389]) ?_
                            exact J397_5 _ (lv_sub hl [0, 1, 2, 3, 4, 5, 6, 7, 8, 9] rfl)
                          · skip
                            refine lv_iload hx hb dL_areAll_385 (lv_at hl 1 rfl) ?_
                            refine lv_iload hx hb dL_areAll_387 (lv_at hl 7 rfl) ?_
                            refine lv_icmp_ne (tgt := 396) hx hb dL_areAll_389 (by decide) (fun c_389 => ?_) (fun c_389 => ?_)
                            · skip
                              refine lv_iconst (v := 0) hx hb dL_areAll_396 (by decide) ?_
                              refine z_tv (v := zth fz (nI j) (zB σ (nI j)) (i + 1)) (by rw [zth, if_pos hmy]; first | rw [if_neg c_382] | rw [if_pos c_382, if_pos c_389] | rw [if_pos c_382, if_neg c_389]) ?_
                              exact J397_5 _ (lv_sub hl [0, 1, 2, 3, 4, 5, 6, 7, 8, 9] rfl)
                            · skip
                              refine lv_iconst (v := 1) hx hb dL_areAll_392 (by decide) ?_
                              refine lv_goto (tgt := 397) hx hb dL_areAll_393 (by decide) ?_
                              refine z_tv (v := zth fz (nI j) (zB σ (nI j)) (i + 1)) (by rw [zth, if_pos hmy]; first | rw [if_neg c_382] | rw [if_pos c_382, if_pos c_389] | rw [if_pos c_382, if_neg c_389]) ?_
                              exact J397_5 _ (lv_sub hl [0, 1, 2, 3, 4, 5, 6, 7, 8, 9] rfl)
                exact LOOP4 (60 + 1) 0 (by omega) (by omega)  _ (lv_cg (lv_sub (l' := [(0, .ref x0), (2, .ref az), (4, .int 1), (5, .int (nI (zws fz j))), (6, .int (nI j)), (7, .int (zB σ (nI j))), (8, .int 0), (9, .int (zth fz (nI j) (zB σ (nI j)) 0)), (10, .int 0)]) hl [4, 5, 6, 7, 8, 3, 2, 1, 0] rfl) (zl_k (zl_k (zl_k (zl_k (zl_k (zl_k (zl_c (rfl) (zl_k (zl_c (rfl) (rfl)))))))))))
              refine lv_iload hx hb dL_areAll_311 (lv_at hl 1 rfl) ?_
              refine lv_iconst (v := (-1)) hx hb dL_areAll_313 (by decide) ?_
              refine lv_icmp_ne (tgt := 321) hx hb dL_areAll_314 (by decide) (fun c_314 => ?_) (fun c_314 => ?_)
              · skip
                refine lv_iconst (v := 0) hx hb dL_areAll_321 (by decide) ?_
                refine z_tv (v := zth fz (nI j) (zB σ (nI j)) 0) (by unfold zth; simp [c_314]) ?_
                exact J322_3 _ (lv_sub hl [0, 1, 2, 3, 4, 5, 6] rfl)
              · skip
                refine lv_iconst (v := 1) hx hb dL_areAll_317 (by decide) ?_
                refine lv_goto (tgt := 322) hx hb dL_areAll_318 (by decide) ?_
                refine z_tv (v := zth fz (nI j) (zB σ (nI j)) 0) (by unfold zth; simp [c_314]) ?_
                exact J322_3 _ (lv_sub hl [0, 1, 2, 3, 4, 5, 6] rfl)
        exact LOOP2 (10 + 1) 0 (by omega) (by omega)  _ (lv_cg (lv_sub (l' := [(0, .ref x0), (2, .ref az), (4, .int 1), (5, .int 0), (6, .int 0)]) hl [2, 4, 6, 1, 0] rfl) (zl_k (zl_k (zl_k (zl_c (rfl) (zl_c (rfl) (rfl)))))))
      · skip
        have hj3 : j < 3 := z_lt (n := 3) hi (by decide) c_9
        obtain ⟨⟨u, ww, mm, hCF⟩, hCZ, hHo0, hG0⟩ := hI.2.1 j hj3
        have hj4 : j < 4 := by omega
        refine lv_iload hx hb dL_areAll_12 (lv_at hl 4 rfl) ?_
        refine lv_if_eq (tgt := 282) hx hb dL_areAll_14 (by decide) (fun c_14 => absurd c_14 (by decide)) (fun c_14 => ?_)
        refine lv_iconst (v := 0) hx hb dL_areAll_17 (by decide) ?_
        refine lv_istore (lv' := [(6, .int 0), (0, .ref x0), (1, .ref ay), (2, .ref az), (3, .ref ag), (4, .int 1), (5, .int (nI j))]) hx hb dL_areAll_18 hl (by decide) rfl (fun ls hl => ?_)
        refine lv_iconst (v := 0) hx hb dL_areAll_20 (by decide) ?_
        refine lv_istore (lv' := [(7, .int 0), (6, .int 0), (0, .ref x0), (1, .ref ay), (2, .ref az), (3, .ref ag), (4, .int 1), (5, .int (nI j))]) hx hb dL_areAll_21 hl (by decide) rfl (fun ls hl => ?_)
        refine lv_iconst (v := 0) hx hb dL_areAll_23 (by decide) ?_
        refine lv_istore (lv' := [(8, .int 0), (7, .int 0), (6, .int 0), (0, .ref x0), (1, .ref ay), (2, .ref az), (3, .ref ag), (4, .int 1), (5, .int (nI j))]) hx hb dL_areAll_24 hl (by decide) rfl (fun ls hl => ?_)
        refine lv_iconst (v := 0) hx hb dL_areAll_26 (by decide) ?_
        refine lv_istore (lv' := [(9, .int 0), (8, .int 0), (7, .int 0), (6, .int 0), (0, .ref x0), (1, .ref ay), (2, .ref az), (3, .ref ag), (4, .int 1), (5, .int (nI j))]) hx hb dL_areAll_27 hl (by decide) rfl (fun ls hl => ?_)
        refine lv_bipush (v := 20) hx hb dL_areAll_29 (by decide) ?_
        refine lv_iload hx hb dL_areAll_31 (lv_at hl 9 rfl) ?_
        refine lv_imul hx hb dL_areAll_33 ?_
        refine z_tv (v := nI (20 * j)) (pk_mul 20 j) ?_
        refine lv_istore (lv' := [(10, .int (nI (20 * j))), (9, .int 0), (8, .int 0), (7, .int 0), (6, .int 0), (0, .ref x0), (1, .ref ay), (2, .ref az), (3, .ref ag), (4, .int 1), (5, .int (nI j))]) hx hb dL_areAll_34 hl (by decide) rfl (fun ls hl => ?_)
        have LOOP6 : ∀ (n6 i : Nat), i ≤ 20 → 20 < i + n6 → ∀ (ls : Array Slot), lv_has ls 12 [(0, .ref x0), (1, .ref ay), (2, .ref az), (3, .ref ag), (4, .int 1), (5, .int (nI j)), (6, .int (zcnt (hFT (σ j)) i)), (7, .int (zcnt (hIT (σ j)) i)), (8, .int (zcnt (hST (σ j)) i)), (9, .int (zcu (hST (σ j)) (hSW (σ j)) (hSV (σ j)) (hSS (σ j)) (hFT (σ j)) (hFW (σ j)) (hFV (σ j)) (hFS (σ j)) i)), (10, .int (nI (20 * j + i)))] → W p l e (headSpec wsL_areAll ({ frames := 3, cells := 0, slots := 0, locals := 67 })).room s m ([.ref x0, .ref ay, .ref az, .ref ag] : List Value).toArray below meth c s.heap [] (0) (0) (MQ below (zSi 1) ([.ref x0, .ref ay, .ref az, .ref ag] : List Value).toArray s 0 0 (fun _ => False)) (F0 m 36 ls []) := by
          intro n6
          induction n6 with
          | zero => intro i h1 h2; exact absurd h2 (by omega)
          | succ n6 ih6 =>
            intro i hi hin   ls hl
            refine lv_iload hx hb dL_areAll_36 (lv_at hl 10 rfl) ?_
            refine lv_bipush (v := 20) hx hb dL_areAll_38 (by decide) ?_
            refine lv_iload hx hb dL_areAll_40 (lv_at hl 5 rfl) ?_
            refine lv_imul hx hb dL_areAll_42 ?_
            refine z_tv (v := nI (20 * j)) (pk_mul 20 j) ?_
            refine lv_bipush (v := 20) hx hb dL_areAll_43 (by decide) ?_
            refine lv_iadd hx hb dL_areAll_45 ?_
            refine z_tv (v := nI (20 * j + 20)) (nI_add (20 * j) 20) ?_
            refine lv_icmp_ge (tgt := 195) hx hb dL_areAll_46 (by decide) (fun c_46 => ?_) (fun c_46 => ?_)
            · skip
              have e20 : i = 20 := z_ge20b hi hj4 c_46
              subst e20
              refine lv_iload hx hb dL_areAll_195 (lv_at hl 4 rfl) ?_
              refine lv_if_eq (tgt := 273) hx hb dL_areAll_197 (by decide) (fun c_197 => absurd c_197 (by decide)) (fun c_197 => ?_)
              refine lv_aload_n hx hb dL_areAll_200 rfl (lv_at hl 0 rfl) ?_
              refine lv_iload hx hb dL_areAll_201 (lv_at hl 5 rfl) ?_
              refine z_cRi (va_runV (As := [.int (nI j)]) (rest := []) ⟨hx, hb, hml, hown, hts⟩ (c_far l dC dI cI cZ cH cJ x0 xq (nI N) xg had hg σ j (by first | assumption | omega)) (cwV 1 hts gL_areAll_X3_far rfl rfl rfl (by decide +kernel) ⟨Nat.le_of_ble_eq_true rfl, Nat.le_of_ble_eq_true rfl⟩) (zPreR1 hK (zP_r hP) (zrecv hK (zP_r hP))) rfl rfl hl.1 rfl (lv_room (Nat.le_of_ble_eq_true rfl)) dL_areAll_203 ⟨Nat.le_of_ble_eq_true rfl, Nat.le_of_ble_eq_true rfl⟩) ?_
              refine z_tv (v := zcnt (hFT (σ j)) 20) rfl ?_
              refine lv_iload hx hb dL_areAll_206 (lv_at hl 6 rfl) ?_
              refine lv_icmp_ne (tgt := 273) hx hb dL_areAll_208 (by decide) (fun c_208 => absurd c_208 (fun h => h rfl)) (fun c_208 => ?_)
              refine lv_aload_n hx hb dL_areAll_211 rfl (lv_at hl 0 rfl) ?_
              refine lv_iload hx hb dL_areAll_212 (lv_at hl 5 rfl) ?_
              refine z_cRi (va_runV (As := [.int (nI j)]) (rest := []) ⟨hx, hb, hml, hown, hts⟩ (c_told l dC dI cI cZ cH cJ x0 xq (nI N) xg had hg σ j (by first | assumption | omega)) (cwV 1 hts gL_areAll_X3_told rfl rfl rfl (by decide +kernel) ⟨Nat.le_of_ble_eq_true rfl, Nat.le_of_ble_eq_true rfl⟩) (zPreR1 hK (zP_r hP) (zrecv hK (zP_r hP))) rfl rfl hl.1 rfl (lv_room (Nat.le_of_ble_eq_true rfl)) dL_areAll_214 ⟨Nat.le_of_ble_eq_true rfl, Nat.le_of_ble_eq_true rfl⟩) ?_
              refine z_tv (v := zcnt (hIT (σ j)) 20) rfl ?_
              refine lv_iload hx hb dL_areAll_217 (lv_at hl 7 rfl) ?_
              refine lv_icmp_ne (tgt := 273) hx hb dL_areAll_219 (by decide) (fun c_219 => absurd c_219 (fun h => h rfl)) (fun c_219 => ?_)
              refine lv_aload_n hx hb dL_areAll_222 rfl (lv_at hl 0 rfl) ?_
              refine lv_iload hx hb dL_areAll_223 (lv_at hl 5 rfl) ?_
              refine z_cRi (va_runV (As := [.int (nI j)]) (rest := []) ⟨hx, hb, hml, hown, hts⟩ (c_held l dC dI cI cZ cH cJ x0 xq (nI N) xg had hg σ j (by first | assumption | omega)) (cwV 1 hts gL_areAll_X3_held rfl rfl rfl (by decide +kernel) ⟨Nat.le_of_ble_eq_true rfl, Nat.le_of_ble_eq_true rfl⟩) (zPreR1 hK (zP_r hP) (zrecv hK (zP_r hP))) rfl rfl hl.1 rfl (lv_room (Nat.le_of_ble_eq_true rfl)) dL_areAll_225 ⟨Nat.le_of_ble_eq_true rfl, Nat.le_of_ble_eq_true rfl⟩) ?_
              refine z_tv (v := zcnt (hST (σ j)) 20) rfl ?_
              refine lv_iload hx hb dL_areAll_228 (lv_at hl 8 rfl) ?_
              refine lv_icmp_ne (tgt := 273) hx hb dL_areAll_230 (by decide) (fun c_230 => absurd c_230 (fun h => h rfl)) (fun c_230 => ?_)
              refine lv_aload_n hx hb dL_areAll_233 rfl (lv_at hl 0 rfl) ?_
              refine lv_iload hx hb dL_areAll_234 (lv_at hl 5 rfl) ?_
              refine z_cRi (va_runV (As := [.int (nI j)]) (rest := []) ⟨hx, hb, hml, hown, hts⟩ (c_wrong l dC dI cI cZ cH cJ x0 xq (nI N) xg had hg σ j (by first | assumption | omega)) (cwV 1 hts gL_areAll_X3_wrong rfl rfl rfl (by decide +kernel) ⟨Nat.le_of_ble_eq_true rfl, Nat.le_of_ble_eq_true rfl⟩) (zPreR1 hK (zP_r hP) (zrecv hK (zP_r hP))) rfl rfl hl.1 rfl (lv_room (Nat.le_of_ble_eq_true rfl)) dL_areAll_236 ⟨Nat.le_of_ble_eq_true rfl, Nat.le_of_ble_eq_true rfl⟩) ?_
              refine z_tv (v := zcu (hST (σ j)) (hSW (σ j)) (hSV (σ j)) (hSS (σ j)) (hFT (σ j)) (hFW (σ j)) (hFV (σ j)) (hFS (σ j)) 20) rfl ?_
              refine lv_iload hx hb dL_areAll_239 (lv_at hl 9 rfl) ?_
              refine lv_icmp_ne (tgt := 273) hx hb dL_areAll_241 (by decide) (fun c_241 => absurd c_241 (fun h => h rfl)) (fun c_241 => ?_)
              refine lv_aload_n hx hb dL_areAll_244 rfl (lv_at hl 0 rfl) ?_
              refine lv_iload hx hb dL_areAll_245 (lv_at hl 5 rfl) ?_
              refine z_cRi (va_runV (As := [.int (nI j)]) (rest := []) ⟨hx, hb, hml, hown, hts⟩ (c_isOpen l dC dI cI cZ cH cJ x0 xq (nI N) xg had hg σ j (by first | assumption | omega) (Or.inl hHo0)) (cwV 1 hts gL_areAll_X3_isOpen rfl rfl rfl (by decide +kernel) ⟨Nat.le_of_ble_eq_true rfl, Nat.le_of_ble_eq_true rfl⟩) (zPreR1 hK (zP_r hP) (zrecv hK (zP_r hP))) rfl rfl hl.1 rfl (lv_room (Nat.le_of_ble_eq_true rfl)) dL_areAll_247 ⟨Nat.le_of_ble_eq_true rfl, Nat.le_of_ble_eq_true rfl⟩) ?_
              refine z_tv (v := 0) (hHo0) ?_
              refine lv_aload_n hx hb dL_areAll_250 rfl (lv_at hl 3 rfl) ?_
              refine lv_iconst (v := 4) hx hb dL_areAll_251 (by decide) ?_
              refine lv_iload hx hb dL_areAll_252 (lv_at hl 5 rfl) ?_
              refine lv_imul hx hb dL_areAll_254 ?_
              refine z_tv (v := nI (4 * j)) (pk_mul 4 j) ?_
              refine lv_iconst (v := 2) hx hb dL_areAll_255 (by decide) ?_
              refine lv_iadd hx hb dL_areAll_256 ?_
              refine z_tv (v := nI ((4 * j) + 2)) (nI_add (4 * j) 2) ?_
              refine z_iald hx hb hK hP 2 rfl (zix_nI (by first | assumption | omega) (by decide)) dL_areAll_257 ?_
              refine z_tv (v := fg ((4 * j) + 2)) (rfl) ?_
              refine z_tv (v := 0) (hG0) ?_
              refine lv_if_le (tgt := 265) hx hb dL_areAll_258 (by decide) (fun c_258 => ?_) (fun c_258 => absurd c_258 (by decide))
              refine lv_iconst (v := 0) hx hb dL_areAll_265 (by decide) ?_
              refine lv_icmp_ne (tgt := 273) hx hb dL_areAll_266 (by decide) (fun c_266 => absurd c_266 (by decide)) (fun c_266 => ?_)
              refine lv_iconst (v := 1) hx hb dL_areAll_269 (by decide) ?_
              refine lv_goto (tgt := 274) hx hb dL_areAll_270 (by decide) ?_
              refine lv_istore (lv' := [(4, .int 1), (0, .ref x0), (1, .ref ay), (2, .ref az), (3, .ref ag), (5, .int (nI j)), (6, .int (zcnt (hFT (σ j)) 20)), (7, .int (zcnt (hIT (σ j)) 20)), (8, .int (zcnt (hST (σ j)) 20)), (9, .int (zcu (hST (σ j)) (hSW (σ j)) (hSV (σ j)) (hSS (σ j)) (hFT (σ j)) (hFW (σ j)) (hFV (σ j)) (hFS (σ j)) 20)), (10, .int (nI (20 * j + 20)))]) hx hb dL_areAll_274 hl (by decide) rfl (fun ls hl => ?_)
              refine lv_iinc (v := nI (j + 1)) (lv' := [(5, .int (nI (j + 1))), (4, .int 1), (0, .ref x0), (1, .ref ay), (2, .ref az), (3, .ref ag), (6, .int (zcnt (hFT (σ j)) 20)), (7, .int (zcnt (hIT (σ j)) 20)), (8, .int (zcnt (hST (σ j)) 20)), (9, .int (zcu (hST (σ j)) (hSW (σ j)) (hSV (σ j)) (hSS (σ j)) (hFT (σ j)) (hFW (σ j)) (hFV (σ j)) (hFS (σ j)) 20)), (10, .int (nI (20 * j + 20)))]) hx hb dL_areAll_276 hl (k := 5) rfl (z_1) (by decide) rfl (fun ls hl => ?_)
              refine lv_goto (tgt := 6) hx hb dL_areAll_279 (by decide) ?_
              exact ih1 (j + 1) (by omega) (by omega)  _ (lv_sub hl [2, 3, 4, 5, 1, 0] rfl)
            · skip
              have hlt : i < 20 := z_lt20b hi hj4 c_46
              have hyi := zfr_y (hCF.2 i hlt) hN
              have hzi := zrc_z (hCZ i hlt) hN
              have hyz := zrc_fr (hCF.2 i hlt) (hCZ i hlt) hN
              refine lv_iload hx hb dL_areAll_49 (lv_at hl 4 rfl) ?_
              refine lv_if_eq (tgt := 195) hx hb dL_areAll_51 (by decide) (fun c_51 => absurd c_51 (by decide)) (fun c_51 => ?_)
              refine lv_iload hx hb dL_areAll_54 (lv_at hl 6 rfl) ?_
              have J68_7 : ∀ (ls : Array Slot), lv_has ls 12 [(0, .ref x0), (1, .ref ay), (2, .ref az), (3, .ref ag), (4, .int 1), (5, .int (nI j)), (6, .int (zcnt (hFT (σ j)) i)), (7, .int (zcnt (hIT (σ j)) i)), (8, .int (zcnt (hST (σ j)) i)), (9, .int (zcu (hST (σ j)) (hSW (σ j)) (hSV (σ j)) (hSS (σ j)) (hFT (σ j)) (hFW (σ j)) (hFV (σ j)) (hFS (σ j)) i)), (10, .int (nI (20 * j + i)))] → W p l e (headSpec wsL_areAll ({ frames := 3, cells := 0, slots := 0, locals := 67 })).room s m ([.ref x0, .ref ay, .ref az, .ref ag] : List Value).toArray below meth c s.heap [] 0 0 (MQ below (zSi 1) ([.ref x0, .ref ay, .ref az, .ref ag] : List Value).toArray s 0 0 (fun _ => False)) (F0 m 68 ls [.int (if hFT (σ j) i = 0 then (0 : Int32) else 1), .int (zcnt (hFT (σ j)) i)]) := by
                intro ls hl
                refine lv_iadd hx hb dL_areAll_68 ?_
                refine z_tv (v := zcnt (hFT (σ j)) (i + 1)) (zcnt_a) ?_
                refine lv_istore (lv' := [(6, .int (zcnt (hFT (σ j)) (i + 1))), (0, .ref x0), (1, .ref ay), (2, .ref az), (3, .ref ag), (4, .int 1), (5, .int (nI j)), (7, .int (zcnt (hIT (σ j)) i)), (8, .int (zcnt (hST (σ j)) i)), (9, .int (zcu (hST (σ j)) (hSW (σ j)) (hSV (σ j)) (hSS (σ j)) (hFT (σ j)) (hFW (σ j)) (hFV (σ j)) (hFS (σ j)) i)), (10, .int (nI (20 * j + i)))]) hx hb dL_areAll_69 hl (by decide) rfl (fun ls hl => ?_)
                refine lv_iload hx hb dL_areAll_71 (lv_at hl 7 rfl) ?_
                have J86_8 : ∀ (ls : Array Slot), lv_has ls 12 [(6, .int (zcnt (hFT (σ j)) (i + 1))), (0, .ref x0), (1, .ref ay), (2, .ref az), (3, .ref ag), (4, .int 1), (5, .int (nI j)), (7, .int (zcnt (hIT (σ j)) i)), (8, .int (zcnt (hST (σ j)) i)), (9, .int (zcu (hST (σ j)) (hSW (σ j)) (hSV (σ j)) (hSS (σ j)) (hFT (σ j)) (hFW (σ j)) (hFV (σ j)) (hFS (σ j)) i)), (10, .int (nI (20 * j + i)))] → W p l e (headSpec wsL_areAll ({ frames := 3, cells := 0, slots := 0, locals := 67 })).room s m ([.ref x0, .ref ay, .ref az, .ref ag] : List Value).toArray below meth c s.heap [] 0 0 (MQ below (zSi 1) ([.ref x0, .ref ay, .ref az, .ref ag] : List Value).toArray s 0 0 (fun _ => False)) (F0 m 86 ls [.int (if hIT (σ j) i = 0 then (0 : Int32) else 1), .int (zcnt (hIT (σ j)) i)]) := by
                  intro ls hl
                  refine lv_iadd hx hb dL_areAll_86 ?_
                  refine z_tv (v := zcnt (hIT (σ j)) (i + 1)) (zcnt_a) ?_
                  refine lv_istore (lv' := [(7, .int (zcnt (hIT (σ j)) (i + 1))), (6, .int (zcnt (hFT (σ j)) (i + 1))), (0, .ref x0), (1, .ref ay), (2, .ref az), (3, .ref ag), (4, .int 1), (5, .int (nI j)), (8, .int (zcnt (hST (σ j)) i)), (9, .int (zcu (hST (σ j)) (hSW (σ j)) (hSV (σ j)) (hSS (σ j)) (hFT (σ j)) (hFW (σ j)) (hFV (σ j)) (hFS (σ j)) i)), (10, .int (nI (20 * j + i)))]) hx hb dL_areAll_87 hl (by decide) rfl (fun ls hl => ?_)
                  refine lv_iload hx hb dL_areAll_89 (lv_at hl 8 rfl) ?_
                  have J103_9 : ∀ (ls : Array Slot), lv_has ls 12 [(7, .int (zcnt (hIT (σ j)) (i + 1))), (6, .int (zcnt (hFT (σ j)) (i + 1))), (0, .ref x0), (1, .ref ay), (2, .ref az), (3, .ref ag), (4, .int 1), (5, .int (nI j)), (8, .int (zcnt (hST (σ j)) i)), (9, .int (zcu (hST (σ j)) (hSW (σ j)) (hSV (σ j)) (hSS (σ j)) (hFT (σ j)) (hFW (σ j)) (hFV (σ j)) (hFS (σ j)) i)), (10, .int (nI (20 * j + i)))] → W p l e (headSpec wsL_areAll ({ frames := 3, cells := 0, slots := 0, locals := 67 })).room s m ([.ref x0, .ref ay, .ref az, .ref ag] : List Value).toArray below meth c s.heap [] 0 0 (MQ below (zSi 1) ([.ref x0, .ref ay, .ref az, .ref ag] : List Value).toArray s 0 0 (fun _ => False)) (F0 m 103 ls [.int (if hST (σ j) i = 0 then (0 : Int32) else 1), .int (zcnt (hST (σ j)) i)]) := by
                    intro ls hl
                    refine lv_iadd hx hb dL_areAll_103 ?_
                    refine z_tv (v := zcnt (hST (σ j)) (i + 1)) (zcnt_a) ?_
                    refine lv_istore (lv' := [(8, .int (zcnt (hST (σ j)) (i + 1))), (7, .int (zcnt (hIT (σ j)) (i + 1))), (6, .int (zcnt (hFT (σ j)) (i + 1))), (0, .ref x0), (1, .ref ay), (2, .ref az), (3, .ref ag), (4, .int 1), (5, .int (nI j)), (9, .int (zcu (hST (σ j)) (hSW (σ j)) (hSV (σ j)) (hSS (σ j)) (hFT (σ j)) (hFW (σ j)) (hFV (σ j)) (hFS (σ j)) i)), (10, .int (nI (20 * j + i)))]) hx hb dL_areAll_104 hl (by decide) rfl (fun ls hl => ?_)
                    refine lv_iload hx hb dL_areAll_106 (lv_at hl 9 rfl) ?_
                    have J146_10 : ∀ (ls : Array Slot), lv_has ls 12 [(8, .int (zcnt (hST (σ j)) (i + 1))), (7, .int (zcnt (hIT (σ j)) (i + 1))), (6, .int (zcnt (hFT (σ j)) (i + 1))), (0, .ref x0), (1, .ref ay), (2, .ref az), (3, .ref ag), (4, .int 1), (5, .int (nI j)), (9, .int (zcu (hST (σ j)) (hSW (σ j)) (hSV (σ j)) (hSS (σ j)) (hFT (σ j)) (hFW (σ j)) (hFV (σ j)) (hFS (σ j)) i)), (10, .int (nI (20 * j + i)))] → W p l e (headSpec wsL_areAll ({ frames := 3, cells := 0, slots := 0, locals := 67 })).room s m ([.ref x0, .ref ay, .ref az, .ref ag] : List Value).toArray below meth c s.heap [] 0 0 (MQ below (zSi 1) ([.ref x0, .ref ay, .ref az, .ref ag] : List Value).toArray s 0 0 (fun _ => False)) (F0 m 146 ls [.int (if zlike (hST (σ j)) (hSW (σ j)) (hSV (σ j)) (hSS (σ j)) (hFT (σ j)) (hFW (σ j)) (hFV (σ j)) (hFS (σ j)) i = 0 then (1 : Int32) else 0), .int (zcu (hST (σ j)) (hSW (σ j)) (hSV (σ j)) (hSS (σ j)) (hFT (σ j)) (hFW (σ j)) (hFV (σ j)) (hFS (σ j)) i)]) := by
                      intro ls hl
                      refine lv_iadd hx hb dL_areAll_146 ?_
                      refine z_tv (v := zcu (hST (σ j)) (hSW (σ j)) (hSV (σ j)) (hSS (σ j)) (hFT (σ j)) (hFW (σ j)) (hFV (σ j)) (hFS (σ j)) (i + 1)) (zcu_a) ?_
                      refine lv_istore (lv' := [(9, .int (zcu (hST (σ j)) (hSW (σ j)) (hSV (σ j)) (hSS (σ j)) (hFT (σ j)) (hFW (σ j)) (hFV (σ j)) (hFS (σ j)) (i + 1))), (8, .int (zcnt (hST (σ j)) (i + 1))), (7, .int (zcnt (hIT (σ j)) (i + 1))), (6, .int (zcnt (hFT (σ j)) (i + 1))), (0, .ref x0), (1, .ref ay), (2, .ref az), (3, .ref ag), (4, .int 1), (5, .int (nI j)), (10, .int (nI (20 * j + i)))]) hx hb dL_areAll_147 hl (by decide) rfl (fun ls hl => ?_)
                      refine lv_aload_n hx hb dL_areAll_149 rfl (lv_at hl 4 rfl) ?_
                      refine lv_iload hx hb dL_areAll_150 (lv_at hl 9 rfl) ?_
                      refine lv_iload hx hb dL_areAll_152 (lv_at hl 10 rfl) ?_
                      refine lv_bipush (v := 20) hx hb dL_areAll_154 (by decide) ?_
                      refine lv_irem hx hb dL_areAll_156 (by decide) ?_
                      refine z_tv (v := nI i) (zk20 hlt hj4) ?_
                      refine z_cRi (va_runV (As := [.int (nI j), .int (nI i)]) (rest := []) ⟨hx, hb, hml, hown, hts⟩ (c_stored l dC dI cI cZ cH cJ x0 xq (nI N) xg had hg σ j (by first | assumption | omega) i (by first | assumption | omega)) (cwV 2 hts gL_areAll_X3_stored rfl rfl rfl (by decide +kernel) ⟨Nat.le_of_ble_eq_true rfl, Nat.le_of_ble_eq_true rfl⟩) (zPreR1 hK (zP_r hP) (zrecv hK (zP_r hP))) rfl rfl hl.1 rfl (lv_room (Nat.le_of_ble_eq_true rfl)) dL_areAll_157 ⟨Nat.le_of_ble_eq_true rfl, Nat.le_of_ble_eq_true rfl⟩) ?_
                      refine z_tv (v := if hST (σ j) i = 0 then (-1) else hSV (σ j) i) (rfl) ?_
                      have J179_11 : ∀ (ls : Array Slot), lv_has ls 12 [(9, .int (zcu (hST (σ j)) (hSW (σ j)) (hSV (σ j)) (hSS (σ j)) (hFT (σ j)) (hFW (σ j)) (hFV (σ j)) (hFS (σ j)) (i + 1))), (8, .int (zcnt (hST (σ j)) (i + 1))), (7, .int (zcnt (hIT (σ j)) (i + 1))), (6, .int (zcnt (hFT (σ j)) (i + 1))), (0, .ref x0), (1, .ref ay), (2, .ref az), (3, .ref ag), (4, .int 1), (5, .int (nI j)), (10, .int (nI (20 * j + i)))] → W p l e (headSpec wsL_areAll ({ frames := 3, cells := 0, slots := 0, locals := 67 })).room s m ([.ref x0, .ref ay, .ref az, .ref ag] : List Value).toArray below meth c s.heap [] 0 0 (MQ below (zSi 1) ([.ref x0, .ref ay, .ref az, .ref ag] : List Value).toArray s 0 0 (fun _ => False)) (F0 m 179 ls [.int (if hST (σ j) i = 0 then (-1) else hSV (σ j) i), .int (if hST (σ j) i = 0 then (-1) else hSV (σ j) i)]) := by
                        intro ls hl
                        refine lv_icmp_ne (tgt := 186) hx hb dL_areAll_179 (by decide) (fun c_179 => absurd c_179 (fun h => h rfl)) (fun c_179 => ?_)
                        refine lv_iconst (v := 1) hx hb dL_areAll_182 (by decide) ?_
                        refine lv_goto (tgt := 187) hx hb dL_areAll_183 (by decide) ?_
                        refine lv_istore (lv' := [(4, .int 1), (9, .int (zcu (hST (σ j)) (hSW (σ j)) (hSV (σ j)) (hSS (σ j)) (hFT (σ j)) (hFW (σ j)) (hFV (σ j)) (hFS (σ j)) (i + 1))), (8, .int (zcnt (hST (σ j)) (i + 1))), (7, .int (zcnt (hIT (σ j)) (i + 1))), (6, .int (zcnt (hFT (σ j)) (i + 1))), (0, .ref x0), (1, .ref ay), (2, .ref az), (3, .ref ag), (5, .int (nI j)), (10, .int (nI (20 * j + i)))]) hx hb dL_areAll_187 hl (by decide) rfl (fun ls hl => ?_)
                        refine lv_iinc (v := nI (20 * j + (i + 1))) (lv' := [(10, .int (nI (20 * j + (i + 1)))), (4, .int 1), (9, .int (zcu (hST (σ j)) (hSW (σ j)) (hSV (σ j)) (hSS (σ j)) (hFT (σ j)) (hFW (σ j)) (hFV (σ j)) (hFS (σ j)) (i + 1))), (8, .int (zcnt (hST (σ j)) (i + 1))), (7, .int (zcnt (hIT (σ j)) (i + 1))), (6, .int (zcnt (hFT (σ j)) (i + 1))), (0, .ref x0), (1, .ref ay), (2, .ref az), (3, .ref ag), (5, .int (nI j))]) hx hb dL_areAll_189 hl (k := 10) rfl (z_1) (by decide) rfl (fun ls hl => ?_)
                        refine lv_goto (tgt := 36) hx hb dL_areAll_192 (by decide) ?_
                        exact ih6 (i + 1) (by omega) (by omega)  _ (lv_sub hl [6, 7, 8, 9, 1, 10, 5, 4, 3, 2, 0] rfl)
                      refine lv_aload_n hx hb dL_areAll_160 rfl (lv_at hl 6 rfl) ?_
                      refine lv_iload hx hb dL_areAll_161 (lv_at hl 10 rfl) ?_
                      refine z_iald hx hb hK hP 1 rfl (zix_nI (by first | assumption | omega) (by decide)) dL_areAll_163 ?_
                      refine z_tv (v := fz (20 * j + i)) (rfl) ?_
                      refine lv_if_ge (tgt := 171) hx hb dL_areAll_164 (by decide) (fun c_164 => ?_) (fun c_164 => ?_)
                      · skip
                        refine lv_aload_n hx hb dL_areAll_171 rfl (lv_at hl 6 rfl) ?_
                        refine lv_iload hx hb dL_areAll_172 (lv_at hl 10 rfl) ?_
                        refine z_iald hx hb hK hP 1 rfl (zix_nI (by first | assumption | omega) (by decide)) dL_areAll_174 ?_
                        refine z_tv (v := fz (20 * j + i)) (rfl) ?_
                        refine lv_sipush (v := 1023) hx hb dL_areAll_175 (by decide) ?_
                        refine lv_iand hx hb dL_areAll_178 ?_
                        refine z_tv (v := if hST (σ j) i = 0 then (-1) else hSV (σ j) i) (by grind) ?_
                        exact J179_11 _ (lv_sub hl [0, 1, 2, 3, 4, 5, 6, 7, 8, 9, 10] rfl)
                      · skip
                        refine lv_iconst (v := (-1)) hx hb dL_areAll_167 (by decide) ?_
                        refine lv_goto (tgt := 179) hx hb dL_areAll_168 (by decide) ?_
                        refine z_tv (v := if hST (σ j) i = 0 then (-1) else hSV (σ j) i) (by grind) ?_
                        exact J179_11 _ (lv_sub hl [0, 1, 2, 3, 4, 5, 6, 7, 8, 9, 10] rfl)
                    refine lv_aload_n hx hb dL_areAll_108 rfl (lv_at hl 4 rfl) ?_
                    refine lv_iload hx hb dL_areAll_109 (lv_at hl 10 rfl) ?_
                    refine z_iald hx hb hK hP 0 rfl (zix_nI (by first | assumption | omega) (by decide)) dL_areAll_111 ?_
                    refine z_tv (v := fy (20 * j + i)) (rfl) ?_
                    refine lv_if_lt (tgt := 134) hx hb dL_areAll_112 (by decide) (fun c_112 => ?_) (fun c_112 => ?_)
                    · skip
                      refine lv_aload_n hx hb dL_areAll_134 rfl (lv_at hl 5 rfl) ?_
                      refine lv_iload hx hb dL_areAll_135 (lv_at hl 10 rfl) ?_
                      refine z_iald hx hb hK hP 1 rfl (zix_nI (by first | assumption | omega) (by decide)) dL_areAll_137 ?_
                      refine z_tv (v := fz (20 * j + i)) (rfl) ?_
                      refine lv_if_lt (tgt := 145) hx hb dL_areAll_138 (by decide) (fun c_138 => ?_) (fun c_138 => ?_)
                      · skip
                        refine lv_iconst (v := 0) hx hb dL_areAll_145 (by decide) ?_
                        refine z_tv (v := if zlike (hST (σ j)) (hSW (σ j)) (hSV (σ j)) (hSS (σ j)) (hFT (σ j)) (hFW (σ j)) (hFV (σ j)) (hFS (σ j)) i = 0 then (1 : Int32) else 0) (by unfold zlike; grind) ?_
                        exact J146_10 _ (lv_sub hl [0, 1, 2, 3, 4, 5, 6, 7, 8, 9, 10] rfl)
                      · skip
                        refine lv_iconst (v := 1) hx hb dL_areAll_141 (by decide) ?_
                        refine lv_goto (tgt := 146) hx hb dL_areAll_142 (by decide) ?_
                        refine z_tv (v := if zlike (hST (σ j)) (hSW (σ j)) (hSV (σ j)) (hSS (σ j)) (hFT (σ j)) (hFW (σ j)) (hFV (σ j)) (hFS (σ j)) i = 0 then (1 : Int32) else 0) (by unfold zlike; grind) ?_
                        exact J146_10 _ (lv_sub hl [0, 1, 2, 3, 4, 5, 6, 7, 8, 9, 10] rfl)
                    · skip
                      refine lv_aload_n hx hb dL_areAll_115 rfl (lv_at hl 4 rfl) ?_
                      refine lv_iload hx hb dL_areAll_116 (lv_at hl 10 rfl) ?_
                      refine z_iald hx hb hK hP 0 rfl (zix_nI (by first | assumption | omega) (by decide)) dL_areAll_118 ?_
                      refine z_tv (v := fy (20 * j + i)) (rfl) ?_
                      refine lv_aload_n hx hb dL_areAll_119 rfl (lv_at hl 5 rfl) ?_
                      refine lv_iload hx hb dL_areAll_120 (lv_at hl 10 rfl) ?_
                      refine z_iald hx hb hK hP 1 rfl (zix_nI (by first | assumption | omega) (by decide)) dL_areAll_122 ?_
                      refine z_tv (v := fz (20 * j + i)) (rfl) ?_
                      refine lv_icmp_ne (tgt := 130) hx hb dL_areAll_123 (by decide) (fun c_123 => ?_) (fun c_123 => ?_)
                      · skip
                        refine lv_iconst (v := 1) hx hb dL_areAll_130 (by decide) ?_
                        refine lv_goto (tgt := 146) hx hb dL_areAll_131 (by decide) ?_
                        refine z_tv (v := if zlike (hST (σ j)) (hSW (σ j)) (hSV (σ j)) (hSS (σ j)) (hFT (σ j)) (hFW (σ j)) (hFV (σ j)) (hFS (σ j)) i = 0 then (1 : Int32) else 0) (by unfold zlike; grind) ?_
                        exact J146_10 _ (lv_sub hl [0, 1, 2, 3, 4, 5, 6, 7, 8, 9, 10] rfl)
                      · skip
                        refine lv_iconst (v := 0) hx hb dL_areAll_126 (by decide) ?_
                        refine lv_goto (tgt := 146) hx hb dL_areAll_127 (by decide) ?_
                        refine z_tv (v := if zlike (hST (σ j)) (hSW (σ j)) (hSV (σ j)) (hSS (σ j)) (hFT (σ j)) (hFW (σ j)) (hFV (σ j)) (hFS (σ j)) i = 0 then (1 : Int32) else 0) (by unfold zlike; grind) ?_
                        exact J146_10 _ (lv_sub hl [0, 1, 2, 3, 4, 5, 6, 7, 8, 9, 10] rfl)
                  refine lv_aload_n hx hb dL_areAll_91 rfl (lv_at hl 4 rfl) ?_
                  refine lv_iload hx hb dL_areAll_92 (lv_at hl 10 rfl) ?_
                  refine z_iald hx hb hK hP 1 rfl (zix_nI (by first | assumption | omega) (by decide)) dL_areAll_94 ?_
                  refine z_tv (v := fz (20 * j + i)) (rfl) ?_
                  refine lv_if_lt (tgt := 102) hx hb dL_areAll_95 (by decide) (fun c_95 => ?_) (fun c_95 => ?_)
                  · skip
                    refine lv_iconst (v := 0) hx hb dL_areAll_102 (by decide) ?_
                    refine z_tv (v := if hST (σ j) i = 0 then (0 : Int32) else 1) (by grind) ?_
                    exact J103_9 _ (lv_sub hl [0, 1, 2, 3, 4, 5, 6, 7, 8, 9, 10] rfl)
                  · skip
                    refine lv_iconst (v := 1) hx hb dL_areAll_98 (by decide) ?_
                    refine lv_goto (tgt := 103) hx hb dL_areAll_99 (by decide) ?_
                    refine z_tv (v := if hST (σ j) i = 0 then (0 : Int32) else 1) (by grind) ?_
                    exact J103_9 _ (lv_sub hl [0, 1, 2, 3, 4, 5, 6, 7, 8, 9, 10] rfl)
                refine lv_aload_n hx hb dL_areAll_73 rfl (lv_at hl 2 rfl) ?_
                refine lv_iload hx hb dL_areAll_74 (lv_at hl 10 rfl) ?_
                refine z_iald hx hb hK hP 0 rfl (zix_nI (by first | assumption | omega) (by decide)) dL_areAll_76 ?_
                refine z_tv (v := fy (20 * j + i)) (rfl) ?_
                refine lv_iconst (v := (-1)) hx hb dL_areAll_77 (by decide) ?_
                refine lv_icmp_ge (tgt := 85) hx hb dL_areAll_78 (by decide) (fun c_78 => ?_) (fun c_78 => ?_)
                · skip
                  refine lv_iconst (v := 0) hx hb dL_areAll_85 (by decide) ?_
                  refine z_tv (v := if hIT (σ j) i = 0 then (0 : Int32) else 1) (by grind) ?_
                  exact J86_8 _ (lv_sub hl [0, 1, 2, 3, 4, 5, 6, 7, 8, 9, 10] rfl)
                · skip
                  refine lv_iconst (v := 1) hx hb dL_areAll_81 (by decide) ?_
                  refine lv_goto (tgt := 86) hx hb dL_areAll_82 (by decide) ?_
                  refine z_tv (v := if hIT (σ j) i = 0 then (0 : Int32) else 1) (by grind) ?_
                  exact J86_8 _ (lv_sub hl [0, 1, 2, 3, 4, 5, 6, 7, 8, 9, 10] rfl)
              refine lv_aload_n hx hb dL_areAll_56 rfl (lv_at hl 1 rfl) ?_
              refine lv_iload hx hb dL_areAll_57 (lv_at hl 10 rfl) ?_
              refine z_iald hx hb hK hP 0 rfl (zix_nI (by first | assumption | omega) (by decide)) dL_areAll_59 ?_
              refine z_tv (v := fy (20 * j + i)) (rfl) ?_
              refine lv_if_lt (tgt := 67) hx hb dL_areAll_60 (by decide) (fun c_60 => ?_) (fun c_60 => ?_)
              · skip
                refine lv_iconst (v := 0) hx hb dL_areAll_67 (by decide) ?_
                refine z_tv (v := if hFT (σ j) i = 0 then (0 : Int32) else 1) (by grind) ?_
                exact J68_7 _ (lv_sub hl [0, 1, 2, 3, 4, 5, 6, 7, 8, 9, 10] rfl)
              · skip
                refine lv_iconst (v := 1) hx hb dL_areAll_63 (by decide) ?_
                refine lv_goto (tgt := 68) hx hb dL_areAll_64 (by decide) ?_
                refine z_tv (v := if hFT (σ j) i = 0 then (0 : Int32) else 1) (by grind) ?_
                exact J68_7 _ (lv_sub hl [0, 1, 2, 3, 4, 5, 6, 7, 8, 9, 10] rfl)
        exact LOOP6 (20 + 1) 0 (by omega) (by omega)  _ (lv_cg (lv_sub (l' := [(0, .ref x0), (1, .ref ay), (2, .ref az), (3, .ref ag), (4, .int 1), (5, .int (nI j)), (6, .int 0), (7, .int 0), (8, .int 0), (9, .int 0), (10, .int (nI (20 * j)))]) hl [5, 6, 7, 8, 9, 10, 4, 3, 2, 1, 0] rfl) (zl_k (zl_k (zl_k (zl_k (zl_k (zl_k (zl_c (rfl) (zl_c (rfl) (zl_c (rfl) (zl_c (rfl) (zl_c (rfl) (rfl)))))))))))))
  exact LOOP1 (3 + 1) 0 (by omega) (by omega)  _ (lv_cg (lv_sub (l' := [(0, .ref x0), (1, .ref ay), (2, .ref az), (3, .ref ag), (4, .int 1), (5, .int 0)]) hl [2, 3, 4, 5, 1, 0] rfl) (zl_k (zl_k (zl_k (zl_k (zl_k (zl_c (rfl) (rfl))))))))
