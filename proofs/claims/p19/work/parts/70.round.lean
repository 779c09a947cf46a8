theorem zup_u {σ : Nat → zHS} {ca : Nat} {x y : zHS} : zup (zup σ ca x) ca y = zup σ ca y := by
  funext j
  unfold zup
  by_cases h : j = ca <;> simp [h]
theorem zOb_c {cI cZ cH : ClassId} {x0 xq : Nat} {xg : Nat → Option Nat} {had : Nat → Nat → Nat} {now : Int32} {σ τ : Nat → zHS} (h : σ = τ) : zOb cI cZ cH x0 xq xg had now σ = zOb cI cZ cH x0 xq xg had now τ := by rw [h]
set_option maxHeartbeats 8000000 in
set_option maxRecDepth 100000 in
/-- isRound_f1 -/
theorem kL_isRound_f1 (l : Launch) (dC : Nat → ClassId) (dI : Nat → Nat → Nat) (cI cZ cH cJ : ClassId) (x0 : Nat) (xq : Nat) (xg : Nat → Option Nat) (had : Nat → Nat → Nat) (hg : ∀ i, i < 4 → xg i = some (had i 0)) (σ : Nat → zHS) (N : Nat) (hN : N ≤ 5000) (ay : Nat) (az : Nat) (ag : Nat) (fy : zI) (fz : zI) (fg : zI) (fd : zI) (ca : Nat) (hc3 : ca < 3) (u : Nat) (w : Nat) (mm : Nat) (hCF : zCF ca N (σ ca) fy fd fg u w mm) (sz : Nat) : Met l yL_isRound wsL_isRound ({ frames := 5, cells := 0, slots := 0, locals := 115 }) (zPc dC dI (zTy cI cZ cH cJ) [.ref x0, .ref ay, .ref az, .ref ag, .int (nI ca), .int 1] sz ([(ay, .inl (cI, 60, .inl fy)), (az, .inl (cI, 60, .inl fz)), (ag, .inl (cI, 12, .inl fg))] ++ zOb cI cZ cH x0 xq xg had (nI N) σ)) (zQi dC dI 1 ([(ay, .inl (cI, 60, .inl fy)), (az, .inl (cI, 60, .inl (zrz fy fz 1 0 (20 * ca) 20))), (ag, .inl (cI, 12, .inl (upd fg (4 * ca + 2) 0)))] ++ zOb cI cZ cH x0 xq xg had (nI N) (zup σ ca (hRound (σ ca) 1 (nI N) 0))) (va_A ([(ay, .inl (cI, 60, .inl fy)), (az, .inl (cI, 60, .inl fz)), (ag, .inl (cI, 12, .inl fg))] ++ zOb cI cZ cH x0 xq xg had (nI N) σ) sz)) 0 0 (va_A ([(ay, .inl (cI, 60, .inl fy)), (az, .inl (cI, 60, .inl fz)), (ag, .inl (cI, 12, .inl fg))] ++ zOb cI cZ cH x0 xq xg had (nI N) σ) sz) := by
  refine Met.ofW (cc := cL_isRound) (maxL := 11) (ret := (some .boolean)) (by decide) rfl ?_
  intro p e s m args below meth c s₁ B hml hv0
  obtain ⟨rfl, hsz, hP, hK, hD0⟩ := hv0
  have hx := B.exec
  have hb := B.bytes
  have hr := B.returns
  have hts := atoms_spec (ws := wsL_isRound) B.pre
  have hown : s.vm.findClass RL = some m.cls := findClass_of_methodNamed B.named
  have hlocks := B.notSynchronized
  subst hsz
  have hD := hD0.self (sz := s.heap.size)
  generalize hAe : va_A ([(ay, .inl (cI, 60, .inl fy)), (az, .inl (cI, 60, .inl fz)), (ag, .inl (cI, 12, .inl fg))] ++ zOb cI cZ cH x0 xq xg had (nI N) σ) s.heap.size = A at hD ⊢
  have hA : ∀ q : Nat, s.heap.size ≤ q → A q := fun q h => by rw [← hAe]; exact Or.inr h
  have hS : va_S A s.heap s.heap [] := va_S.rf
  have hl := lv_entry ([.ref x0, .ref ay, .ref az, .ref ag, .int (nI ca), .int 1]) (n := 11) (Nat.le_of_ble_eq_true rfl)
  rw [lg_entry_eq]
  generalize (lg_sl ([.ref x0, .ref ay, .ref az, .ref ag, .int (nI ca), .int 1]) ++ List.replicate (11 - (lg_sl ([.ref x0, .ref ay, .ref az, .ref ag, .int (nI ca), .int 1])).length) Slot.unset).toArray = ls at hl ⊢
  have hl : lv_has ls 11 [(0, .ref x0), (1, .ref ay), (2, .ref az), (3, .ref ag), (4, .int (nI ca)), (5, .int 1)] := hl
  have hca : ca < 4 := by omega
  have hzz := zCF_z hCF hN
  have hm1 : mm ≤ N := hCF.1.2.2.2.1
  have hMk1 : hMk (σ ca) = nI mm := hCF.1.2.2.2.2.2.2.1
  have hg0 : fg (4 * ca) = nI u := hCF.1.2.2.2.2.2.2.2.1
  have hu1 := hCF.1.1
  have hu2 := hCF.1.2.1
  have hFd : 0 = if (1 : Int32) = 0 then mm else 0 := rfl
  have hff : (1 : Int32) = 0 ∨ (1 : Int32) = 1 := by decide
  have hF5 : 0 ≤ 5000 := by omega
  have hit := fun (p : Nat) (hp : p ≤ zpn (zlf (hZ (σ ca)) 0 0)) => zit_ho (N := N) (x0 := σ ca) (p := p) hff hzz hF5 hMk1 hFd hp
  have hdn := z_done (N := N) (x0 := σ ca) hff hzz hF5 hMk1 hFd
  have hT20 : zlf (hZ (σ ca)) 0 0 ≤ 20 := zlf_20
  have hP7 : zpn (zlf (hZ (σ ca)) 0 0) ≤ 7 := zpn_7 hT20
  refine lv_iload hx hb dL_isRound_0 (lv_at hl 5 rfl) ?_
  refine lv_if_eq (tgt := 9) hx hb dL_isRound_2 (by decide) (fun c_2 => absurd c_2 (by decide)) (fun c_2 => ?_)
  refine lv_iconst (v := nI 0) hx hb dL_isRound_5 (by decide) ?_
  refine lv_goto (tgt := 15) hx hb dL_isRound_6 (by decide) ?_
  refine lv_istore (lv' := [(6, .int (nI 0)), (0, .ref x0), (1, .ref ay), (2, .ref az), (3, .ref ag), (4, .int (nI ca)), (5, .int 1)]) hx hb dL_isRound_15 hl (by decide) rfl (fun ls hl => ?_)
  refine lv_iconst (v := 0) hx hb dL_isRound_17 (by decide) ?_
  refine lv_istore (lv' := [(7, .int 0), (6, .int (nI 0)), (0, .ref x0), (1, .ref ay), (2, .ref az), (3, .ref ag), (4, .int (nI ca)), (5, .int 1)]) hx hb dL_isRound_18 hl (by decide) rfl (fun ls hl => ?_)
  refine lv_iconst (v := 0) hx hb dL_isRound_20 (by decide) ?_
  refine lv_istore (lv' := [(8, .int 0), (7, .int 0), (6, .int (nI 0)), (0, .ref x0), (1, .ref ay), (2, .ref az), (3, .ref ag), (4, .int (nI ca)), (5, .int 1)]) hx hb dL_isRound_21 hl (by decide) rfl (fun ls hl => ?_)
  refine lv_bipush (v := 20) hx hb dL_isRound_23 (by decide) ?_
  refine lv_iload hx hb dL_isRound_25 (lv_at hl 7 rfl) ?_
  refine lv_imul hx hb dL_isRound_27 ?_
  refine z_tv (v := nI (20 * ca)) (pk_mul 20 ca) ?_
  refine lv_istore (lv' := [(9, .int (nI (20 * ca))), (8, .int 0), (7, .int 0), (6, .int (nI 0)), (0, .ref x0), (1, .ref ay), (2, .ref az), (3, .ref ag), (4, .int (nI ca)), (5, .int 1)]) hx hb dL_isRound_28 hl (by decide) rfl (fun ls hl => ?_)
  have LOOP1 : ∀ (n1 i : Nat), i ≤ 20 → 20 < i + n1 → ∀ (H : Heap) (locs : List Loc), va_P (dC, dI) vwCl ([(ay, .inl (cI, 60, .inl fy)), (az, .inl (cI, 60, .inl (zrz fy fz 1 0 (20 * ca) i))), (ag, .inl (cI, 12, .inl fg))] ++ zOb cI cZ cH x0 xq xg had (nI N) σ) H → va_D A ([(ay, .inl (cI, 60, .inl fy)), (az, .inl (cI, 60, .inl (zrz fy fz 1 0 (20 * ca) i))), (ag, .inl (cI, 12, .inl fg))] ++ zOb cI cZ cH x0 xq xg had (nI N) σ) → va_S A s.heap H locs → ∀ (ls : Array Slot), lv_has ls 11 [(0, .ref x0), (1, .ref ay), (2, .ref az), (3, .ref ag), (4, .int (nI ca)), (5, .int 1), (6, .int (nI 0)), (7, .int (nI (zc (fun r => decide (0 < zq (hZ (σ ca)) 0 r)) i))), (8, .int 0), (9, .int (nI (20 * ca + i)))] → W p l e (headSpec wsL_isRound ({ frames := 5, cells := 0, slots := 0, locals := 115 })).room s m ([.ref x0, .ref ay, .ref az, .ref ag, .int (nI ca), .int 1] : List Value).toArray below meth c H locs (0) (0) (MQ below (zQi dC dI 1 ([(ay, .inl (cI, 60, .inl fy)), (az, .inl (cI, 60, .inl (zrz fy fz 1 0 (20 * ca) 20))), (ag, .inl (cI, 12, .inl (upd fg (4 * ca + 2) 0)))] ++ zOb cI cZ cH x0 xq xg had (nI N) (zup σ ca (hRound (σ ca) 1 (nI N) 0))) A) ([.ref x0, .ref ay, .ref az, .ref ag, .int (nI ca), .int 1] : List Value).toArray s 0 0 A) (F0 m 30 ls []) := by
    intro n1
    induction n1 with
    | zero => intro i h1 h2; exact absurd h2 (by omega)
    | succ n1 ih1 =>
      intro i hi hin  H locs hP hD hS ls hl
      refine lv_iload hx hb dL_isRound_30 (lv_at hl 9 rfl) ?_
      refine lv_bipush (v := 20) hx hb dL_isRound_32 (by decide) ?_
      refine lv_iload hx hb dL_isRound_34 (lv_at hl 4 rfl) ?_
      refine lv_imul hx hb dL_isRound_36 ?_
      refine z_tv (v := nI (20 * ca)) (pk_mul 20 ca) ?_
      refine lv_bipush (v := 20) hx hb dL_isRound_37 (by decide) ?_
      refine lv_iadd hx hb dL_isRound_39 ?_
      refine z_tv (v := nI (20 * ca + 20)) (nI_add (20 * ca) 20) ?_
      refine lv_icmp_ge (tgt := 131) hx hb dL_isRound_40 (by decide) (fun c_40 => ?_) (fun c_40 => ?_)
      · skip
        have e20 : i = 20 := z_ge20b hi (by omega) c_40
        subst e20
        refine lv_aload_n hx hb dL_isRound_131 rfl (lv_at hl 0 rfl) ?_
        refine lv_iload hx hb dL_isRound_132 (lv_at hl 4 rfl) ?_
        refine lv_iload hx hb dL_isRound_134 (lv_at hl 5 rfl) ?_
        refine z_cGi (wr := [(ay, .inl (cI, 60, .inl fy)), (az, .inl (cI, 60, .inl (zrz fy fz 1 0 (20 * ca) 20))), (ag, .inl (cI, 12, .inl fg))]) (big1 := [(ay, .inl (cI, 60, .inl fy)), (az, .inl (cI, 60, .inl (zrz fy fz 1 0 (20 * ca) 20))), (ag, .inl (cI, 12, .inl fg))] ++ zOb cI cZ cH x0 xq xg had (nI N) (zup σ ca (hOpen (σ ca) 1 (nI N)))) (va_runV (As := [.int (nI ca), .int 1]) (rest := []) ⟨hx, hb, hml, hown, hts⟩ (c_open l dC dI cI cZ cH cJ x0 xq (nI N) xg had hg σ ca (by first | assumption | omega) 1 (hff) H.size) (cwV 2 hts gL_isRound_X3_open rfl rfl rfl (by decide +kernel) ⟨Nat.le_of_ble_eq_true rfl, Nat.le_of_ble_eq_true rfl⟩) (zPreV1 hK (zP_r hP) (zD_r hD) (zrecv hK (zP_r hP))) rfl rfl hl.1 rfl (lv_room (Nat.le_of_ble_eq_true rfl)) dL_isRound_136 ⟨Nat.le_of_ble_eq_true rfl, Nat.le_of_ble_eq_true rfl⟩) hP hD hS hA (zeq_comm _ _) (zeq_comm _ _) (fun H locs hP hD hS => ?_)
        have hP : va_P (dC, dI) vwCl ([(ay, .inl (cI, 60, .inl fy)), (az, .inl (cI, 60, .inl (zrz fy fz 1 0 (20 * ca) 20))), (ag, .inl (cI, 12, .inl fg))] ++ zOb cI cZ cH x0 xq xg had (nI N) (zup σ ca (hOpen (σ ca) 1 (nI N)))) H := hP
        have hD : va_D A ([(ay, .inl (cI, 60, .inl fy)), (az, .inl (cI, 60, .inl (zrz fy fz 1 0 (20 * ca) 20))), (ag, .inl (cI, 12, .inl fg))] ++ zOb cI cZ cH x0 xq xg had (nI N) (zup σ ca (hOpen (σ ca) 1 (nI N)))) := hD
        refine z_tv (v := nI 0) (rfl) ?_
        refine lv_iload hx hb dL_isRound_139 (lv_at hl 6 rfl) ?_
        refine lv_icmp_ne (tgt := 157) hx hb dL_isRound_141 (by decide) (fun c_141 => absurd c_141 (fun h => h rfl)) (fun c_141 => ?_)
        refine lv_aload_n hx hb dL_isRound_144 rfl (lv_at hl 0 rfl) ?_
        refine lv_iload hx hb dL_isRound_145 (lv_at hl 4 rfl) ?_
        refine z_cRi (va_runV (As := [.int (nI ca)]) (rest := []) ⟨hx, hb, hml, hown, hts⟩ (c_isOpen l dC dI cI cZ cH cJ x0 xq (nI N) xg had hg (zup σ ca (hOpen (σ ca) 1 (nI N))) ca (by first | assumption | omega) (Or.inr (by rw [zup_s]; rfl))) (cwV 1 hts gL_isRound_X3_isOpen rfl rfl rfl (by decide +kernel) ⟨Nat.le_of_ble_eq_true rfl, Nat.le_of_ble_eq_true rfl⟩) (zPreR1 hK (zP_r hP) (zrecv hK (zP_r hP))) rfl rfl hl.1 rfl (lv_room (Nat.le_of_ble_eq_true rfl)) dL_isRound_147 ⟨Nat.le_of_ble_eq_true rfl, Nat.le_of_ble_eq_true rfl⟩) ?_
        refine z_tv (v := 1) (by rw [zup_s]; rfl) ?_
        refine lv_if_eq (tgt := 157) hx hb dL_isRound_150 (by decide) (fun c_150 => absurd c_150 (by decide)) (fun c_150 => ?_)
        refine lv_iconst (v := 1) hx hb dL_isRound_153 (by decide) ?_
        refine lv_goto (tgt := 158) hx hb dL_isRound_154 (by decide) ?_
        refine lv_istore (lv' := [(9, .int 1), (0, .ref x0), (1, .ref ay), (2, .ref az), (3, .ref ag), (4, .int (nI ca)), (5, .int 1), (6, .int (nI 0)), (7, .int (nI (zc (fun r => decide (0 < zq (hZ (σ ca)) 0 r)) 20))), (8, .int 0)]) hx hb dL_isRound_158 hl (by decide) rfl (fun ls hl => ?_)
        have LOOP2 : ∀ (n2 j : Nat), j ≤ zpn (zlf (hZ (σ ca)) 0 0) → zpn (zlf (hZ (σ ca)) 0 0) < j + n2 → ∀ (H : Heap) (locs : List Loc), va_P (dC, dI) vwCl ([(ay, .inl (cI, 60, .inl fy)), (az, .inl (cI, 60, .inl (zrz fy fz 1 0 (20 * ca) 20))), (ag, .inl (cI, 12, .inl fg))] ++ zOb cI cZ cH x0 xq xg had (nI N) (zup σ ca (hIt (hOpen (σ ca) 1 (nI N)) (nI N) j))) H → va_D A ([(ay, .inl (cI, 60, .inl fy)), (az, .inl (cI, 60, .inl (zrz fy fz 1 0 (20 * ca) 20))), (ag, .inl (cI, 12, .inl fg))] ++ zOb cI cZ cH x0 xq xg had (nI N) (zup σ ca (hIt (hOpen (σ ca) 1 (nI N)) (nI N) j))) → va_S A s.heap H locs → ∀ (ls : Array Slot), lv_has ls 11 [(0, .ref x0), (3, .ref ag), (4, .int (nI ca)), (5, .int 1), (6, .int (nI 0)), (7, .int (nI (zlf (hZ (σ ca)) 0 0 - 3 * j))), (8, .int (nI j)), (9, .int 1)] → W p l e (headSpec wsL_isRound ({ frames := 5, cells := 0, slots := 0, locals := 115 })).room s m ([.ref x0, .ref ay, .ref az, .ref ag, .int (nI ca), .int 1] : List Value).toArray below meth c H locs (0) (0) (MQ below (zQi dC dI 1 ([(ay, .inl (cI, 60, .inl fy)), (az, .inl (cI, 60, .inl (zrz fy fz 1 0 (20 * ca) 20))), (ag, .inl (cI, 12, .inl (upd fg (4 * ca + 2) 0)))] ++ zOb cI cZ cH x0 xq xg had (nI N) (zup σ ca (hRound (σ ca) 1 (nI N) 0))) A) ([.ref x0, .ref ay, .ref az, .ref ag, .int (nI ca), .int 1] : List Value).toArray s 0 0 A) (F0 m 160 ls []) := by
          intro n2
          induction n2 with
          | zero => intro j h1 h2; exact absurd h2 (by omega)
          | succ n2 ih2 =>
            intro j hi hin  H locs hP hD hS ls hl
            refine lv_iload hx hb dL_isRound_160 (lv_at hl 7 rfl) ?_
            refine lv_if_eq (tgt := 257) hx hb dL_isRound_162 (by decide) (fun c_162 => absurd c_162 (by decide)) (fun c_162 => ?_)
            refine lv_aload_n hx hb dL_isRound_165 rfl (lv_at hl 0 rfl) ?_
            refine lv_iload hx hb dL_isRound_166 (lv_at hl 2 rfl) ?_
            refine z_cRi (va_runV (As := [.int (nI ca)]) (rest := []) ⟨hx, hb, hml, hown, hts⟩ (c_isOpen l dC dI cI cZ cH cJ x0 xq (nI N) xg had hg (zup σ ca (hIt (hOpen (σ ca) 1 (nI N)) (nI N) j)) ca (by first | assumption | omega) (by rw [zup_s, (hit j hi).1]; split <;> decide)) (cwV 1 hts gL_isRound_X3_isOpen rfl rfl rfl (by decide +kernel) ⟨Nat.le_of_ble_eq_true rfl, Nat.le_of_ble_eq_true rfl⟩) (zPreR1 hK (zP_r hP) (zrecv hK (zP_r hP))) rfl rfl hl.1 rfl (lv_room (Nat.le_of_ble_eq_true rfl)) dL_isRound_168 ⟨Nat.le_of_ble_eq_true rfl, Nat.le_of_ble_eq_true rfl⟩) ?_
            refine z_tv (v := if j < zpn (zlf (hZ (σ ca)) 0 0) then 1 else 0) (by rw [zup_s]; exact (hit j hi).1) ?_
            refine lv_if_eq (tgt := 257) hx hb dL_isRound_171 (by decide) (fun c_171 => ?_) (fun c_171 => ?_)
            · skip
              have hpe : j = zpn (zlf (hZ (σ ca)) 0 0) := Nat.le_antisymm hi (Nat.le_of_not_lt (fun q => by rw [if_pos q] at c_171; exact absurd c_171 (by decide)))
              subst hpe
              refine lv_aload_n hx hb dL_isRound_257 rfl (lv_at hl 1 rfl) ?_
              refine lv_iconst (v := 4) hx hb dL_isRound_258 (by decide) ?_
              refine lv_iload hx hb dL_isRound_259 (lv_at hl 2 rfl) ?_
              refine lv_imul hx hb dL_isRound_261 ?_
              refine z_tv (v := nI (4 * ca)) (pk_mul 4 ca) ?_
              refine lv_iconst (v := 2) hx hb dL_isRound_262 (by decide) ?_
              refine lv_iadd hx hb dL_isRound_263 ?_
              refine z_tv (v := nI ((4 * ca) + 2)) (nI_add (4 * ca) 2) ?_
              refine lv_iconst (v := 0) hx hb dL_isRound_264 (by decide) ?_
              refine z_iast hx hb hK hP hD hS 2 rfl (zix_nI (by first | assumption | omega) (by decide)) dL_isRound_265 (fun H locs hP hD hS => ?_)
              have hP : va_P (dC, dI) vwCl ([(ay, .inl (cI, 60, .inl fy)), (az, .inl (cI, 60, .inl (zrz fy fz 1 0 (20 * ca) 20))), (ag, .inl (cI, 12, .inl (upd fg ((4 * ca) + 2) 0)))] ++ zOb cI cZ cH x0 xq xg had (nI N) (zup σ ca (hIt (hOpen (σ ca) 1 (nI N)) (nI N) (zpn (zlf (hZ (σ ca)) 0 0))))) H := hP
              have hD : va_D A ([(ay, .inl (cI, 60, .inl fy)), (az, .inl (cI, 60, .inl (zrz fy fz 1 0 (20 * ca) 20))), (ag, .inl (cI, 12, .inl (upd fg ((4 * ca) + 2) 0)))] ++ zOb cI cZ cH x0 xq xg had (nI N) (zup σ ca (hIt (hOpen (σ ca) 1 (nI N)) (nI N) (zpn (zlf (hZ (σ ca)) 0 0))))) := hD
              refine lv_iload hx hb dL_isRound_266 (lv_at hl 7 rfl) ?_
              refine lv_if_eq (tgt := 319) hx hb dL_isRound_268 (by decide) (fun c_268 => absurd c_268 (by decide)) (fun c_268 => ?_)
              refine lv_iload hx hb dL_isRound_271 (lv_at hl 5 rfl) ?_
              refine z_tv (v := 0) (zpn_end _) ?_
              refine lv_if_ne (tgt := 319) hx hb dL_isRound_273 (by decide) (fun c_273 => absurd c_273 (by decide)) (fun c_273 => ?_)
              refine lv_aload_n hx hb dL_isRound_276 rfl (lv_at hl 0 rfl) ?_
              refine lv_iload hx hb dL_isRound_277 (lv_at hl 2 rfl) ?_
              refine z_cRi (va_runV (As := [.int (nI ca)]) (rest := []) ⟨hx, hb, hml, hown, hts⟩ (c_mark l dC dI cI cZ cH cJ x0 xq (nI N) xg had hg (zup σ ca (hIt (hOpen (σ ca) 1 (nI N)) (nI N) (zpn (zlf (hZ (σ ca)) 0 0)))) ca (by first | assumption | omega)) (cwV 1 hts gL_isRound_X3_mark rfl rfl rfl (by decide +kernel) ⟨Nat.le_of_ble_eq_true rfl, Nat.le_of_ble_eq_true rfl⟩) (zPreR1 hK (zP_r hP) (zrecv hK (zP_r hP))) rfl rfl hl.1 rfl (lv_room (Nat.le_of_ble_eq_true rfl)) dL_isRound_279 ⟨Nat.le_of_ble_eq_true rfl, Nat.le_of_ble_eq_true rfl⟩) ?_
              refine z_tv (v := nI (N - N % u)) (by rw [zup_s, hdn.2.1, hCF.1.2.2.2.2.1]; exact zst_n hu1 hu2 hN) ?_
              refine lv_aload_n hx hb dL_isRound_282 rfl (lv_at hl 0 rfl) ?_
              refine z_cRi (va_runV (As := []) (rest := [.int (nI (N - N % u))]) ⟨hx, hb, hml, hown, hts⟩ (c_today l dC dI cI cZ cH cJ x0 xq (nI N) xg had hg (zup σ ca (hIt (hOpen (σ ca) 1 (nI N)) (nI N) (zpn (zlf (hZ (σ ca)) 0 0))))) (cwV 0 hts gL_isRound_X3_today rfl rfl rfl (by decide +kernel) ⟨Nat.le_of_ble_eq_true rfl, Nat.le_of_ble_eq_true rfl⟩) (zPreR1 hK (zP_r hP) (zrecv hK (zP_r hP))) rfl rfl hl.1 rfl (lv_room (Nat.le_of_ble_eq_true rfl)) dL_isRound_283 ⟨Nat.le_of_ble_eq_true rfl, Nat.le_of_ble_eq_true rfl⟩) ?_
              refine z_tv (v := nI N) rfl ?_
              refine lv_aload_n hx hb dL_isRound_286 rfl (lv_at hl 0 rfl) ?_
              refine z_cRi (va_runV (As := []) (rest := [.int (nI N), .int (nI (N - N % u))]) ⟨hx, hb, hml, hown, hts⟩ (c_today l dC dI cI cZ cH cJ x0 xq (nI N) xg had hg (zup σ ca (hIt (hOpen (σ ca) 1 (nI N)) (nI N) (zpn (zlf (hZ (σ ca)) 0 0))))) (cwV 0 hts gL_isRound_X3_today rfl rfl rfl (by decide +kernel) ⟨Nat.le_of_ble_eq_true rfl, Nat.le_of_ble_eq_true rfl⟩) (zPreR1 hK (zP_r hP) (zrecv hK (zP_r hP))) rfl rfl hl.1 rfl (lv_room (Nat.le_of_ble_eq_true rfl)) dL_isRound_287 ⟨Nat.le_of_ble_eq_true rfl, Nat.le_of_ble_eq_true rfl⟩) ?_
              refine z_tv (v := nI N) rfl ?_
              refine lv_aload_n hx hb dL_isRound_290 rfl (lv_at hl 1 rfl) ?_
              refine lv_iconst (v := 4) hx hb dL_isRound_291 (by decide) ?_
              refine lv_iload hx hb dL_isRound_292 (lv_at hl 2 rfl) ?_
              refine lv_imul hx hb dL_isRound_294 ?_
              refine z_tv (v := nI (4 * ca)) (pk_mul 4 ca) ?_
              refine z_iald hx hb hK hP 2 rfl (zix_nI (by first | assumption | omega) (by decide)) dL_isRound_295 ?_
              refine z_tv (v := (upd fg ((4 * ca) + 2) 0) (4 * ca)) (rfl) ?_
              refine z_tv (v := nI u) ((pk_un (by omega)).trans hg0) ?_
              refine lv_irem hx hb dL_isRound_296 (nI_ne0 (by omega) (by omega)) ?_
              refine z_tv (v := nI (N % u)) (pk_rem (by omega) (by omega) (by omega)) ?_
              refine lv_isub hx hb dL_isRound_297 ?_
              refine z_tv (v := nI (N - N % u)) (pk_sub (Nat.mod_le N u)) ?_
              refine lv_icmp_ne (tgt := 319) hx hb dL_isRound_298 (by decide) (fun c_298 => absurd c_298 (fun h => h rfl)) (fun c_298 => ?_)
              refine lv_iload hx hb dL_isRound_301 (lv_at hl 3 rfl) ?_
              refine lv_if_eq (tgt := 315) hx hb dL_isRound_303 (by decide) (fun c_303 => absurd c_303 (by decide)) (fun c_303 => ?_)
              refine lv_aload_n hx hb dL_isRound_306 rfl (lv_at hl 0 rfl) ?_
              refine lv_iload hx hb dL_isRound_307 (lv_at hl 2 rfl) ?_
              refine z_cRi (va_runV (As := [.int (nI ca)]) (rest := []) ⟨hx, hb, hml, hown, hts⟩ (c_wrong l dC dI cI cZ cH cJ x0 xq (nI N) xg had hg (zup σ ca (hIt (hOpen (σ ca) 1 (nI N)) (nI N) (zpn (zlf (hZ (σ ca)) 0 0)))) ca (by first | assumption | omega)) (cwV 1 hts gL_isRound_X3_wrong rfl rfl rfl (by decide +kernel) ⟨Nat.le_of_ble_eq_true rfl, Nat.le_of_ble_eq_true rfl⟩) (zPreR1 hK (zP_r hP) (zrecv hK (zP_r hP))) rfl rfl hl.1 rfl (lv_room (Nat.le_of_ble_eq_true rfl)) dL_isRound_309 ⟨Nat.le_of_ble_eq_true rfl, Nat.le_of_ble_eq_true rfl⟩) ?_
              refine z_tv (v := 0) (by rw [zup_s]; exact z_wrong0 hCF hN hdn) ?_
              refine lv_if_ne (tgt := 319) hx hb dL_isRound_312 (by decide) (fun c_312 => absurd c_312 (by decide)) (fun c_312 => ?_)
              refine lv_iconst (v := 1) hx hb dL_isRound_315 (by decide) ?_
              refine lv_goto (tgt := 320) hx hb dL_isRound_316 (by decide) ?_
              have hP := zP_eq (ws' := [(ay, .inl (cI, 60, .inl fy)), (az, .inl (cI, 60, .inl (zrz fy fz 1 0 (20 * ca) 20))), (ag, .inl (cI, 12, .inl (upd fg (4 * ca + 2) 0)))] ++ zOb cI cZ cH x0 xq xg had (nI N) (zup σ ca (hRound (σ ca) 1 (nI N) 0))) hP (zw_t (zw_k (zw_k (zw_a (by first | rfl | assumption) (rfl)))) (rfl))
              have hD := zD_eq (ws' := [(ay, .inl (cI, 60, .inl fy)), (az, .inl (cI, 60, .inl (zrz fy fz 1 0 (20 * ca) 20))), (ag, .inl (cI, 12, .inl (upd fg (4 * ca + 2) 0)))] ++ zOb cI cZ cH x0 xq xg had (nI N) (zup σ ca (hRound (σ ca) 1 (nI N) 0))) hD (zw_t (zw_k (zw_k (zw_a (by first | rfl | assumption) (rfl)))) (rfl))
              exact W.zret (ty := .boolean) hx hb hr (rfl) (fun t ht hW => ⟨rfl, ⟨by rw [ht]; exact hP, hD⟩, hS.F ht⟩) hS.2.2 dL_isRound_320
            · skip
              have hpl : j < zpn (zlf (hZ (σ ca)) 0 0) := Classical.byContradiction (fun q => by rw [if_neg q] at c_171; exact c_171 rfl)
              refine lv_iload hx hb dL_isRound_174 (lv_at hl 6 rfl) ?_
              refine lv_bipush (v := 9) hx hb dL_isRound_176 (by decide) ?_
              refine lv_icmp_ge (tgt := 257) hx hb dL_isRound_178 (by decide) (fun c_178 => absurd c_178 (nI_ge (b := 9) (by omega) (by decide))) (fun c_178 => ?_)
              refine lv_aload_n hx hb dL_isRound_181 rfl (lv_at hl 0 rfl) ?_
              refine lv_iload hx hb dL_isRound_182 (lv_at hl 2 rfl) ?_
              refine z_cGi (wr := [(ay, .inl (cI, 60, .inl fy)), (az, .inl (cI, 60, .inl (zrz fy fz 1 0 (20 * ca) 20))), (ag, .inl (cI, 12, .inl fg))]) (big1 := [(ay, .inl (cI, 60, .inl fy)), (az, .inl (cI, 60, .inl (zrz fy fz 1 0 (20 * ca) 20))), (ag, .inl (cI, 12, .inl fg))] ++ zOb cI cZ cH x0 xq xg had (nI N) (zup (zup σ ca (hIt (hOpen (σ ca) 1 (nI N)) (nI N) j)) ca (hReadP ((zup σ ca (hIt (hOpen (σ ca) 1 (nI N)) (nI N) j)) ca) (nI N)).2)) (va_runV (As := [.int (nI ca)]) (rest := []) ⟨hx, hb, hml, hown, hts⟩ (c_read l dC dI cI cZ cH cJ x0 xq (nI N) xg had hg (zup σ ca (hIt (hOpen (σ ca) 1 (nI N)) (nI N) j)) ca (by first | assumption | omega) (by rw [zup_s, (hit j hi).1, if_pos hpl]; decide) (by rw [zup_s]; exact (hit j hi).2.1) H.size) (cwV 1 hts gL_isRound_X3_read rfl rfl rfl (by decide +kernel) ⟨Nat.le_of_ble_eq_true rfl, Nat.le_of_ble_eq_true rfl⟩) (zPreV1 hK (zP_r hP) (zD_r hD) (zrecv hK (zP_r hP))) rfl rfl hl.1 rfl (lv_room (Nat.le_of_ble_eq_true rfl)) dL_isRound_184 ⟨Nat.le_of_ble_eq_true rfl, Nat.le_of_ble_eq_true rfl⟩) hP hD hS hA (zeq_comm _ _) (zeq_comm _ _) (fun H locs hP hD hS => ?_)
              have hP : va_P (dC, dI) vwCl ([(ay, .inl (cI, 60, .inl fy)), (az, .inl (cI, 60, .inl (zrz fy fz 1 0 (20 * ca) 20))), (ag, .inl (cI, 12, .inl fg))] ++ zOb cI cZ cH x0 xq xg had (nI N) (zup (zup σ ca (hIt (hOpen (σ ca) 1 (nI N)) (nI N) j)) ca (hReadP ((zup σ ca (hIt (hOpen (σ ca) 1 (nI N)) (nI N) j)) ca) (nI N)).2)) H := hP
              have hD : va_D A ([(ay, .inl (cI, 60, .inl fy)), (az, .inl (cI, 60, .inl (zrz fy fz 1 0 (20 * ca) 20))), (ag, .inl (cI, 12, .inl fg))] ++ zOb cI cZ cH x0 xq xg had (nI N) (zup (zup σ ca (hIt (hOpen (σ ca) 1 (nI N)) (nI N) j)) ca (hReadP ((zup σ ca (hIt (hOpen (σ ca) 1 (nI N)) (nI N) j)) ca) (nI N)).2)) := hD
              refine z_tv (v := nI (min 3 (zlf (hZ (σ ca)) 0 0 - 3 * j))) (by rw [zup_s]; exact (hit j hi).2.2 hpl) ?_
              have hP := zP_eq (ws' := [(ay, .inl (cI, 60, .inl fy)), (az, .inl (cI, 60, .inl (zrz fy fz 1 0 (20 * ca) 20))), (ag, .inl (cI, 12, .inl fg))] ++ zOb cI cZ cH x0 xq xg had (nI N) (zup σ ca (hIt (hOpen (σ ca) 1 (nI N)) (nI N) (j + 1)))) hP (zw_t rfl (zOb_c (by rw [zup_u, zup_s]; rfl)))
              have hD := zD_eq (ws' := [(ay, .inl (cI, 60, .inl fy)), (az, .inl (cI, 60, .inl (zrz fy fz 1 0 (20 * ca) 20))), (ag, .inl (cI, 12, .inl fg))] ++ zOb cI cZ cH x0 xq xg had (nI N) (zup σ ca (hIt (hOpen (σ ca) 1 (nI N)) (nI N) (j + 1)))) hD (zw_t rfl (zOb_c (by rw [zup_u, zup_s]; rfl)))
              refine lv_istore (lv' := [(10, .int (nI (min 3 (zlf (hZ (σ ca)) 0 0 - 3 * j)))), (0, .ref x0), (3, .ref ag), (4, .int (nI ca)), (5, .int 1), (6, .int (nI 0)), (7, .int (nI (zlf (hZ (σ ca)) 0 0 - 3 * j))), (8, .int (nI j)), (9, .int 1)]) hx hb dL_isRound_187 hl (by decide) rfl (fun ls hl => ?_)
              refine lv_iload hx hb dL_isRound_189 (lv_at hl 0 rfl) ?_
              have J203_3 : ∀ (ls : Array Slot), lv_has ls 11 [(10, .int (nI (min 3 (zlf (hZ (σ ca)) 0 0 - 3 * j)))), (0, .ref x0), (3, .ref ag), (4, .int (nI ca)), (5, .int 1), (6, .int (nI 0)), (7, .int (nI (zlf (hZ (σ ca)) 0 0 - 3 * j))), (8, .int (nI j)), (9, .int 1)] → W p l e (headSpec wsL_isRound ({ frames := 5, cells := 0, slots := 0, locals := 115 })).room s m ([.ref x0, .ref ay, .ref az, .ref ag, .int (nI ca), .int 1] : List Value).toArray below meth c H locs 0 0 (MQ below (zQi dC dI 1 ([(ay, .inl (cI, 60, .inl fy)), (az, .inl (cI, 60, .inl (zrz fy fz 1 0 (20 * ca) 20))), (ag, .inl (cI, 12, .inl (upd fg (4 * ca + 2) 0)))] ++ zOb cI cZ cH x0 xq xg had (nI N) (zup σ ca (hRound (σ ca) 1 (nI N) 0))) A) ([.ref x0, .ref ay, .ref az, .ref ag, .int (nI ca), .int 1] : List Value).toArray s 0 0 A) (F0 m 203 ls [.int (nI (min 3 (zlf (hZ (σ ca)) 0 0 - 3 * j))), .int (nI (min 3 (zlf (hZ (σ ca)) 0 0 - 3 * j)))]) := by
                intro ls hl
                refine lv_icmp_ne (tgt := 210) hx hb dL_isRound_203 (by decide) (fun c_203 => absurd c_203 (fun h => h rfl)) (fun c_203 => ?_)
                refine lv_iconst (v := 1) hx hb dL_isRound_206 (by decide) ?_
                refine lv_goto (tgt := 211) hx hb dL_isRound_207 (by decide) ?_
                refine lv_istore (lv' := [(9, .int 1), (10, .int (nI (min 3 (zlf (hZ (σ ca)) 0 0 - 3 * j)))), (0, .ref x0), (3, .ref ag), (4, .int (nI ca)), (5, .int 1), (6, .int (nI 0)), (7, .int (nI (zlf (hZ (σ ca)) 0 0 - 3 * j))), (8, .int (nI j))]) hx hb dL_isRound_211 hl (by decide) rfl (fun ls hl => ?_)
                refine lv_iload hx hb dL_isRound_213 (lv_at hl 7 rfl) ?_
                refine lv_iload hx hb dL_isRound_215 (lv_at hl 1 rfl) ?_
                refine lv_isub hx hb dL_isRound_217 ?_
                refine z_tv (v := nI (zlf (hZ (σ ca)) 0 0 - 3 * (j + 1))) (zsub3 _ _) ?_
                refine lv_istore (lv' := [(7, .int (nI (zlf (hZ (σ ca)) 0 0 - 3 * (j + 1)))), (9, .int 1), (10, .int (nI (min 3 (zlf (hZ (σ ca)) 0 0 - 3 * j)))), (0, .ref x0), (3, .ref ag), (4, .int (nI ca)), (5, .int 1), (6, .int (nI 0)), (8, .int (nI j))]) hx hb dL_isRound_218 hl (by decide) rfl (fun ls hl => ?_)
                refine lv_iinc (v := nI (j + 1)) (lv' := [(8, .int (nI (j + 1))), (7, .int (nI (zlf (hZ (σ ca)) 0 0 - 3 * (j + 1)))), (9, .int 1), (10, .int (nI (min 3 (zlf (hZ (σ ca)) 0 0 - 3 * j)))), (0, .ref x0), (3, .ref ag), (4, .int (nI ca)), (5, .int 1), (6, .int (nI 0))]) hx hb dL_isRound_220 hl (k := 8) rfl (z_1) (by decide) rfl (fun ls hl => ?_)
                refine lv_iload hx hb dL_isRound_223 (lv_at hl 2 rfl) ?_
                refine lv_if_eq (tgt := 251) hx hb dL_isRound_225 (by decide) (fun c_225 => absurd c_225 (by decide)) (fun c_225 => ?_)
                refine lv_aload_n hx hb dL_isRound_228 rfl (lv_at hl 4 rfl) ?_
                refine lv_iload hx hb dL_isRound_229 (lv_at hl 6 rfl) ?_
                refine z_cRi (va_runV (As := [.int (nI ca)]) (rest := []) ⟨hx, hb, hml, hown, hts⟩ (c_isOpen l dC dI cI cZ cH cJ x0 xq (nI N) xg had hg (zup σ ca (hIt (hOpen (σ ca) 1 (nI N)) (nI N) (j + 1))) ca (by first | assumption | omega) (by rw [zup_s, (hit (j + 1) hpl).1]; split <;> decide)) (cwV 1 hts gL_isRound_X3_isOpen rfl rfl rfl (by decide +kernel) ⟨Nat.le_of_ble_eq_true rfl, Nat.le_of_ble_eq_true rfl⟩) (zPreR1 hK (zP_r hP) (zrecv hK (zP_r hP))) rfl rfl hl.1 rfl (lv_room (Nat.le_of_ble_eq_true rfl)) dL_isRound_231 ⟨Nat.le_of_ble_eq_true rfl, Nat.le_of_ble_eq_true rfl⟩) ?_
                refine z_tv (v := if j + 1 < zpn (zlf (hZ (σ ca)) 0 0) then 1 else 0) (by rw [zup_s]; exact (hit (j + 1) hpl).1) ?_
                have J244_4 : ∀ (ls : Array Slot), lv_has ls 11 [(8, .int (nI (j + 1))), (7, .int (nI (zlf (hZ (σ ca)) 0 0 - 3 * (j + 1)))), (9, .int 1), (10, .int (nI (min 3 (zlf (hZ (σ ca)) 0 0 - 3 * j)))), (0, .ref x0), (3, .ref ag), (4, .int (nI ca)), (5, .int 1), (6, .int (nI 0))] → W p l e (headSpec wsL_isRound ({ frames := 5, cells := 0, slots := 0, locals := 115 })).room s m ([.ref x0, .ref ay, .ref az, .ref ag, .int (nI ca), .int 1] : List Value).toArray below meth c H locs 0 0 (MQ below (zQi dC dI 1 ([(ay, .inl (cI, 60, .inl fy)), (az, .inl (cI, 60, .inl (zrz fy fz 1 0 (20 * ca) 20))), (ag, .inl (cI, 12, .inl (upd fg (4 * ca + 2) 0)))] ++ zOb cI cZ cH x0 xq xg had (nI N) (zup σ ca (hRound (σ ca) 1 (nI N) 0))) A) ([.ref x0, .ref ay, .ref az, .ref ag, .int (nI ca), .int 1] : List Value).toArray s 0 0 A) (F0 m 244 ls [.int (if j + 1 < zpn (zlf (hZ (σ ca)) 0 0) then 1 else 0), .int (if j + 1 < zpn (zlf (hZ (σ ca)) 0 0) then 1 else 0)]) := by
                  intro ls hl
                  refine lv_icmp_ne (tgt := 251) hx hb dL_isRound_244 (by decide) (fun c_244 => absurd c_244 (fun h => h rfl)) (fun c_244 => ?_)
                  refine lv_iconst (v := 1) hx hb dL_isRound_247 (by decide) ?_
                  refine lv_goto (tgt := 252) hx hb dL_isRound_248 (by decide) ?_
                  refine lv_istore (lv' := [(9, .int 1), (8, .int (nI (j + 1))), (7, .int (nI (zlf (hZ (σ ca)) 0 0 - 3 * (j + 1)))), (10, .int (nI (min 3 (zlf (hZ (σ ca)) 0 0 - 3 * j)))), (0, .ref x0), (3, .ref ag), (4, .int (nI ca)), (5, .int 1), (6, .int (nI 0))]) hx hb dL_isRound_252 hl (by decide) rfl (fun ls hl => ?_)
                  refine lv_goto (tgt := 160) hx hb dL_isRound_254 (by decide) ?_
                  exact ih2 (j + 1) (by omega) (by omega)  _ _ hP hD hS _ (lv_sub hl [4, 5, 6, 7, 8, 2, 1, 0] rfl)
                refine lv_iload hx hb dL_isRound_234 (lv_at hl 1 rfl) ?_
                refine lv_if_le (tgt := 243) hx hb dL_isRound_236 (by decide) (fun c_236 => ?_) (fun c_236 => ?_)
                · skip
                  refine lv_iconst (v := 0) hx hb dL_isRound_243 (by decide) ?_
                  refine z_tv (v := if j + 1 < zpn (zlf (hZ (σ ca)) 0 0) then 1 else 0) (by first | exact (if_pos ((zpn_lt hpl).mpr (Nat.pos_of_ne_zero (fun q => c_236 (by rw [q]; decide))))).symm | exact (if_neg (fun q => nI_nle ((zpn_lt hpl).mp q) (by omega) c_236)).symm) ?_
                  exact J244_4 _ (lv_sub hl [0, 1, 2, 3, 4, 5, 6, 7, 8] rfl)
                · skip
                  refine lv_iconst (v := 1) hx hb dL_isRound_239 (by decide) ?_
                  refine lv_goto (tgt := 244) hx hb dL_isRound_240 (by decide) ?_
                  refine z_tv (v := if j + 1 < zpn (zlf (hZ (σ ca)) 0 0) then 1 else 0) (by first | exact (if_pos ((zpn_lt hpl).mpr (Nat.pos_of_ne_zero (fun q => c_236 (by rw [q]; decide))))).symm | exact (if_neg (fun q => nI_nle ((zpn_lt hpl).mp q) (by omega) c_236)).symm) ?_
                  exact J244_4 _ (lv_sub hl [0, 1, 2, 3, 4, 5, 6, 7, 8] rfl)
              refine lv_iload hx hb dL_isRound_191 (lv_at hl 6 rfl) ?_
              refine lv_iconst (v := 3) hx hb dL_isRound_193 (by decide) ?_
              refine lv_icmp_ge (tgt := 202) hx hb dL_isRound_194 (by decide) (fun c_194 => ?_) (fun c_194 => ?_)
              · skip
                refine lv_iconst (v := 3) hx hb dL_isRound_202 (by decide) ?_
                refine z_tv (v := nI (min 3 (zlf (hZ (σ ca)) 0 0 - 3 * j))) (by first | exact zmin1 (by omega) c_194 | exact zmin2 (by omega) c_194) ?_
                exact J203_3 _ (lv_sub hl [0, 1, 2, 3, 4, 5, 6, 7, 8] rfl)
              · skip
                refine lv_iload hx hb dL_isRound_197 (lv_at hl 6 rfl) ?_
                refine lv_goto (tgt := 203) hx hb dL_isRound_199 (by decide) ?_
                refine z_tv (v := nI (min 3 (zlf (hZ (σ ca)) 0 0 - 3 * j))) (by first | exact zmin1 (by omega) c_194 | exact zmin2 (by omega) c_194) ?_
                exact J203_3 _ (lv_sub hl [0, 1, 2, 3, 4, 5, 6, 7, 8] rfl)
        exact LOOP2 (zpn (zlf (hZ (σ ca)) 0 0) + 1) 0 (by omega) (by omega)  _ _ (zP_eq hP (zw_t (rfl) (rfl))) (zD_eq hD (zw_t (rfl) (rfl))) hS _ (lv_cg (lv_sub (l' := [(0, .ref x0), (3, .ref ag), (4, .int (nI ca)), (5, .int 1), (6, .int (nI 0)), (7, .int (nI (zc (fun r => decide (0 < zq (hZ (σ ca)) 0 r)) 20))), (8, .int 0), (9, .int 1)]) hl [1, 4, 5, 6, 7, 8, 9, 0] rfl) (zl_k (zl_k (zl_k (zl_k (zl_k (zl_c (rfl) (zl_c (rfl) (zl_k (rfl))))))))))
      · skip
        have hlt : i < 20 := z_lt20b hi (by omega) c_40
        have hyi := zfr_y (hCF.2 i hlt) hN
        have hqi := zin_q hCF hN hF5 hlt
        have J68_5 : ∀ (ls : Array Slot), lv_has ls 11 [(0, .ref x0), (1, .ref ay), (2, .ref az), (3, .ref ag), (4, .int (nI ca)), (5, .int 1), (6, .int (nI 0)), (7, .int (nI (zc (fun r => decide (0 < zq (hZ (σ ca)) 0 r)) i))), (8, .int 0), (9, .int (nI (20 * ca + i)))] → W p l e (headSpec wsL_isRound ({ frames := 5, cells := 0, slots := 0, locals := 115 })).room s m ([.ref x0, .ref ay, .ref az, .ref ag, .int (nI ca), .int 1] : List Value).toArray below meth c H locs 0 0 (MQ below (zQi dC dI 1 ([(ay, .inl (cI, 60, .inl fy)), (az, .inl (cI, 60, .inl (zrz fy fz 1 0 (20 * ca) 20))), (ag, .inl (cI, 12, .inl (upd fg (4 * ca + 2) 0)))] ++ zOb cI cZ cH x0 xq xg had (nI N) (zup σ ca (hRound (σ ca) 1 (nI N) 0))) A) ([.ref x0, .ref ay, .ref az, .ref ag, .int (nI ca), .int 1] : List Value).toArray s 0 0 A) (F0 m 68 ls [.int (if 0 < zq (hZ (σ ca)) 0 i then (1 : Int32) else 0)]) := by
          intro ls hl
          refine lv_istore (lv' := [(10, .int (if 0 < zq (hZ (σ ca)) 0 i then (1 : Int32) else 0)), (0, .ref x0), (1, .ref ay), (2, .ref az), (3, .ref ag), (4, .int (nI ca)), (5, .int 1), (6, .int (nI 0)), (7, .int (nI (zc (fun r => decide (0 < zq (hZ (σ ca)) 0 r)) i))), (8, .int 0), (9, .int (nI (20 * ca + i)))]) hx hb dL_isRound_68 hl (by decide) rfl (fun ls hl => ?_)
          refine lv_iload hx hb dL_isRound_70 (lv_at hl 8 rfl) ?_
          have J82_6 : ∀ (ls : Array Slot), lv_has ls 11 [(10, .int (if 0 < zq (hZ (σ ca)) 0 i then (1 : Int32) else 0)), (0, .ref x0), (1, .ref ay), (2, .ref az), (3, .ref ag), (4, .int (nI ca)), (5, .int 1), (6, .int (nI 0)), (7, .int (nI (zc (fun r => decide (0 < zq (hZ (σ ca)) 0 r)) i))), (8, .int 0), (9, .int (nI (20 * ca + i)))] → W p l e (headSpec wsL_isRound ({ frames := 5, cells := 0, slots := 0, locals := 115 })).room s m ([.ref x0, .ref ay, .ref az, .ref ag, .int (nI ca), .int 1] : List Value).toArray below meth c H locs 0 0 (MQ below (zQi dC dI 1 ([(ay, .inl (cI, 60, .inl fy)), (az, .inl (cI, 60, .inl (zrz fy fz 1 0 (20 * ca) 20))), (ag, .inl (cI, 12, .inl (upd fg (4 * ca + 2) 0)))] ++ zOb cI cZ cH x0 xq xg had (nI N) (zup σ ca (hRound (σ ca) 1 (nI N) 0))) A) ([.ref x0, .ref ay, .ref az, .ref ag, .int (nI ca), .int 1] : List Value).toArray s 0 0 A) (F0 m 82 ls [.int (if 0 < zq (hZ (σ ca)) 0 i then (1 : Int32) else 0), .int (nI (zc (fun r => decide (0 < zq (hZ (σ ca)) 0 r)) i))]) := by
            intro ls hl
            refine lv_iadd hx hb dL_isRound_82 ?_
            refine z_tv (v := nI (zc (fun r => decide (0 < zq (hZ (σ ca)) 0 r)) (i + 1))) (zc_ad rfl) ?_
            refine lv_istore (lv' := [(7, .int (nI (zc (fun r => decide (0 < zq (hZ (σ ca)) 0 r)) (i + 1)))), (10, .int (if 0 < zq (hZ (σ ca)) 0 i then (1 : Int32) else 0)), (0, .ref x0), (1, .ref ay), (2, .ref az), (3, .ref ag), (4, .int (nI ca)), (5, .int 1), (6, .int (nI 0)), (8, .int 0), (9, .int (nI (20 * ca + i)))]) hx hb dL_isRound_83 hl (by decide) rfl (fun ls hl => ?_)
            refine lv_aload_n hx hb dL_isRound_85 rfl (lv_at hl 4 rfl) ?_
            refine lv_iload hx hb dL_isRound_86 (lv_at hl 10 rfl) ?_
            have J124_7 : ∀ (ls : Array Slot), lv_has ls 11 [(7, .int (nI (zc (fun r => decide (0 < zq (hZ (σ ca)) 0 r)) (i + 1)))), (10, .int (if 0 < zq (hZ (σ ca)) 0 i then (1 : Int32) else 0)), (0, .ref x0), (1, .ref ay), (2, .ref az), (3, .ref ag), (4, .int (nI ca)), (5, .int 1), (6, .int (nI 0)), (8, .int 0), (9, .int (nI (20 * ca + i)))] → W p l e (headSpec wsL_isRound ({ frames := 5, cells := 0, slots := 0, locals := 115 })).room s m ([.ref x0, .ref ay, .ref az, .ref ag, .int (nI ca), .int 1] : List Value).toArray below meth c H locs 0 0 (MQ below (zQi dC dI 1 ([(ay, .inl (cI, 60, .inl fy)), (az, .inl (cI, 60, .inl (zrz fy fz 1 0 (20 * ca) 20))), (ag, .inl (cI, 12, .inl (upd fg (4 * ca + 2) 0)))] ++ zOb cI cZ cH x0 xq xg had (nI N) (zup σ ca (hRound (σ ca) 1 (nI N) 0))) A) ([.ref x0, .ref ay, .ref az, .ref ag, .int (nI ca), .int 1] : List Value).toArray s 0 0 A) (F0 m 124 ls [.int (if 0 < zq (hZ (σ ca)) 0 i then (if fy (20 * ca + i) < 0 then -1 else fy (20 * ca + i)) else -1), .int (nI (20 * ca + i)), .ref az]) := by
              intro ls hl
              refine z_iast hx hb hK hP hD hS 1 rfl (zix_nI (by first | assumption | omega) (by decide)) dL_isRound_124 (fun H locs hP hD hS => ?_)
              have hP : va_P (dC, dI) vwCl ([(ay, .inl (cI, 60, .inl fy)), (az, .inl (cI, 60, .inl (upd (zrz fy fz 1 0 (20 * ca) i) (20 * ca + i) (if 0 < zq (hZ (σ ca)) 0 i then (if fy (20 * ca + i) < 0 then -1 else fy (20 * ca + i)) else -1)))), (ag, .inl (cI, 12, .inl fg))] ++ zOb cI cZ cH x0 xq xg had (nI N) σ) H := hP
              have hD : va_D A ([(ay, .inl (cI, 60, .inl fy)), (az, .inl (cI, 60, .inl (upd (zrz fy fz 1 0 (20 * ca) i) (20 * ca + i) (if 0 < zq (hZ (σ ca)) 0 i then (if fy (20 * ca + i) < 0 then -1 else fy (20 * ca + i)) else -1)))), (ag, .inl (cI, 12, .inl fg))] ++ zOb cI cZ cH x0 xq xg had (nI N) σ) := hD
              refine lv_iinc (v := nI (20 * ca + (i + 1))) (lv' := [(9, .int (nI (20 * ca + (i + 1)))), (7, .int (nI (zc (fun r => decide (0 < zq (hZ (σ ca)) 0 r)) (i + 1)))), (10, .int (if 0 < zq (hZ (σ ca)) 0 i then (1 : Int32) else 0)), (0, .ref x0), (1, .ref ay), (2, .ref az), (3, .ref ag), (4, .int (nI ca)), (5, .int 1), (6, .int (nI 0)), (8, .int 0)]) hx hb dL_isRound_125 hl (k := 10) rfl (z_1) (by decide) rfl (fun ls hl => ?_)
              refine lv_goto (tgt := 30) hx hb dL_isRound_128 (by decide) ?_
              exact ih1 (i + 1) (by omega) (by omega)  _ _ (zP_eq hP (zw_t (zw_k (zw_a (zrz_s (by grind)) (zw_k (rfl)))) (rfl))) (zD_eq hD (zw_t (zw_k (zw_a (zrz_s (by grind)) (zw_k (rfl)))) (rfl))) hS _ (lv_sub hl [3, 4, 5, 6, 7, 8, 9, 1, 10, 0] rfl)
            refine lv_iload hx hb dL_isRound_88 (lv_at hl 1 rfl) ?_
            refine lv_if_eq (tgt := 111) hx hb dL_isRound_90 (by decide) (fun c_90 => ?_) (fun c_90 => ?_)
            · skip
              refine lv_iload hx hb dL_isRound_111 (lv_at hl 7 rfl) ?_
              refine lv_if_eq (tgt := 120) hx hb dL_isRound_113 (by decide) (fun c_113 => absurd c_113 (by decide)) (fun c_113 => ?_)
              refine lv_iconst (v := (-1)) hx hb dL_isRound_116 (by decide) ?_
              refine lv_goto (tgt := 124) hx hb dL_isRound_117 (by decide) ?_
              refine z_tv (v := if 0 < zq (hZ (σ ca)) 0 i then (if fy (20 * ca + i) < 0 then -1 else fy (20 * ca + i)) else -1) (by grind) ?_
              exact J124_7 _ (lv_sub hl [0, 1, 2, 3, 4, 5, 6, 7, 8, 9, 10] rfl)
            · skip
              refine lv_aload_n hx hb dL_isRound_93 rfl (lv_at hl 3 rfl) ?_
              refine lv_iload hx hb dL_isRound_94 (lv_at hl 10 rfl) ?_
              refine z_iald hx hb hK hP 0 rfl (zix_nI (by first | assumption | omega) (by decide)) dL_isRound_96 ?_
              refine z_tv (v := fy (20 * ca + i)) (rfl) ?_
              refine lv_if_ge (tgt := 104) hx hb dL_isRound_97 (by decide) (fun c_97 => ?_) (fun c_97 => ?_)
              · skip
                refine lv_aload_n hx hb dL_isRound_104 rfl (lv_at hl 3 rfl) ?_
                refine lv_iload hx hb dL_isRound_105 (lv_at hl 10 rfl) ?_
                refine z_iald hx hb hK hP 0 rfl (zix_nI (by first | assumption | omega) (by decide)) dL_isRound_107 ?_
                refine z_tv (v := fy (20 * ca + i)) (rfl) ?_
                refine lv_goto (tgt := 124) hx hb dL_isRound_108 (by decide) ?_
                refine z_tv (v := if 0 < zq (hZ (σ ca)) 0 i then (if fy (20 * ca + i) < 0 then -1 else fy (20 * ca + i)) else -1) (by grind) ?_
                exact J124_7 _ (lv_sub hl [0, 1, 2, 3, 4, 5, 6, 7, 8, 9, 10] rfl)
              · skip
                refine lv_iconst (v := (-1)) hx hb dL_isRound_100 (by decide) ?_
                refine lv_goto (tgt := 124) hx hb dL_isRound_101 (by decide) ?_
                refine z_tv (v := if 0 < zq (hZ (σ ca)) 0 i then (if fy (20 * ca + i) < 0 then -1 else fy (20 * ca + i)) else -1) (by grind) ?_
                exact J124_7 _ (lv_sub hl [0, 1, 2, 3, 4, 5, 6, 7, 8, 9, 10] rfl)
          refine lv_iload hx hb dL_isRound_72 (lv_at hl 0 rfl) ?_
          refine lv_if_eq (tgt := 81) hx hb dL_isRound_74 (by decide) (fun c_74 => ?_) (fun c_74 => ?_)
          · skip
            refine lv_iconst (v := 0) hx hb dL_isRound_81 (by decide) ?_
            refine z_tv (v := if 0 < zq (hZ (σ ca)) 0 i then (1 : Int32) else 0) (by grind) ?_
            exact J82_6 _ (lv_sub hl [0, 1, 2, 3, 4, 5, 6, 7, 8, 9, 10] rfl)
          · skip
            refine lv_iconst (v := 1) hx hb dL_isRound_77 (by decide) ?_
            refine lv_goto (tgt := 82) hx hb dL_isRound_78 (by decide) ?_
            refine z_tv (v := if 0 < zq (hZ (σ ca)) 0 i then (1 : Int32) else 0) (by grind) ?_
            exact J82_6 _ (lv_sub hl [0, 1, 2, 3, 4, 5, 6, 7, 8, 9, 10] rfl)
        refine lv_aload_n hx hb dL_isRound_43 rfl (lv_at hl 1 rfl) ?_
        refine lv_iload hx hb dL_isRound_44 (lv_at hl 9 rfl) ?_
        refine z_iald hx hb hK hP 0 rfl (zix_nI (by first | assumption | omega) (by decide)) dL_isRound_46 ?_
        refine z_tv (v := fy (20 * ca + i)) (rfl) ?_
        refine lv_iconst (v := (-1)) hx hb dL_isRound_47 (by decide) ?_
        refine lv_icmp_eq (tgt := 67) hx hb dL_isRound_48 (by decide) (fun c_48 => ?_) (fun c_48 => ?_)
        · skip
          refine lv_iconst (v := 0) hx hb dL_isRound_67 (by decide) ?_
          refine z_tv (v := if 0 < zq (hZ (σ ca)) 0 i then (1 : Int32) else 0) (by grind) ?_
          exact J68_5 _ (lv_sub hl [0, 1, 2, 3, 4, 5, 6, 7, 8, 9] rfl)
        · skip
          refine lv_aload_n hx hb dL_isRound_51 rfl (lv_at hl 1 rfl) ?_
          refine lv_iload hx hb dL_isRound_52 (lv_at hl 9 rfl) ?_
          refine z_iald hx hb hK hP 0 rfl (zix_nI (by first | assumption | omega) (by decide)) dL_isRound_54 ?_
          refine z_tv (v := fy (20 * ca + i)) (rfl) ?_
          refine z_cRi (va_runS (As := [.int (fy (20 * ca + i))]) (rest := []) ⟨hx, hb, hml, hown, hts⟩ (kL_stampOf l (fy (20 * ca + i))) (va_cwS 1 hts gL_isRound_L_stampOf rfl rfl rfl (by decide +kernel) ⟨Nat.le_of_ble_eq_true rfl, Nat.le_of_ble_eq_true rfl⟩) (zPre0) rfl rfl hl.1 rfl (lv_room (Nat.le_of_ble_eq_true rfl)) dL_isRound_55 ⟨Nat.le_of_ble_eq_true rfl, Nat.le_of_ble_eq_true rfl⟩) ?_
          refine z_tv (v := zso (fy (20 * ca + i))) rfl ?_
          refine lv_iload hx hb dL_isRound_58 (lv_at hl 6 rfl) ?_
          refine lv_icmp_lt (tgt := 67) hx hb dL_isRound_60 (by decide) (fun c_60 => ?_) (fun c_60 => ?_)
          · skip
            refine lv_iconst (v := 0) hx hb dL_isRound_67 (by decide) ?_
            refine z_tv (v := if 0 < zq (hZ (σ ca)) 0 i then (1 : Int32) else 0) (by grind) ?_
            exact J68_5 _ (lv_sub hl [0, 1, 2, 3, 4, 5, 6, 7, 8, 9] rfl)
          · skip
            refine lv_iconst (v := 1) hx hb dL_isRound_63 (by decide) ?_
            refine lv_goto (tgt := 68) hx hb dL_isRound_64 (by decide) ?_
            refine z_tv (v := if 0 < zq (hZ (σ ca)) 0 i then (1 : Int32) else 0) (by grind) ?_
            exact J68_5 _ (lv_sub hl [0, 1, 2, 3, 4, 5, 6, 7, 8, 9] rfl)
  exact LOOP1 (20 + 1) 0 (by omega) (by omega)  _ _ (zP_eq hP (zw_t (zw_k (zw_a (zrz_0) (zw_k (rfl)))) (rfl))) (zD_eq hD (zw_t (zw_k (zw_a (zrz_0) (zw_k (rfl)))) (rfl))) hS _ (lv_cg (lv_sub (l' := [(0, .ref x0), (1, .ref ay), (2, .ref az), (3, .ref ag), (4, .int (nI ca)), (5, .int 1), (6, .int (nI 0)), (7, .int 0), (8, .int 0), (9, .int (nI (20 * ca)))]) hl [4, 5, 6, 7, 8, 9, 3, 2, 1, 0] rfl) (zl_k (zl_k (zl_k (zl_k (zl_k (zl_k (zl_k (zl_c (rfl) (zl_k (zl_c (rfl) (rfl))))))))))))
set_option maxHeartbeats 8000000 in
set_option maxRecDepth 100000 in
/-- isRound_f0 -/
theorem kL_isRound_f0 (l : Launch) (dC : Nat → ClassId) (dI : Nat → Nat → Nat) (cI cZ cH cJ : ClassId) (x0 : Nat) (xq : Nat) (xg : Nat → Option Nat) (had : Nat → Nat → Nat) (hg : ∀ i, i < 4 → xg i = some (had i 0)) (σ : Nat → zHS) (N : Nat) (hN : N ≤ 5000) (ay : Nat) (az : Nat) (ag : Nat) (fy : zI) (fz : zI) (fg : zI) (fd : zI) (ca : Nat) (hc3 : ca < 3) (u : Nat) (w : Nat) (mm : Nat) (hCF : zCF ca N (σ ca) fy fd fg u w mm) (sz : Nat) : Met l yL_isRound wsL_isRound ({ frames := 5, cells := 0, slots := 0, locals := 115 }) (zPc dC dI (zTy cI cZ cH cJ) [.ref x0, .ref ay, .ref az, .ref ag, .int (nI ca), .int 0] sz ([(ay, .inl (cI, 60, .inl fy)), (az, .inl (cI, 60, .inl fz)), (ag, .inl (cI, 12, .inl fg))] ++ zOb cI cZ cH x0 xq xg had (nI N) σ)) (zQi dC dI 1 ([(ay, .inl (cI, 60, .inl fy)), (az, .inl (cI, 60, .inl (zrz fy fz 0 mm (20 * ca) 20))), (ag, .inl (cI, 12, .inl (upd fg (4 * ca + 2) 0)))] ++ zOb cI cZ cH x0 xq xg had (nI N) (zup σ ca (hRound (σ ca) 0 (nI N) mm))) (va_A ([(ay, .inl (cI, 60, .inl fy)), (az, .inl (cI, 60, .inl fz)), (ag, .inl (cI, 12, .inl fg))] ++ zOb cI cZ cH x0 xq xg had (nI N) σ) sz)) 0 0 (va_A ([(ay, .inl (cI, 60, .inl fy)), (az, .inl (cI, 60, .inl fz)), (ag, .inl (cI, 12, .inl fg))] ++ zOb cI cZ cH x0 xq xg had (nI N) σ) sz) := by
  refine Met.ofW (cc := cL_isRound) (maxL := 11) (ret := (some .boolean)) (by decide) rfl ?_
  intro p e s m args below meth c s₁ B hml hv0
  obtain ⟨rfl, hsz, hP, hK, hD0⟩ := hv0
  have hx := B.exec
  have hb := B.bytes
  have hr := B.returns
  have hts := atoms_spec (ws := wsL_isRound) B.pre
  have hown : s.vm.findClass RL = some m.cls := findClass_of_methodNamed B.named
  have hlocks := B.notSynchronized
  subst hsz
  have hD := hD0.self (sz := s.heap.size)
  generalize hAe : va_A ([(ay, .inl (cI, 60, .inl fy)), (az, .inl (cI, 60, .inl fz)), (ag, .inl (cI, 12, .inl fg))] ++ zOb cI cZ cH x0 xq xg had (nI N) σ) s.heap.size = A at hD ⊢
  have hA : ∀ q : Nat, s.heap.size ≤ q → A q := fun q h => by rw [← hAe]; exact Or.inr h
  have hS : va_S A s.heap s.heap [] := va_S.rf
  have hl := lv_entry ([.ref x0, .ref ay, .ref az, .ref ag, .int (nI ca), .int 0]) (n := 11) (Nat.le_of_ble_eq_true rfl)
  rw [lg_entry_eq]
  generalize (lg_sl ([.ref x0, .ref ay, .ref az, .ref ag, .int (nI ca), .int 0]) ++ List.replicate (11 - (lg_sl ([.ref x0, .ref ay, .ref az, .ref ag, .int (nI ca), .int 0])).length) Slot.unset).toArray = ls at hl ⊢
  have hl : lv_has ls 11 [(0, .ref x0), (1, .ref ay), (2, .ref az), (3, .ref ag), (4, .int (nI ca)), (5, .int 0)] := hl
  have hca : ca < 4 := by omega
  have hzz := zCF_z hCF hN
  have hm1 : mm ≤ N := hCF.1.2.2.2.1
  have hMk1 : hMk (σ ca) = nI mm := hCF.1.2.2.2.2.2.2.1
  have hg0 : fg (4 * ca) = nI u := hCF.1.2.2.2.2.2.2.2.1
  have hu1 := hCF.1.1
  have hu2 := hCF.1.2.1
  have hFd : mm = if (0 : Int32) = 0 then mm else 0 := rfl
  have hff : (0 : Int32) = 0 ∨ (0 : Int32) = 1 := by decide
  have hF5 : mm ≤ 5000 := by omega
  have hit := fun (p : Nat) (hp : p ≤ zpn (zlf (hZ (σ ca)) mm 0)) => zit_ho (N := N) (x0 := σ ca) (p := p) hff hzz hF5 hMk1 hFd hp
  have hdn := z_done (N := N) (x0 := σ ca) hff hzz hF5 hMk1 hFd
  have hT20 : zlf (hZ (σ ca)) mm 0 ≤ 20 := zlf_20
  have hP7 : zpn (zlf (hZ (σ ca)) mm 0) ≤ 7 := zpn_7 hT20
  refine lv_iload hx hb dL_isRound_0 (lv_at hl 5 rfl) ?_
  refine lv_if_eq (tgt := 9) hx hb dL_isRound_2 (by decide) (fun c_2 => ?_) (fun c_2 => absurd c_2 (by decide))
  refine lv_aload_n hx hb dL_isRound_9 rfl (lv_at hl 0 rfl) ?_
  refine lv_iload hx hb dL_isRound_10 (lv_at hl 4 rfl) ?_
  refine z_cRi (va_runV (As := [.int (nI ca)]) (rest := []) ⟨hx, hb, hml, hown, hts⟩ (c_mark l dC dI cI cZ cH cJ x0 xq (nI N) xg had hg σ ca (by first | assumption | omega)) (cwV 1 hts gL_isRound_X3_mark rfl rfl rfl (by decide +kernel) ⟨Nat.le_of_ble_eq_true rfl, Nat.le_of_ble_eq_true rfl⟩) (zPreR1 hK (zP_r hP) (zrecv hK (zP_r hP))) rfl rfl hl.1 rfl (lv_room (Nat.le_of_ble_eq_true rfl)) dL_isRound_12 ⟨Nat.le_of_ble_eq_true rfl, Nat.le_of_ble_eq_true rfl⟩) ?_
  refine z_tv (v := nI mm) (hMk1) ?_
  refine lv_istore (lv' := [(6, .int (nI mm)), (0, .ref x0), (1, .ref ay), (2, .ref az), (3, .ref ag), (4, .int (nI ca)), (5, .int 0)]) hx hb dL_isRound_15 hl (by decide) rfl (fun ls hl => ?_)
  refine lv_iconst (v := 0) hx hb dL_isRound_17 (by decide) ?_
  refine lv_istore (lv' := [(7, .int 0), (6, .int (nI mm)), (0, .ref x0), (1, .ref ay), (2, .ref az), (3, .ref ag), (4, .int (nI ca)), (5, .int 0)]) hx hb dL_isRound_18 hl (by decide) rfl (fun ls hl => ?_)
  refine lv_iconst (v := 0) hx hb dL_isRound_20 (by decide) ?_
  refine lv_istore (lv' := [(8, .int 0), (7, .int 0), (6, .int (nI mm)), (0, .ref x0), (1, .ref ay), (2, .ref az), (3, .ref ag), (4, .int (nI ca)), (5, .int 0)]) hx hb dL_isRound_21 hl (by decide) rfl (fun ls hl => ?_)
  refine lv_bipush (v := 20) hx hb dL_isRound_23 (by decide) ?_
  refine lv_iload hx hb dL_isRound_25 (lv_at hl 7 rfl) ?_
  refine lv_imul hx hb dL_isRound_27 ?_
  refine z_tv (v := nI (20 * ca)) (pk_mul 20 ca) ?_
  refine lv_istore (lv' := [(9, .int (nI (20 * ca))), (8, .int 0), (7, .int 0), (6, .int (nI mm)), (0, .ref x0), (1, .ref ay), (2, .ref az), (3, .ref ag), (4, .int (nI ca)), (5, .int 0)]) hx hb dL_isRound_28 hl (by decide) rfl (fun ls hl => ?_)
  have LOOP1 : ∀ (n1 i : Nat), i ≤ 20 → 20 < i + n1 → ∀ (H : Heap) (locs : List Loc), va_P (dC, dI) vwCl ([(ay, .inl (cI, 60, .inl fy)), (az, .inl (cI, 60, .inl (zrz fy fz 0 mm (20 * ca) i))), (ag, .inl (cI, 12, .inl fg))] ++ zOb cI cZ cH x0 xq xg had (nI N) σ) H → va_D A ([(ay, .inl (cI, 60, .inl fy)), (az, .inl (cI, 60, .inl (zrz fy fz 0 mm (20 * ca) i))), (ag, .inl (cI, 12, .inl fg))] ++ zOb cI cZ cH x0 xq xg had (nI N) σ) → va_S A s.heap H locs → ∀ (ls : Array Slot), lv_has ls 11 [(0, .ref x0), (1, .ref ay), (2, .ref az), (3, .ref ag), (4, .int (nI ca)), (5, .int 0), (6, .int (nI mm)), (7, .int (nI (zc (fun r => decide (0 < zq (hZ (σ ca)) mm r)) i))), (8, .int 0), (9, .int (nI (20 * ca + i)))] → W p l e (headSpec wsL_isRound ({ frames := 5, cells := 0, slots := 0, locals := 115 })).room s m ([.ref x0, .ref ay, .ref az, .ref ag, .int (nI ca), .int 0] : List Value).toArray below meth c H locs (0) (0) (MQ below (zQi dC dI 1 ([(ay, .inl (cI, 60, .inl fy)), (az, .inl (cI, 60, .inl (zrz fy fz 0 mm (20 * ca) 20))), (ag, .inl (cI, 12, .inl (upd fg (4 * ca + 2) 0)))] ++ zOb cI cZ cH x0 xq xg had (nI N) (zup σ ca (hRound (σ ca) 0 (nI N) mm))) A) ([.ref x0, .ref ay, .ref az, .ref ag, .int (nI ca), .int 0] : List Value).toArray s 0 0 A) (F0 m 30 ls []) := by
    intro n1
    induction n1 with
    | zero => intro i h1 h2; exact absurd h2 (by omega)
    | succ n1 ih1 =>
      intro i hi hin  H locs hP hD hS ls hl
      refine lv_iload hx hb dL_isRound_30 (lv_at hl 9 rfl) ?_
      refine lv_bipush (v := 20) hx hb dL_isRound_32 (by decide) ?_
      refine lv_iload hx hb dL_isRound_34 (lv_at hl 4 rfl) ?_
      refine lv_imul hx hb dL_isRound_36 ?_
      refine z_tv (v := nI (20 * ca)) (pk_mul 20 ca) ?_
      refine lv_bipush (v := 20) hx hb dL_isRound_37 (by decide) ?_
      refine lv_iadd hx hb dL_isRound_39 ?_
      refine z_tv (v := nI (20 * ca + 20)) (nI_add (20 * ca) 20) ?_
      refine lv_icmp_ge (tgt := 131) hx hb dL_isRound_40 (by decide) (fun c_40 => ?_) (fun c_40 => ?_)
      · skip
        have e20 : i = 20 := z_ge20b hi (by omega) c_40
        subst e20
        refine lv_aload_n hx hb dL_isRound_131 rfl (lv_at hl 0 rfl) ?_
        refine lv_iload hx hb dL_isRound_132 (lv_at hl 4 rfl) ?_
        refine lv_iload hx hb dL_isRound_134 (lv_at hl 5 rfl) ?_
        refine z_cGi (wr := [(ay, .inl (cI, 60, .inl fy)), (az, .inl (cI, 60, .inl (zrz fy fz 0 mm (20 * ca) 20))), (ag, .inl (cI, 12, .inl fg))]) (big1 := [(ay, .inl (cI, 60, .inl fy)), (az, .inl (cI, 60, .inl (zrz fy fz 0 mm (20 * ca) 20))), (ag, .inl (cI, 12, .inl fg))] ++ zOb cI cZ cH x0 xq xg had (nI N) (zup σ ca (hOpen (σ ca) 0 (nI N)))) (va_runV (As := [.int (nI ca), .int 0]) (rest := []) ⟨hx, hb, hml, hown, hts⟩ (c_open l dC dI cI cZ cH cJ x0 xq (nI N) xg had hg σ ca (by first | assumption | omega) 0 (hff) H.size) (cwV 2 hts gL_isRound_X3_open rfl rfl rfl (by decide +kernel) ⟨Nat.le_of_ble_eq_true rfl, Nat.le_of_ble_eq_true rfl⟩) (zPreV1 hK (zP_r hP) (zD_r hD) (zrecv hK (zP_r hP))) rfl rfl hl.1 rfl (lv_room (Nat.le_of_ble_eq_true rfl)) dL_isRound_136 ⟨Nat.le_of_ble_eq_true rfl, Nat.le_of_ble_eq_true rfl⟩) hP hD hS hA (zeq_comm _ _) (zeq_comm _ _) (fun H locs hP hD hS => ?_)
        have hP : va_P (dC, dI) vwCl ([(ay, .inl (cI, 60, .inl fy)), (az, .inl (cI, 60, .inl (zrz fy fz 0 mm (20 * ca) 20))), (ag, .inl (cI, 12, .inl fg))] ++ zOb cI cZ cH x0 xq xg had (nI N) (zup σ ca (hOpen (σ ca) 0 (nI N)))) H := hP
        have hD : va_D A ([(ay, .inl (cI, 60, .inl fy)), (az, .inl (cI, 60, .inl (zrz fy fz 0 mm (20 * ca) 20))), (ag, .inl (cI, 12, .inl fg))] ++ zOb cI cZ cH x0 xq xg had (nI N) (zup σ ca (hOpen (σ ca) 0 (nI N)))) := hD
        refine z_tv (v := nI mm) (hMk1) ?_
        refine lv_iload hx hb dL_isRound_139 (lv_at hl 6 rfl) ?_
        refine lv_icmp_ne (tgt := 157) hx hb dL_isRound_141 (by decide) (fun c_141 => absurd c_141 (fun h => h rfl)) (fun c_141 => ?_)
        refine lv_aload_n hx hb dL_isRound_144 rfl (lv_at hl 0 rfl) ?_
        refine lv_iload hx hb dL_isRound_145 (lv_at hl 4 rfl) ?_
        refine z_cRi (va_runV (As := [.int (nI ca)]) (rest := []) ⟨hx, hb, hml, hown, hts⟩ (c_isOpen l dC dI cI cZ cH cJ x0 xq (nI N) xg had hg (zup σ ca (hOpen (σ ca) 0 (nI N))) ca (by first | assumption | omega) (Or.inr (by rw [zup_s]; rfl))) (cwV 1 hts gL_isRound_X3_isOpen rfl rfl rfl (by decide +kernel) ⟨Nat.le_of_ble_eq_true rfl, Nat.le_of_ble_eq_true rfl⟩) (zPreR1 hK (zP_r hP) (zrecv hK (zP_r hP))) rfl rfl hl.1 rfl (lv_room (Nat.le_of_ble_eq_true rfl)) dL_isRound_147 ⟨Nat.le_of_ble_eq_true rfl, Nat.le_of_ble_eq_true rfl⟩) ?_
        refine z_tv (v := 1) (by rw [zup_s]; rfl) ?_
        refine lv_if_eq (tgt := 157) hx hb dL_isRound_150 (by decide) (fun c_150 => absurd c_150 (by decide)) (fun c_150 => ?_)
        refine lv_iconst (v := 1) hx hb dL_isRound_153 (by decide) ?_
        refine lv_goto (tgt := 158) hx hb dL_isRound_154 (by decide) ?_
        refine lv_istore (lv' := [(9, .int 1), (0, .ref x0), (1, .ref ay), (2, .ref az), (3, .ref ag), (4, .int (nI ca)), (5, .int 0), (6, .int (nI mm)), (7, .int (nI (zc (fun r => decide (0 < zq (hZ (σ ca)) mm r)) 20))), (8, .int 0)]) hx hb dL_isRound_158 hl (by decide) rfl (fun ls hl => ?_)
        have LOOP2 : ∀ (n2 j : Nat), j ≤ zpn (zlf (hZ (σ ca)) mm 0) → zpn (zlf (hZ (σ ca)) mm 0) < j + n2 → ∀ (H : Heap) (locs : List Loc), va_P (dC, dI) vwCl ([(ay, .inl (cI, 60, .inl fy)), (az, .inl (cI, 60, .inl (zrz fy fz 0 mm (20 * ca) 20))), (ag, .inl (cI, 12, .inl fg))] ++ zOb cI cZ cH x0 xq xg had (nI N) (zup σ ca (hIt (hOpen (σ ca) 0 (nI N)) (nI N) j))) H → va_D A ([(ay, .inl (cI, 60, .inl fy)), (az, .inl (cI, 60, .inl (zrz fy fz 0 mm (20 * ca) 20))), (ag, .inl (cI, 12, .inl fg))] ++ zOb cI cZ cH x0 xq xg had (nI N) (zup σ ca (hIt (hOpen (σ ca) 0 (nI N)) (nI N) j))) → va_S A s.heap H locs → ∀ (ls : Array Slot), lv_has ls 11 [(0, .ref x0), (3, .ref ag), (4, .int (nI ca)), (5, .int 0), (6, .int (nI mm)), (7, .int (nI (zlf (hZ (σ ca)) mm 0 - 3 * j))), (8, .int (nI j)), (9, .int 1)] → W p l e (headSpec wsL_isRound ({ frames := 5, cells := 0, slots := 0, locals := 115 })).room s m ([.ref x0, .ref ay, .ref az, .ref ag, .int (nI ca), .int 0] : List Value).toArray below meth c H locs (0) (0) (MQ below (zQi dC dI 1 ([(ay, .inl (cI, 60, .inl fy)), (az, .inl (cI, 60, .inl (zrz fy fz 0 mm (20 * ca) 20))), (ag, .inl (cI, 12, .inl (upd fg (4 * ca + 2) 0)))] ++ zOb cI cZ cH x0 xq xg had (nI N) (zup σ ca (hRound (σ ca) 0 (nI N) mm))) A) ([.ref x0, .ref ay, .ref az, .ref ag, .int (nI ca), .int 0] : List Value).toArray s 0 0 A) (F0 m 160 ls []) := by
          intro n2
          induction n2 with
          | zero => intro j h1 h2; exact absurd h2 (by omega)
          | succ n2 ih2 =>
            intro j hi hin  H locs hP hD hS ls hl
            refine lv_iload hx hb dL_isRound_160 (lv_at hl 7 rfl) ?_
            refine lv_if_eq (tgt := 257) hx hb dL_isRound_162 (by decide) (fun c_162 => absurd c_162 (by decide)) (fun c_162 => ?_)
            refine lv_aload_n hx hb dL_isRound_165 rfl (lv_at hl 0 rfl) ?_
            refine lv_iload hx hb dL_isRound_166 (lv_at hl 2 rfl) ?_
            refine z_cRi (va_runV (As := [.int (nI ca)]) (rest := []) ⟨hx, hb, hml, hown, hts⟩ (c_isOpen l dC dI cI cZ cH cJ x0 xq (nI N) xg had hg (zup σ ca (hIt (hOpen (σ ca) 0 (nI N)) (nI N) j)) ca (by first | assumption | omega) (by rw [zup_s, (hit j hi).1]; split <;> decide)) (cwV 1 hts gL_isRound_X3_isOpen rfl rfl rfl (by decide +kernel) ⟨Nat.le_of_ble_eq_true rfl, Nat.le_of_ble_eq_true rfl⟩) (zPreR1 hK (zP_r hP) (zrecv hK (zP_r hP))) rfl rfl hl.1 rfl (lv_room (Nat.le_of_ble_eq_true rfl)) dL_isRound_168 ⟨Nat.le_of_ble_eq_true rfl, Nat.le_of_ble_eq_true rfl⟩) ?_
            refine z_tv (v := if j < zpn (zlf (hZ (σ ca)) mm 0) then 1 else 0) (by rw [zup_s]; exact (hit j hi).1) ?_
            refine lv_if_eq (tgt := 257) hx hb dL_isRound_171 (by decide) (fun c_171 => ?_) (fun c_171 => ?_)
            · skip
              have hpe : j = zpn (zlf (hZ (σ ca)) mm 0) := Nat.le_antisymm hi (Nat.le_of_not_lt (fun q => by rw [if_pos q] at c_171; exact absurd c_171 (by decide)))
              subst hpe
              refine lv_aload_n hx hb dL_isRound_257 rfl (lv_at hl 1 rfl) ?_
              refine lv_iconst (v := 4) hx hb dL_isRound_258 (by decide) ?_
              refine lv_iload hx hb dL_isRound_259 (lv_at hl 2 rfl) ?_
              refine lv_imul hx hb dL_isRound_261 ?_
              refine z_tv (v := nI (4 * ca)) (pk_mul 4 ca) ?_
              refine lv_iconst (v := 2) hx hb dL_isRound_262 (by decide) ?_
              refine lv_iadd hx hb dL_isRound_263 ?_
              refine z_tv (v := nI ((4 * ca) + 2)) (nI_add (4 * ca) 2) ?_
              refine lv_iconst (v := 0) hx hb dL_isRound_264 (by decide) ?_
              refine z_iast hx hb hK hP hD hS 2 rfl (zix_nI (by first | assumption | omega) (by decide)) dL_isRound_265 (fun H locs hP hD hS => ?_)
              have hP : va_P (dC, dI) vwCl ([(ay, .inl (cI, 60, .inl fy)), (az, .inl (cI, 60, .inl (zrz fy fz 0 mm (20 * ca) 20))), (ag, .inl (cI, 12, .inl (upd fg ((4 * ca) + 2) 0)))] ++ zOb cI cZ cH x0 xq xg had (nI N) (zup σ ca (hIt (hOpen (σ ca) 0 (nI N)) (nI N) (zpn (zlf (hZ (σ ca)) mm 0))))) H := hP
              have hD : va_D A ([(ay, .inl (cI, 60, .inl fy)), (az, .inl (cI, 60, .inl (zrz fy fz 0 mm (20 * ca) 20))), (ag, .inl (cI, 12, .inl (upd fg ((4 * ca) + 2) 0)))] ++ zOb cI cZ cH x0 xq xg had (nI N) (zup σ ca (hIt (hOpen (σ ca) 0 (nI N)) (nI N) (zpn (zlf (hZ (σ ca)) mm 0))))) := hD
              refine lv_iload hx hb dL_isRound_266 (lv_at hl 7 rfl) ?_
              refine lv_if_eq (tgt := 319) hx hb dL_isRound_268 (by decide) (fun c_268 => absurd c_268 (by decide)) (fun c_268 => ?_)
              refine lv_iload hx hb dL_isRound_271 (lv_at hl 5 rfl) ?_
              refine z_tv (v := 0) (zpn_end _) ?_
              refine lv_if_ne (tgt := 319) hx hb dL_isRound_273 (by decide) (fun c_273 => absurd c_273 (by decide)) (fun c_273 => ?_)
              refine lv_aload_n hx hb dL_isRound_276 rfl (lv_at hl 0 rfl) ?_
              refine lv_iload hx hb dL_isRound_277 (lv_at hl 2 rfl) ?_
              refine z_cRi (va_runV (As := [.int (nI ca)]) (rest := []) ⟨hx, hb, hml, hown, hts⟩ (c_mark l dC dI cI cZ cH cJ x0 xq (nI N) xg had hg (zup σ ca (hIt (hOpen (σ ca) 0 (nI N)) (nI N) (zpn (zlf (hZ (σ ca)) mm 0)))) ca (by first | assumption | omega)) (cwV 1 hts gL_isRound_X3_mark rfl rfl rfl (by decide +kernel) ⟨Nat.le_of_ble_eq_true rfl, Nat.le_of_ble_eq_true rfl⟩) (zPreR1 hK (zP_r hP) (zrecv hK (zP_r hP))) rfl rfl hl.1 rfl (lv_room (Nat.le_of_ble_eq_true rfl)) dL_isRound_279 ⟨Nat.le_of_ble_eq_true rfl, Nat.le_of_ble_eq_true rfl⟩) ?_
              refine z_tv (v := nI (N - N % u)) (by rw [zup_s, hdn.2.1, hCF.1.2.2.2.2.1]; exact zst_n hu1 hu2 hN) ?_
              refine lv_aload_n hx hb dL_isRound_282 rfl (lv_at hl 0 rfl) ?_
              refine z_cRi (va_runV (As := []) (rest := [.int (nI (N - N % u))]) ⟨hx, hb, hml, hown, hts⟩ (c_today l dC dI cI cZ cH cJ x0 xq (nI N) xg had hg (zup σ ca (hIt (hOpen (σ ca) 0 (nI N)) (nI N) (zpn (zlf (hZ (σ ca)) mm 0))))) (cwV 0 hts gL_isRound_X3_today rfl rfl rfl (by decide +kernel) ⟨Nat.le_of_ble_eq_true rfl, Nat.le_of_ble_eq_true rfl⟩) (zPreR1 hK (zP_r hP) (zrecv hK (zP_r hP))) rfl rfl hl.1 rfl (lv_room (Nat.le_of_ble_eq_true rfl)) dL_isRound_283 ⟨Nat.le_of_ble_eq_true rfl, Nat.le_of_ble_eq_true rfl⟩) ?_
              refine z_tv (v := nI N) rfl ?_
              refine lv_aload_n hx hb dL_isRound_286 rfl (lv_at hl 0 rfl) ?_
              refine z_cRi (va_runV (As := []) (rest := [.int (nI N), .int (nI (N - N % u))]) ⟨hx, hb, hml, hown, hts⟩ (c_today l dC dI cI cZ cH cJ x0 xq (nI N) xg had hg (zup σ ca (hIt (hOpen (σ ca) 0 (nI N)) (nI N) (zpn (zlf (hZ (σ ca)) mm 0))))) (cwV 0 hts gL_isRound_X3_today rfl rfl rfl (by decide +kernel) ⟨Nat.le_of_ble_eq_true rfl, Nat.le_of_ble_eq_true rfl⟩) (zPreR1 hK (zP_r hP) (zrecv hK (zP_r hP))) rfl rfl hl.1 rfl (lv_room (Nat.le_of_ble_eq_true rfl)) dL_isRound_287 ⟨Nat.le_of_ble_eq_true rfl, Nat.le_of_ble_eq_true rfl⟩) ?_
              refine z_tv (v := nI N) rfl ?_
              refine lv_aload_n hx hb dL_isRound_290 rfl (lv_at hl 1 rfl) ?_
              refine lv_iconst (v := 4) hx hb dL_isRound_291 (by decide) ?_
              refine lv_iload hx hb dL_isRound_292 (lv_at hl 2 rfl) ?_
              refine lv_imul hx hb dL_isRound_294 ?_
              refine z_tv (v := nI (4 * ca)) (pk_mul 4 ca) ?_
              refine z_iald hx hb hK hP 2 rfl (zix_nI (by first | assumption | omega) (by decide)) dL_isRound_295 ?_
              refine z_tv (v := (upd fg ((4 * ca) + 2) 0) (4 * ca)) (rfl) ?_
              refine z_tv (v := nI u) ((pk_un (by omega)).trans hg0) ?_
              refine lv_irem hx hb dL_isRound_296 (nI_ne0 (by omega) (by omega)) ?_
              refine z_tv (v := nI (N % u)) (pk_rem (by omega) (by omega) (by omega)) ?_
              refine lv_isub hx hb dL_isRound_297 ?_
              refine z_tv (v := nI (N - N % u)) (pk_sub (Nat.mod_le N u)) ?_
              refine lv_icmp_ne (tgt := 319) hx hb dL_isRound_298 (by decide) (fun c_298 => absurd c_298 (fun h => h rfl)) (fun c_298 => ?_)
              refine lv_iload hx hb dL_isRound_301 (lv_at hl 3 rfl) ?_
              refine lv_if_eq (tgt := 315) hx hb dL_isRound_303 (by decide) (fun c_303 => ?_) (fun c_303 => absurd c_303 (by decide))
              refine lv_iconst (v := 1) hx hb dL_isRound_315 (by decide) ?_
              refine lv_goto (tgt := 320) hx hb dL_isRound_316 (by decide) ?_
              have hP := zP_eq (ws' := [(ay, .inl (cI, 60, .inl fy)), (az, .inl (cI, 60, .inl (zrz fy fz 0 mm (20 * ca) 20))), (ag, .inl (cI, 12, .inl (upd fg (4 * ca + 2) 0)))] ++ zOb cI cZ cH x0 xq xg had (nI N) (zup σ ca (hRound (σ ca) 0 (nI N) mm))) hP (zw_t (zw_k (zw_k (zw_a (by first | rfl | assumption) (rfl)))) (rfl))
              have hD := zD_eq (ws' := [(ay, .inl (cI, 60, .inl fy)), (az, .inl (cI, 60, .inl (zrz fy fz 0 mm (20 * ca) 20))), (ag, .inl (cI, 12, .inl (upd fg (4 * ca + 2) 0)))] ++ zOb cI cZ cH x0 xq xg had (nI N) (zup σ ca (hRound (σ ca) 0 (nI N) mm))) hD (zw_t (zw_k (zw_k (zw_a (by first | rfl | assumption) (rfl)))) (rfl))
              exact W.zret (ty := .boolean) hx hb hr (rfl) (fun t ht hW => ⟨rfl, ⟨by rw [ht]; exact hP, hD⟩, hS.F ht⟩) hS.2.2 dL_isRound_320
            · skip
              have hpl : j < zpn (zlf (hZ (σ ca)) mm 0) := Classical.byContradiction (fun q => by rw [if_neg q] at c_171; exact c_171 rfl)
              refine lv_iload hx hb dL_isRound_174 (lv_at hl 6 rfl) ?_
              refine lv_bipush (v := 9) hx hb dL_isRound_176 (by decide) ?_
              refine lv_icmp_ge (tgt := 257) hx hb dL_isRound_178 (by decide) (fun c_178 => absurd c_178 (nI_ge (b := 9) (by omega) (by decide))) (fun c_178 => ?_)
              refine lv_aload_n hx hb dL_isRound_181 rfl (lv_at hl 0 rfl) ?_
              refine lv_iload hx hb dL_isRound_182 (lv_at hl 2 rfl) ?_
              refine z_cGi (wr := [(ay, .inl (cI, 60, .inl fy)), (az, .inl (cI, 60, .inl (zrz fy fz 0 mm (20 * ca) 20))), (ag, .inl (cI, 12, .inl fg))]) (big1 := [(ay, .inl (cI, 60, .inl fy)), (az, .inl (cI, 60, .inl (zrz fy fz 0 mm (20 * ca) 20))), (ag, .inl (cI, 12, .inl fg))] ++ zOb cI cZ cH x0 xq xg had (nI N) (zup (zup σ ca (hIt (hOpen (σ ca) 0 (nI N)) (nI N) j)) ca (hReadP ((zup σ ca (hIt (hOpen (σ ca) 0 (nI N)) (nI N) j)) ca) (nI N)).2)) (va_runV (As := [.int (nI ca)]) (rest := []) ⟨hx, hb, hml, hown, hts⟩ (c_read l dC dI cI cZ cH cJ x0 xq (nI N) xg had hg (zup σ ca (hIt (hOpen (σ ca) 0 (nI N)) (nI N) j)) ca (by first | assumption | omega) (by rw [zup_s, (hit j hi).1, if_pos hpl]; decide) (by rw [zup_s]; exact (hit j hi).2.1) H.size) (cwV 1 hts gL_isRound_X3_read rfl rfl rfl (by decide +kernel) ⟨Nat.le_of_ble_eq_true rfl, Nat.le_of_ble_eq_true rfl⟩) (zPreV1 hK (zP_r hP) (zD_r hD) (zrecv hK (zP_r hP))) rfl rfl hl.1 rfl (lv_room (Nat.le_of_ble_eq_true rfl)) dL_isRound_184 ⟨Nat.le_of_ble_eq_true rfl, Nat.le_of_ble_eq_true rfl⟩) hP hD hS hA (zeq_comm _ _) (zeq_comm _ _) (fun H locs hP hD hS => ?_)
              have hP : va_P (dC, dI) vwCl ([(ay, .inl (cI, 60, .inl fy)), (az, .inl (cI, 60, .inl (zrz fy fz 0 mm (20 * ca) 20))), (ag, .inl (cI, 12, .inl fg))] ++ zOb cI cZ cH x0 xq xg had (nI N) (zup (zup σ ca (hIt (hOpen (σ ca) 0 (nI N)) (nI N) j)) ca (hReadP ((zup σ ca (hIt (hOpen (σ ca) 0 (nI N)) (nI N) j)) ca) (nI N)).2)) H := hP
              have hD : va_D A ([(ay, .inl (cI, 60, .inl fy)), (az, .inl (cI, 60, .inl (zrz fy fz 0 mm (20 * ca) 20))), (ag, .inl (cI, 12, .inl fg))] ++ zOb cI cZ cH x0 xq xg had (nI N) (zup (zup σ ca (hIt (hOpen (σ ca) 0 (nI N)) (nI N) j)) ca (hReadP ((zup σ ca (hIt (hOpen (σ ca) 0 (nI N)) (nI N) j)) ca) (nI N)).2)) := hD
              refine z_tv (v := nI (min 3 (zlf (hZ (σ ca)) mm 0 - 3 * j))) (by rw [zup_s]; exact (hit j hi).2.2 hpl) ?_
              have hP := zP_eq (ws' := [(ay, .inl (cI, 60, .inl fy)), (az, .inl (cI, 60, .inl (zrz fy fz 0 mm (20 * ca) 20))), (ag, .inl (cI, 12, .inl fg))] ++ zOb cI cZ cH x0 xq xg had (nI N) (zup σ ca (hIt (hOpen (σ ca) 0 (nI N)) (nI N) (j + 1)))) hP (zw_t rfl (zOb_c (by rw [zup_u, zup_s]; rfl)))
              have hD := zD_eq (ws' := [(ay, .inl (cI, 60, .inl fy)), (az, .inl (cI, 60, .inl (zrz fy fz 0 mm (20 * ca) 20))), (ag, .inl (cI, 12, .inl fg))] ++ zOb cI cZ cH x0 xq xg had (nI N) (zup σ ca (hIt (hOpen (σ ca) 0 (nI N)) (nI N) (j + 1)))) hD (zw_t rfl (zOb_c (by rw [zup_u, zup_s]; rfl)))
              refine lv_istore (lv' := [(10, .int (nI (min 3 (zlf (hZ (σ ca)) mm 0 - 3 * j)))), (0, .ref x0), (3, .ref ag), (4, .int (nI ca)), (5, .int 0), (6, .int (nI mm)), (7, .int (nI (zlf (hZ (σ ca)) mm 0 - 3 * j))), (8, .int (nI j)), (9, .int 1)]) hx hb dL_isRound_187 hl (by decide) rfl (fun ls hl => ?_)
              refine lv_iload hx hb dL_isRound_189 (lv_at hl 0 rfl) ?_
              have J203_3 : ∀ (ls : Array Slot), lv_has ls 11 [(10, .int (nI (min 3 (zlf (hZ (σ ca)) mm 0 - 3 * j)))), (0, .ref x0), (3, .ref ag), (4, .int (nI ca)), (5, .int 0), (6, .int (nI mm)), (7, .int (nI (zlf (hZ (σ ca)) mm 0 - 3 * j))), (8, .int (nI j)), (9, .int 1)] → W p l e (headSpec wsL_isRound ({ frames := 5, cells := 0, slots := 0, locals := 115 })).room s m ([.ref x0, .ref ay, .ref az, .ref ag, .int (nI ca), .int 0] : List Value).toArray below meth c H locs 0 0 (MQ below (zQi dC dI 1 ([(ay, .inl (cI, 60, .inl fy)), (az, .inl (cI, 60, .inl (zrz fy fz 0 mm (20 * ca) 20))), (ag, .inl (cI, 12, .inl (upd fg (4 * ca + 2) 0)))] ++ zOb cI cZ cH x0 xq xg had (nI N) (zup σ ca (hRound (σ ca) 0 (nI N) mm))) A) ([.ref x0, .ref ay, .ref az, .ref ag, .int (nI ca), .int 0] : List Value).toArray s 0 0 A) (F0 m 203 ls [.int (nI (min 3 (zlf (hZ (σ ca)) mm 0 - 3 * j))), .int (nI (min 3 (zlf (hZ (σ ca)) mm 0 - 3 * j)))]) := by
                intro ls hl
                refine lv_icmp_ne (tgt := 210) hx hb dL_isRound_203 (by decide) (fun c_203 => absurd c_203 (fun h => h rfl)) (fun c_203 => ?_)
                refine lv_iconst (v := 1) hx hb dL_isRound_206 (by decide) ?_
                refine lv_goto (tgt := 211) hx hb dL_isRound_207 (by decide) ?_
                refine lv_istore (lv' := [(9, .int 1), (10, .int (nI (min 3 (zlf (hZ (σ ca)) mm 0 - 3 * j)))), (0, .ref x0), (3, .ref ag), (4, .int (nI ca)), (5, .int 0), (6, .int (nI mm)), (7, .int (nI (zlf (hZ (σ ca)) mm 0 - 3 * j))), (8, .int (nI j))]) hx hb dL_isRound_211 hl (by decide) rfl (fun ls hl => ?_)
                refine lv_iload hx hb dL_isRound_213 (lv_at hl 7 rfl) ?_
                refine lv_iload hx hb dL_isRound_215 (lv_at hl 1 rfl) ?_
                refine lv_isub hx hb dL_isRound_217 ?_
                refine z_tv (v := nI (zlf (hZ (σ ca)) mm 0 - 3 * (j + 1))) (zsub3 _ _) ?_
                refine lv_istore (lv' := [(7, .int (nI (zlf (hZ (σ ca)) mm 0 - 3 * (j + 1)))), (9, .int 1), (10, .int (nI (min 3 (zlf (hZ (σ ca)) mm 0 - 3 * j)))), (0, .ref x0), (3, .ref ag), (4, .int (nI ca)), (5, .int 0), (6, .int (nI mm)), (8, .int (nI j))]) hx hb dL_isRound_218 hl (by decide) rfl (fun ls hl => ?_)
                refine lv_iinc (v := nI (j + 1)) (lv' := [(8, .int (nI (j + 1))), (7, .int (nI (zlf (hZ (σ ca)) mm 0 - 3 * (j + 1)))), (9, .int 1), (10, .int (nI (min 3 (zlf (hZ (σ ca)) mm 0 - 3 * j)))), (0, .ref x0), (3, .ref ag), (4, .int (nI ca)), (5, .int 0), (6, .int (nI mm))]) hx hb dL_isRound_220 hl (k := 8) rfl (z_1) (by decide) rfl (fun ls hl => ?_)
                refine lv_iload hx hb dL_isRound_223 (lv_at hl 2 rfl) ?_
                refine lv_if_eq (tgt := 251) hx hb dL_isRound_225 (by decide) (fun c_225 => absurd c_225 (by decide)) (fun c_225 => ?_)
                refine lv_aload_n hx hb dL_isRound_228 rfl (lv_at hl 4 rfl) ?_
                refine lv_iload hx hb dL_isRound_229 (lv_at hl 6 rfl) ?_
                refine z_cRi (va_runV (As := [.int (nI ca)]) (rest := []) ⟨hx, hb, hml, hown, hts⟩ (c_isOpen l dC dI cI cZ cH cJ x0 xq (nI N) xg had hg (zup σ ca (hIt (hOpen (σ ca) 0 (nI N)) (nI N) (j + 1))) ca (by first | assumption | omega) (by rw [zup_s, (hit (j + 1) hpl).1]; split <;> decide)) (cwV 1 hts gL_isRound_X3_isOpen rfl rfl rfl (by decide +kernel) ⟨Nat.le_of_ble_eq_true rfl, Nat.le_of_ble_eq_true rfl⟩) (zPreR1 hK (zP_r hP) (zrecv hK (zP_r hP))) rfl rfl hl.1 rfl (lv_room (Nat.le_of_ble_eq_true rfl)) dL_isRound_231 ⟨Nat.le_of_ble_eq_true rfl, Nat.le_of_ble_eq_true rfl⟩) ?_
                refine z_tv (v := if j + 1 < zpn (zlf (hZ (σ ca)) mm 0) then 1 else 0) (by rw [zup_s]; exact (hit (j + 1) hpl).1) ?_
                have J244_4 : ∀ (ls : Array Slot), lv_has ls 11 [(8, .int (nI (j + 1))), (7, .int (nI (zlf (hZ (σ ca)) mm 0 - 3 * (j + 1)))), (9, .int 1), (10, .int (nI (min 3 (zlf (hZ (σ ca)) mm 0 - 3 * j)))), (0, .ref x0), (3, .ref ag), (4, .int (nI ca)), (5, .int 0), (6, .int (nI mm))] → W p l e (headSpec wsL_isRound ({ frames := 5, cells := 0, slots := 0, locals := 115 })).room s m ([.ref x0, .ref ay, .ref az, .ref ag, .int (nI ca), .int 0] : List Value).toArray below meth c H locs 0 0 (MQ below (zQi dC dI 1 ([(ay, .inl (cI, 60, .inl fy)), (az, .inl (cI, 60, .inl (zrz fy fz 0 mm (20 * ca) 20))), (ag, .inl (cI, 12, .inl (upd fg (4 * ca + 2) 0)))] ++ zOb cI cZ cH x0 xq xg had (nI N) (zup σ ca (hRound (σ ca) 0 (nI N) mm))) A) ([.ref x0, .ref ay, .ref az, .ref ag, .int (nI ca), .int 0] : List Value).toArray s 0 0 A) (F0 m 244 ls [.int (if j + 1 < zpn (zlf (hZ (σ ca)) mm 0) then 1 else 0), .int (if j + 1 < zpn (zlf (hZ (σ ca)) mm 0) then 1 else 0)]) := by
                  intro ls hl
                  refine lv_icmp_ne (tgt := 251) hx hb dL_isRound_244 (by decide) (fun c_244 => absurd c_244 (fun h => h rfl)) (fun c_244 => ?_)
                  refine lv_iconst (v := 1) hx hb dL_isRound_247 (by decide) ?_
                  refine lv_goto (tgt := 252) hx hb dL_isRound_248 (by decide) ?_
                  refine lv_istore (lv' := [(9, .int 1), (8, .int (nI (j + 1))), (7, .int (nI (zlf (hZ (σ ca)) mm 0 - 3 * (j + 1)))), (10, .int (nI (min 3 (zlf (hZ (σ ca)) mm 0 - 3 * j)))), (0, .ref x0), (3, .ref ag), (4, .int (nI ca)), (5, .int 0), (6, .int (nI mm))]) hx hb dL_isRound_252 hl (by decide) rfl (fun ls hl => ?_)
                  refine lv_goto (tgt := 160) hx hb dL_isRound_254 (by decide) ?_
                  exact ih2 (j + 1) (by omega) (by omega)  _ _ hP hD hS _ (lv_sub hl [4, 5, 6, 7, 8, 2, 1, 0] rfl)
                refine lv_iload hx hb dL_isRound_234 (lv_at hl 1 rfl) ?_
                refine lv_if_le (tgt := 243) hx hb dL_isRound_236 (by decide) (fun c_236 => ?_) (fun c_236 => ?_)
                · skip
                  refine lv_iconst (v := 0) hx hb dL_isRound_243 (by decide) ?_
                  refine z_tv (v := if j + 1 < zpn (zlf (hZ (σ ca)) mm 0) then 1 else 0) (by first | exact (if_pos ((zpn_lt hpl).mpr (Nat.pos_of_ne_zero (fun q => c_236 (by rw [q]; decide))))).symm | exact (if_neg (fun q => nI_nle ((zpn_lt hpl).mp q) (by omega) c_236)).symm) ?_
                  exact J244_4 _ (lv_sub hl [0, 1, 2, 3, 4, 5, 6, 7, 8] rfl)
                · skip
                  refine lv_iconst (v := 1) hx hb dL_isRound_239 (by decide) ?_
                  refine lv_goto (tgt := 244) hx hb dL_isRound_240 (by decide) ?_
                  refine z_tv (v := if j + 1 < zpn (zlf (hZ (σ ca)) mm 0) then 1 else 0) (by first | exact (if_pos ((zpn_lt hpl).mpr (Nat.pos_of_ne_zero (fun q => c_236 (by rw [q]; decide))))).symm | exact (if_neg (fun q => nI_nle ((zpn_lt hpl).mp q) (by omega) c_236)).symm) ?_
                  exact J244_4 _ (lv_sub hl [0, 1, 2, 3, 4, 5, 6, 7, 8] rfl)
              refine lv_iload hx hb dL_isRound_191 (lv_at hl 6 rfl) ?_
              refine lv_iconst (v := 3) hx hb dL_isRound_193 (by decide) ?_
              refine lv_icmp_ge (tgt := 202) hx hb dL_isRound_194 (by decide) (fun c_194 => ?_) (fun c_194 => ?_)
              · skip
                refine lv_iconst (v := 3) hx hb dL_isRound_202 (by decide) ?_
                refine z_tv (v := nI (min 3 (zlf (hZ (σ ca)) mm 0 - 3 * j))) (by first | exact zmin1 (by omega) c_194 | exact zmin2 (by omega) c_194) ?_
                exact J203_3 _ (lv_sub hl [0, 1, 2, 3, 4, 5, 6, 7, 8] rfl)
              · skip
                refine lv_iload hx hb dL_isRound_197 (lv_at hl 6 rfl) ?_
                refine lv_goto (tgt := 203) hx hb dL_isRound_199 (by decide) ?_
                refine z_tv (v := nI (min 3 (zlf (hZ (σ ca)) mm 0 - 3 * j))) (by first | exact zmin1 (by omega) c_194 | exact zmin2 (by omega) c_194) ?_
                exact J203_3 _ (lv_sub hl [0, 1, 2, 3, 4, 5, 6, 7, 8] rfl)
        exact LOOP2 (zpn (zlf (hZ (σ ca)) mm 0) + 1) 0 (by omega) (by omega)  _ _ (zP_eq hP (zw_t (rfl) (rfl))) (zD_eq hD (zw_t (rfl) (rfl))) hS _ (lv_cg (lv_sub (l' := [(0, .ref x0), (3, .ref ag), (4, .int (nI ca)), (5, .int 0), (6, .int (nI mm)), (7, .int (nI (zc (fun r => decide (0 < zq (hZ (σ ca)) mm r)) 20))), (8, .int 0), (9, .int 1)]) hl [1, 4, 5, 6, 7, 8, 9, 0] rfl) (zl_k (zl_k (zl_k (zl_k (zl_k (zl_c (rfl) (zl_c (rfl) (zl_k (rfl))))))))))
      · skip
        have hlt : i < 20 := z_lt20b hi (by omega) c_40
        have hyi := zfr_y (hCF.2 i hlt) hN
        have hqi := zin_q hCF hN hF5 hlt
        have J68_5 : ∀ (ls : Array Slot), lv_has ls 11 [(0, .ref x0), (1, .ref ay), (2, .ref az), (3, .ref ag), (4, .int (nI ca)), (5, .int 0), (6, .int (nI mm)), (7, .int (nI (zc (fun r => decide (0 < zq (hZ (σ ca)) mm r)) i))), (8, .int 0), (9, .int (nI (20 * ca + i)))] → W p l e (headSpec wsL_isRound ({ frames := 5, cells := 0, slots := 0, locals := 115 })).room s m ([.ref x0, .ref ay, .ref az, .ref ag, .int (nI ca), .int 0] : List Value).toArray below meth c H locs 0 0 (MQ below (zQi dC dI 1 ([(ay, .inl (cI, 60, .inl fy)), (az, .inl (cI, 60, .inl (zrz fy fz 0 mm (20 * ca) 20))), (ag, .inl (cI, 12, .inl (upd fg (4 * ca + 2) 0)))] ++ zOb cI cZ cH x0 xq xg had (nI N) (zup σ ca (hRound (σ ca) 0 (nI N) mm))) A) ([.ref x0, .ref ay, .ref az, .ref ag, .int (nI ca), .int 0] : List Value).toArray s 0 0 A) (F0 m 68 ls [.int (if 0 < zq (hZ (σ ca)) mm i then (1 : Int32) else 0)]) := by
          intro ls hl
          refine lv_istore (lv' := [(10, .int (if 0 < zq (hZ (σ ca)) mm i then (1 : Int32) else 0)), (0, .ref x0), (1, .ref ay), (2, .ref az), (3, .ref ag), (4, .int (nI ca)), (5, .int 0), (6, .int (nI mm)), (7, .int (nI (zc (fun r => decide (0 < zq (hZ (σ ca)) mm r)) i))), (8, .int 0), (9, .int (nI (20 * ca + i)))]) hx hb dL_isRound_68 hl (by decide) rfl (fun ls hl => ?_)
          refine lv_iload hx hb dL_isRound_70 (lv_at hl 8 rfl) ?_
          have J82_6 : ∀ (ls : Array Slot), lv_has ls 11 [(10, .int (if 0 < zq (hZ (σ ca)) mm i then (1 : Int32) else 0)), (0, .ref x0), (1, .ref ay), (2, .ref az), (3, .ref ag), (4, .int (nI ca)), (5, .int 0), (6, .int (nI mm)), (7, .int (nI (zc (fun r => decide (0 < zq (hZ (σ ca)) mm r)) i))), (8, .int 0), (9, .int (nI (20 * ca + i)))] → W p l e (headSpec wsL_isRound ({ frames := 5, cells := 0, slots := 0, locals := 115 })).room s m ([.ref x0, .ref ay, .ref az, .ref ag, .int (nI ca), .int 0] : List Value).toArray below meth c H locs 0 0 (MQ below (zQi dC dI 1 ([(ay, .inl (cI, 60, .inl fy)), (az, .inl (cI, 60, .inl (zrz fy fz 0 mm (20 * ca) 20))), (ag, .inl (cI, 12, .inl (upd fg (4 * ca + 2) 0)))] ++ zOb cI cZ cH x0 xq xg had (nI N) (zup σ ca (hRound (σ ca) 0 (nI N) mm))) A) ([.ref x0, .ref ay, .ref az, .ref ag, .int (nI ca), .int 0] : List Value).toArray s 0 0 A) (F0 m 82 ls [.int (if 0 < zq (hZ (σ ca)) mm i then (1 : Int32) else 0), .int (nI (zc (fun r => decide (0 < zq (hZ (σ ca)) mm r)) i))]) := by
            intro ls hl
            refine lv_iadd hx hb dL_isRound_82 ?_
            refine z_tv (v := nI (zc (fun r => decide (0 < zq (hZ (σ ca)) mm r)) (i + 1))) (zc_ad rfl) ?_
            refine lv_istore (lv' := [(7, .int (nI (zc (fun r => decide (0 < zq (hZ (σ ca)) mm r)) (i + 1)))), (10, .int (if 0 < zq (hZ (σ ca)) mm i then (1 : Int32) else 0)), (0, .ref x0), (1, .ref ay), (2, .ref az), (3, .ref ag), (4, .int (nI ca)), (5, .int 0), (6, .int (nI mm)), (8, .int 0), (9, .int (nI (20 * ca + i)))]) hx hb dL_isRound_83 hl (by decide) rfl (fun ls hl => ?_)
            refine lv_aload_n hx hb dL_isRound_85 rfl (lv_at hl 4 rfl) ?_
            refine lv_iload hx hb dL_isRound_86 (lv_at hl 10 rfl) ?_
            have J124_7 : ∀ (ls : Array Slot), lv_has ls 11 [(7, .int (nI (zc (fun r => decide (0 < zq (hZ (σ ca)) mm r)) (i + 1)))), (10, .int (if 0 < zq (hZ (σ ca)) mm i then (1 : Int32) else 0)), (0, .ref x0), (1, .ref ay), (2, .ref az), (3, .ref ag), (4, .int (nI ca)), (5, .int 0), (6, .int (nI mm)), (8, .int 0), (9, .int (nI (20 * ca + i)))] → W p l e (headSpec wsL_isRound ({ frames := 5, cells := 0, slots := 0, locals := 115 })).room s m ([.ref x0, .ref ay, .ref az, .ref ag, .int (nI ca), .int 0] : List Value).toArray below meth c H locs 0 0 (MQ below (zQi dC dI 1 ([(ay, .inl (cI, 60, .inl fy)), (az, .inl (cI, 60, .inl (zrz fy fz 0 mm (20 * ca) 20))), (ag, .inl (cI, 12, .inl (upd fg (4 * ca + 2) 0)))] ++ zOb cI cZ cH x0 xq xg had (nI N) (zup σ ca (hRound (σ ca) 0 (nI N) mm))) A) ([.ref x0, .ref ay, .ref az, .ref ag, .int (nI ca), .int 0] : List Value).toArray s 0 0 A) (F0 m 124 ls [.int (if 0 < zq (hZ (σ ca)) mm i then (if fy (20 * ca + i) < 0 then -1 else fy (20 * ca + i)) else fz (20 * ca + i)), .int (nI (20 * ca + i)), .ref az]) := by
              intro ls hl
              refine z_iast hx hb hK hP hD hS 1 rfl (zix_nI (by first | assumption | omega) (by decide)) dL_isRound_124 (fun H locs hP hD hS => ?_)
              have hP : va_P (dC, dI) vwCl ([(ay, .inl (cI, 60, .inl fy)), (az, .inl (cI, 60, .inl (upd (zrz fy fz 0 mm (20 * ca) i) (20 * ca + i) (if 0 < zq (hZ (σ ca)) mm i then (if fy (20 * ca + i) < 0 then -1 else fy (20 * ca + i)) else fz (20 * ca + i))))), (ag, .inl (cI, 12, .inl fg))] ++ zOb cI cZ cH x0 xq xg had (nI N) σ) H := hP
              have hD : va_D A ([(ay, .inl (cI, 60, .inl fy)), (az, .inl (cI, 60, .inl (upd (zrz fy fz 0 mm (20 * ca) i) (20 * ca + i) (if 0 < zq (hZ (σ ca)) mm i then (if fy (20 * ca + i) < 0 then -1 else fy (20 * ca + i)) else fz (20 * ca + i))))), (ag, .inl (cI, 12, .inl fg))] ++ zOb cI cZ cH x0 xq xg had (nI N) σ) := hD
              refine lv_iinc (v := nI (20 * ca + (i + 1))) (lv' := [(9, .int (nI (20 * ca + (i + 1)))), (7, .int (nI (zc (fun r => decide (0 < zq (hZ (σ ca)) mm r)) (i + 1)))), (10, .int (if 0 < zq (hZ (σ ca)) mm i then (1 : Int32) else 0)), (0, .ref x0), (1, .ref ay), (2, .ref az), (3, .ref ag), (4, .int (nI ca)), (5, .int 0), (6, .int (nI mm)), (8, .int 0)]) hx hb dL_isRound_125 hl (k := 10) rfl (z_1) (by decide) rfl (fun ls hl => ?_)
              refine lv_goto (tgt := 30) hx hb dL_isRound_128 (by decide) ?_
              exact ih1 (i + 1) (by omega) (by omega)  _ _ (zP_eq hP (zw_t (zw_k (zw_a (zrz_s (by grind)) (zw_k (rfl)))) (rfl))) (zD_eq hD (zw_t (zw_k (zw_a (zrz_s (by grind)) (zw_k (rfl)))) (rfl))) hS _ (lv_sub hl [3, 4, 5, 6, 7, 8, 9, 1, 10, 0] rfl)
            refine lv_iload hx hb dL_isRound_88 (lv_at hl 1 rfl) ?_
            refine lv_if_eq (tgt := 111) hx hb dL_isRound_90 (by decide) (fun c_90 => ?_) (fun c_90 => ?_)
            · skip
              refine lv_iload hx hb dL_isRound_111 (lv_at hl 7 rfl) ?_
              refine lv_if_eq (tgt := 120) hx hb dL_isRound_113 (by decide) (fun c_113 => ?_) (fun c_113 => absurd c_113 (by decide))
              refine lv_aload_n hx hb dL_isRound_120 rfl (lv_at hl 4 rfl) ?_
              refine lv_iload hx hb dL_isRound_121 (lv_at hl 10 rfl) ?_
              refine z_iald hx hb hK hP 1 rfl (zix_nI (by first | assumption | omega) (by decide)) dL_isRound_123 ?_
              refine z_tv (v := (zrz fy fz 0 mm (20 * ca) i) (20 * ca + i)) (rfl) ?_
              refine z_tv (v := fz (20 * ca + i)) (zrz_at) ?_
              refine z_tv (v := if 0 < zq (hZ (σ ca)) mm i then (if fy (20 * ca + i) < 0 then -1 else fy (20 * ca + i)) else fz (20 * ca + i)) (by grind) ?_
              exact J124_7 _ (lv_sub hl [0, 1, 2, 3, 4, 5, 6, 7, 8, 9, 10] rfl)
            · skip
              refine lv_aload_n hx hb dL_isRound_93 rfl (lv_at hl 3 rfl) ?_
              refine lv_iload hx hb dL_isRound_94 (lv_at hl 10 rfl) ?_
              refine z_iald hx hb hK hP 0 rfl (zix_nI (by first | assumption | omega) (by decide)) dL_isRound_96 ?_
              refine z_tv (v := fy (20 * ca + i)) (rfl) ?_
              refine lv_if_ge (tgt := 104) hx hb dL_isRound_97 (by decide) (fun c_97 => ?_) (fun c_97 => ?_)
              · skip
                refine lv_aload_n hx hb dL_isRound_104 rfl (lv_at hl 3 rfl) ?_
                refine lv_iload hx hb dL_isRound_105 (lv_at hl 10 rfl) ?_
                refine z_iald hx hb hK hP 0 rfl (zix_nI (by first | assumption | omega) (by decide)) dL_isRound_107 ?_
                refine z_tv (v := fy (20 * ca + i)) (rfl) ?_
                refine lv_goto (tgt := 124) hx hb dL_isRound_108 (by decide) ?_
                refine z_tv (v := if 0 < zq (hZ (σ ca)) mm i then (if fy (20 * ca + i) < 0 then -1 else fy (20 * ca + i)) else fz (20 * ca + i)) (by grind) ?_
                exact J124_7 _ (lv_sub hl [0, 1, 2, 3, 4, 5, 6, 7, 8, 9, 10] rfl)
              · skip
                refine lv_iconst (v := (-1)) hx hb dL_isRound_100 (by decide) ?_
                refine lv_goto (tgt := 124) hx hb dL_isRound_101 (by decide) ?_
                refine z_tv (v := if 0 < zq (hZ (σ ca)) mm i then (if fy (20 * ca + i) < 0 then -1 else fy (20 * ca + i)) else fz (20 * ca + i)) (by grind) ?_
                exact J124_7 _ (lv_sub hl [0, 1, 2, 3, 4, 5, 6, 7, 8, 9, 10] rfl)
          refine lv_iload hx hb dL_isRound_72 (lv_at hl 0 rfl) ?_
          refine lv_if_eq (tgt := 81) hx hb dL_isRound_74 (by decide) (fun c_74 => ?_) (fun c_74 => ?_)
          · skip
            refine lv_iconst (v := 0) hx hb dL_isRound_81 (by decide) ?_
            refine z_tv (v := if 0 < zq (hZ (σ ca)) mm i then (1 : Int32) else 0) (by grind) ?_
            exact J82_6 _ (lv_sub hl [0, 1, 2, 3, 4, 5, 6, 7, 8, 9, 10] rfl)
          · skip
            refine lv_iconst (v := 1) hx hb dL_isRound_77 (by decide) ?_
            refine lv_goto (tgt := 82) hx hb dL_isRound_78 (by decide) ?_
            refine z_tv (v := if 0 < zq (hZ (σ ca)) mm i then (1 : Int32) else 0) (by grind) ?_
            exact J82_6 _ (lv_sub hl [0, 1, 2, 3, 4, 5, 6, 7, 8, 9, 10] rfl)
        refine lv_aload_n hx hb dL_isRound_43 rfl (lv_at hl 1 rfl) ?_
        refine lv_iload hx hb dL_isRound_44 (lv_at hl 9 rfl) ?_
        refine z_iald hx hb hK hP 0 rfl (zix_nI (by first | assumption | omega) (by decide)) dL_isRound_46 ?_
        refine z_tv (v := fy (20 * ca + i)) (rfl) ?_
        refine lv_iconst (v := (-1)) hx hb dL_isRound_47 (by decide) ?_
        refine lv_icmp_eq (tgt := 67) hx hb dL_isRound_48 (by decide) (fun c_48 => ?_) (fun c_48 => ?_)
        · skip
          refine lv_iconst (v := 0) hx hb dL_isRound_67 (by decide) ?_
          refine z_tv (v := if 0 < zq (hZ (σ ca)) mm i then (1 : Int32) else 0) (by grind) ?_
          exact J68_5 _ (lv_sub hl [0, 1, 2, 3, 4, 5, 6, 7, 8, 9] rfl)
        · skip
          refine lv_aload_n hx hb dL_isRound_51 rfl (lv_at hl 1 rfl) ?_
          refine lv_iload hx hb dL_isRound_52 (lv_at hl 9 rfl) ?_
          refine z_iald hx hb hK hP 0 rfl (zix_nI (by first | assumption | omega) (by decide)) dL_isRound_54 ?_
          refine z_tv (v := fy (20 * ca + i)) (rfl) ?_
          refine z_cRi (va_runS (As := [.int (fy (20 * ca + i))]) (rest := []) ⟨hx, hb, hml, hown, hts⟩ (kL_stampOf l (fy (20 * ca + i))) (va_cwS 1 hts gL_isRound_L_stampOf rfl rfl rfl (by decide +kernel) ⟨Nat.le_of_ble_eq_true rfl, Nat.le_of_ble_eq_true rfl⟩) (zPre0) rfl rfl hl.1 rfl (lv_room (Nat.le_of_ble_eq_true rfl)) dL_isRound_55 ⟨Nat.le_of_ble_eq_true rfl, Nat.le_of_ble_eq_true rfl⟩) ?_
          refine z_tv (v := zso (fy (20 * ca + i))) rfl ?_
          refine lv_iload hx hb dL_isRound_58 (lv_at hl 6 rfl) ?_
          refine lv_icmp_lt (tgt := 67) hx hb dL_isRound_60 (by decide) (fun c_60 => ?_) (fun c_60 => ?_)
          · skip
            refine lv_iconst (v := 0) hx hb dL_isRound_67 (by decide) ?_
            refine z_tv (v := if 0 < zq (hZ (σ ca)) mm i then (1 : Int32) else 0) (by grind) ?_
            exact J68_5 _ (lv_sub hl [0, 1, 2, 3, 4, 5, 6, 7, 8, 9] rfl)
          · skip
            refine lv_iconst (v := 1) hx hb dL_isRound_63 (by decide) ?_
            refine lv_goto (tgt := 68) hx hb dL_isRound_64 (by decide) ?_
            refine z_tv (v := if 0 < zq (hZ (σ ca)) mm i then (1 : Int32) else 0) (by grind) ?_
            exact J68_5 _ (lv_sub hl [0, 1, 2, 3, 4, 5, 6, 7, 8, 9] rfl)
  exact LOOP1 (20 + 1) 0 (by omega) (by omega)  _ _ (zP_eq hP (zw_t (zw_k (zw_a (zrz_0) (zw_k (rfl)))) (rfl))) (zD_eq hD (zw_t (zw_k (zw_a (zrz_0) (zw_k (rfl)))) (rfl))) hS _ (lv_cg (lv_sub (l' := [(0, .ref x0), (1, .ref ay), (2, .ref az), (3, .ref ag), (4, .int (nI ca)), (5, .int 0), (6, .int (nI mm)), (7, .int 0), (8, .int 0), (9, .int (nI (20 * ca)))]) hl [4, 5, 6, 7, 8, 9, 3, 2, 1, 0] rfl) (zl_k (zl_k (zl_k (zl_k (zl_k (zl_k (zl_k (zl_c (rfl) (zl_k (zl_c (rfl) (rfl))))))))))))
