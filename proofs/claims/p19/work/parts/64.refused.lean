theorem zn_lo {q : Nat} {b : Int32} (h : q < 30) : ¬ zin (-1 - nI q) 0 b = 1 := fun k => by
  have h1 := (zin_ok k).1
  apply h1
  have e0 : (0 : Int32).toInt = 0 := by decide
  have e1 : (-1 : Int32).toInt = -1 := by decide
  rw [Int32.lt_iff_toInt_lt, Int32.toInt_sub, nI_toInt (by omega), e0, e1, Int.bmod_eq_of_le (by omega) (by omega)]
  omega
theorem zn_hi {q n : Nat} (h : n < q) (hq : q < 2 ^ 31) : ¬ zin (nI q) 0 (nI n) = 1 := fun k => nI_ge h hq (zin_ok k).2
theorem zn_p0 {q : Nat} (h : q < 30) : ¬ zin (0 - nI q) 1 100 = 1 := fun k => by
  have h1 := (zin_ok k).1
  apply h1
  have e0 : (0 : Int32).toInt = 0 := by decide
  have e1 : (1 : Int32).toInt = 1 := by decide
  rw [Int32.lt_iff_toInt_lt, Int32.toInt_sub, nI_toInt (by omega), e0, e1, Int.bmod_eq_of_le (by omega) (by omega)]
  omega
theorem zn_p1 {q : Nat} (hq : q < 30) : ¬ zin (nI (101 + q)) 1 100 = 1 := fun k => nI_ge (a := 100) (b := 101 + q) (by omega) (by omega) (zin_ok k).2
theorem zn_pa {N : Nat} (hN : N ≤ 5000) (h : ¬ nI N < 4901) : ¬ nI N + 100 ≤ 5000 := by
  have h1 : 4901 ≤ N := by
    rcases Nat.lt_or_ge N 4901 with g | g
    · exact absurd (nI_lt (a := N) (b := 4901) g (by decide)) h
    · exact g
  have e : nI N + 100 = nI (N + 100) := nI_add N 100
  rw [e]
  exact nI_ge (a := 5000) (b := N + 100) (by omega) (by omega)
theorem zk20 {ca i : Nat} (hi : i < 20) (hca : ca < 4) : nI (20 * ca + i) - nI (20 * ca + i) / 20 * 20 = nI i := by
  have h := pk_rem (a := 20 * ca + i) (d := 20) (by omega) (by decide) (by decide)
  rw [show (20 * ca + i) % 20 = i by omega] at h
  exact h
set_option maxHeartbeats 8000000 in
set_option maxRecDepth 100000 in
/-- isRefused_lo -/
theorem kL_isRefused_lo (l : Launch) (dC : Nat → ClassId) (dI : Nat → Nat → Nat) (cI cZ cH cJ : ClassId) (x0 : Nat) (xq : Nat) (xg : Nat → Option Nat) (had : Nat → Nat → Nat) (hg : ∀ i, i < 4 → xg i = some (had i 0)) (σ : Nat → zHS) (N : Nat) (hN : N ≤ 5000) (ay : Nat) (ag : Nat) (fy : zI) (fg : zI) (ca : Nat) (hc3 : ca < 3) (X : Nat) (hX : X < 2 ^ 31) (hpar : X % 2 = 0) (hcX : X / 2 % 3 = ca) (hho : ∀ c, c < 4 → hHo (σ c) = 0 ∨ hHo (σ c) = 1) (hyr : ∀ r, r < 20 → 0 ≤ fy (20 * ca + r) ∨ hFT (σ ca) r = 0) (hgo : fg (4 * ca + 2) = 0) (hop : hHo (σ ca) = 0) (hst : l.stackTraces = false) : Met l yL_isRefused wsL_isRefused ({ frames := 10, cells := 44, slots := 264, locals := 183 }) (zYc dC dI (zTy cI cZ cH cJ) [.ref x0, .ref ay, .ref ag, .int (nI X)] ([(ay, .inl (cI, 60, .inl fy)), (ag, .inl (cI, 12, .inl fg))] ++ zOb cI cZ cH x0 xq xg had (nI N) σ)) (zSg 1) 44 264 (fun _ => False) := by
  refine Met.ofW (cc := cL_isRefused) (maxL := 12) (ret := (some .boolean)) (by decide) rfl ?_
  intro p e s m args below meth c s₁ B hml hv0
  obtain ⟨rfl, ⟨hT, hNc⟩, hP, hK⟩ := hv0
  have hx := B.exec
  have hb := B.bytes
  have hr := B.returns
  have hts := atoms_spec (ws := wsL_isRefused) B.pre
  have hown : s.vm.findClass RL = some m.cls := findClass_of_methodNamed B.named
  have hlocks := B.notSynchronized
  have hS : va_S (fun q : Nat => s.heap.size ≤ q) s.heap s.heap [] := va_S.rf
  have hA : ∀ q : Nat, s.heap.size ≤ q → (fun q : Nat => s.heap.size ≤ q) q := fun q h => h
  obtain ⟨hT1, hT2, hT3, hT4⟩ := hT
  have hT5 := hNc
  have hz1 : s.heap.size ≤ s.heap.size := Nat.le_refl _
  have hk1 : ∀ q : Nat, q < s.heap.size → s.heap[q]? = s.heap[q]? := fun _ _ => rfl
  have hl := lv_entry ([.ref x0, .ref ay, .ref ag, .int (nI X)]) (n := 12) (Nat.le_of_ble_eq_true rfl)
  rw [lg_entry_eq]
  generalize (lg_sl ([.ref x0, .ref ay, .ref ag, .int (nI X)]) ++ List.replicate (12 - (lg_sl ([.ref x0, .ref ay, .ref ag, .int (nI X)])).length) Slot.unset).toArray = ls at hl ⊢
  have hl : lv_has ls 12 [(0, .ref x0), (1, .ref ay), (2, .ref ag), (3, .int (nI X))] := hl
  have hca : ca < 4 := by omega
  have h30 : X % 30 < 30 := Nat.mod_lt _ (by decide)
  have F4 : ¬ zin (-1 - nI (X % 30)) 0 3 = 1 := zn_lo h30
  have FT : ¬ zin (-1 - nI (X % 30)) 0 19 = 1 := zn_lo h30
  have F9 : ¬ zin (-1 - nI (X % 30)) 0 9 = 1 := zn_lo h30
  have FP : ¬ zin (0 - nI (X % 30)) 1 100 = 1 := zn_p0 h30
  refine lv_iload_n hx hb dL_isRefused_0 rfl (lv_at hl 3 rfl) ?_
  refine lv_iconst (v := 2) hx hb dL_isRefused_1 (by decide) ?_
  refine lv_irem hx hb dL_isRefused_2 (by decide) ?_
  refine z_tv (v := 0) ((pk_rem (d := 2) hX (by decide) (by decide)).trans (congrArg nI hpar)) ?_
  refine lv_if_ne (tgt := 10) hx hb dL_isRefused_3 (by decide) (fun c_3 => absurd c_3 (by decide)) (fun c_3 => ?_)
  refine lv_iconst (v := 1) hx hb dL_isRefused_6 (by decide) ?_
  refine lv_goto (tgt := 11) hx hb dL_isRefused_7 (by decide) ?_
  refine lv_istore (lv' := [(4, .int 1), (0, .ref x0), (1, .ref ay), (2, .ref ag), (3, .int (nI X))]) hx hb dL_isRefused_11 hl (by decide) rfl (fun ls hl => ?_)
  refine lv_iload hx hb dL_isRefused_13 (lv_at hl 0 rfl) ?_
  refine lv_if_eq (tgt := 27) hx hb dL_isRefused_15 (by decide) (fun c_15 => absurd c_15 (by decide)) (fun c_15 => ?_)
  refine lv_iconst (v := (-1)) hx hb dL_isRefused_18 (by decide) ?_
  refine lv_iload_n hx hb dL_isRefused_19 rfl (lv_at hl 4 rfl) ?_
  refine lv_bipush (v := 30) hx hb dL_isRefused_20 (by decide) ?_
  refine lv_irem hx hb dL_isRefused_22 (by decide) ?_
  refine z_tv (v := nI (X % 30)) (pk_rem (d := 30) hX (by decide) (by decide)) ?_
  refine lv_isub hx hb dL_isRefused_23 ?_
  refine lv_goto (tgt := 33) hx hb dL_isRefused_24 (by decide) ?_
  refine lv_istore (lv' := [(5, .int ((-1) - (nI (X % 30)))), (4, .int 1), (0, .ref x0), (1, .ref ay), (2, .ref ag), (3, .int (nI X))]) hx hb dL_isRefused_33 hl (by decide) rfl (fun ls hl => ?_)
  refine lv_iload hx hb dL_isRefused_35 (lv_at hl 1 rfl) ?_
  refine lv_if_eq (tgt := 49) hx hb dL_isRefused_37 (by decide) (fun c_37 => absurd c_37 (by decide)) (fun c_37 => ?_)
  refine lv_iconst (v := (-1)) hx hb dL_isRefused_40 (by decide) ?_
  refine lv_iload_n hx hb dL_isRefused_41 rfl (lv_at hl 5 rfl) ?_
  refine lv_bipush (v := 30) hx hb dL_isRefused_42 (by decide) ?_
  refine lv_irem hx hb dL_isRefused_44 (by decide) ?_
  refine z_tv (v := nI (X % 30)) (pk_rem (d := 30) hX (by decide) (by decide)) ?_
  refine lv_isub hx hb dL_isRefused_45 ?_
  refine lv_goto (tgt := 56) hx hb dL_isRefused_46 (by decide) ?_
  refine lv_istore (lv' := [(6, .int ((-1) - (nI (X % 30)))), (5, .int ((-1) - (nI (X % 30)))), (4, .int 1), (0, .ref x0), (1, .ref ay), (2, .ref ag), (3, .int (nI X))]) hx hb dL_isRefused_56 hl (by decide) rfl (fun ls hl => ?_)
  refine lv_iload_n hx hb dL_isRefused_58 rfl (lv_at hl 6 rfl) ?_
  refine lv_iconst (v := 2) hx hb dL_isRefused_59 (by decide) ?_
  refine lv_idiv hx hb dL_isRefused_60 (by decide) ?_
  refine z_tv (v := nI (X / 2)) (pk_div (d := 2) hX (by decide) (by decide)) ?_
  refine lv_iconst (v := 3) hx hb dL_isRefused_61 (by decide) ?_
  refine lv_irem hx hb dL_isRefused_62 (by decide) ?_
  refine z_tv (v := nI ca) ((pk_rem (a := X / 2) (d := 3) (by omega) (by decide) (by decide)).trans (congrArg nI hcX)) ?_
  refine lv_istore (lv' := [(7, .int (nI ca)), (6, .int ((-1) - (nI (X % 30)))), (5, .int ((-1) - (nI (X % 30)))), (4, .int 1), (0, .ref x0), (1, .ref ay), (2, .ref ag), (3, .int (nI X))]) hx hb dL_isRefused_63 hl (by decide) rfl (fun ls hl => ?_)
  refine lv_aload_n hx hb dL_isRefused_65 rfl (lv_at hl 4 rfl) ?_
  refine z_cRl (va_runS (As := [.ref x0]) (rest := []) ⟨hx, hb, hml, hown, hts⟩ (kL_all l dC dI cI cZ cH cJ x0 xq (nI N) xg had hg σ (by first | assumption | omega)) (va_cwS 1 hts gL_isRefused_L_all rfl rfl rfl (by decide +kernel) ⟨Nat.le_of_ble_eq_true rfl, Nat.le_of_ble_eq_true rfl⟩) (zPreRS1 hK (zP_r hP)) rfl rfl hl.1 rfl (lv_room (Nat.le_of_ble_eq_true rfl)) dL_isRefused_66 ⟨show _ ≤ 44 by omega, show _ ≤ 264 by omega⟩) ?_
  refine lv_lstore (lv' := [(8, .long (zall (nI N) σ 4)), (7, .int (nI ca)), (6, .int ((-1) - (nI (X % 30)))), (5, .int ((-1) - (nI (X % 30)))), (4, .int 1), (0, .ref x0), (1, .ref ay), (2, .ref ag), (3, .int (nI X))]) hx hb dL_isRefused_69 hl (by decide) rfl (fun ls hl => ?_)
  refine lv_aload_n hx hb dL_isRefused_71 rfl (lv_at hl 5 rfl) ?_
  refine lv_iconst (v := 0) hx hb dL_isRefused_72 (by decide) ?_
  refine lv_iload hx hb dL_isRefused_73 (lv_at hl 3 rfl) ?_
  refine lv_iconst (v := 1) hx hb dL_isRefused_75 (by decide) ?_
  refine lv_iconst (v := 0) hx hb dL_isRefused_76 (by decide) ?_
  refine lv_iconst (v := 0) hx hb dL_isRefused_77 (by decide) ?_
  refine z_cG (vx_runSW (As := [.ref x0, .int 0, .int ((-1) - (nI (X % 30))), .int 1, .int 0, .int 0]) (rest := []) ⟨hx, hb, hml, hown, hts⟩ (kL_far_b0 l dC dI cI cZ cH cJ x0 xq (nI N) xg had hg σ ((-1) - (nI (X % 30))) 1 0 0 (fun k => F4 k.1) hst) (vx_cwSW 6 hts gL_isRefused_L_far rfl rfl rfl (by decide +kernel) ⟨Nat.le_of_ble_eq_true rfl, Nat.le_of_ble_eq_true rfl⟩) (zPreY1 hS hA hT1 hT2 hT3 hT4 hT5 hK (zP_r hP)) rfl rfl hl.1 rfl (lv_room (Nat.le_of_ble_eq_true rfl)) dL_isRefused_78 ⟨show _ ≤ 44 by omega, show _ ≤ 264 by omega⟩) hS (fun H hz1 hk1 hS => ?_)
  have hP := z_kept hP hk1
  have hP : va_P (dC, dI) vwCl ([(ay, .inl (cI, 60, .inl fy)), (ag, .inl (cI, 12, .inl fg))] ++ zOb cI cZ cH x0 xq xg had (nI N) σ) H := hP
  refine z_tv (v := (-992)) rfl ?_
  refine lv_sipush (v := (-992)) hx hb dL_isRefused_81 (by decide) ?_
  refine lv_icmp_ne (tgt := 369) hx hb dL_isRefused_84 (by decide) (fun c_84 => absurd c_84 (by decide)) (fun c_84 => ?_)
  refine lv_aload_n hx hb dL_isRefused_87 rfl (lv_at hl 5 rfl) ?_
  refine lv_iconst (v := 0) hx hb dL_isRefused_88 (by decide) ?_
  refine lv_iload hx hb dL_isRefused_89 (lv_at hl 1 rfl) ?_
  refine lv_iload hx hb dL_isRefused_91 (lv_at hl 4 rfl) ?_
  refine lv_if_eq (tgt := 100) hx hb dL_isRefused_93 (by decide) (fun c_93 => absurd c_93 (by decide)) (fun c_93 => ?_)
  refine lv_iconst (v := 0) hx hb dL_isRefused_96 (by decide) ?_
  refine lv_goto (tgt := 102) hx hb dL_isRefused_97 (by decide) ?_
  refine lv_iconst (v := 0) hx hb dL_isRefused_102 (by decide) ?_
  refine lv_iconst (v := 0) hx hb dL_isRefused_103 (by decide) ?_
  refine z_cG (vx_runSW (As := [.ref x0, .int 0, .int (nI ca), .int 0, .int 0, .int 0]) (rest := []) ⟨hx, hb, hml, hown, hts⟩ (kL_far_b0 l dC dI cI cZ cH cJ x0 xq (nI N) xg had hg σ (nI ca) 0 0 0 (fun k => absurd k.2.1 (by decide)) hst) (vx_cwSW 6 hts gL_isRefused_L_far rfl rfl rfl (by decide +kernel) ⟨Nat.le_of_ble_eq_true rfl, Nat.le_of_ble_eq_true rfl⟩) (zPreY1 hS hA hT1 hT2 hT3 hT4 hT5 hK (zP_r hP)) rfl rfl hl.1 rfl (lv_room (Nat.le_of_ble_eq_true rfl)) dL_isRefused_104 ⟨show _ ≤ 44 by omega, show _ ≤ 264 by omega⟩) hS (fun H hz1 hk1 hS => ?_)
  have hP := z_kept hP hk1
  have hP : va_P (dC, dI) vwCl ([(ay, .inl (cI, 60, .inl fy)), (ag, .inl (cI, 12, .inl fg))] ++ zOb cI cZ cH x0 xq xg had (nI N) σ) H := hP
  refine z_tv (v := (-992)) rfl ?_
  refine lv_sipush (v := (-992)) hx hb dL_isRefused_107 (by decide) ?_
  refine lv_icmp_ne (tgt := 369) hx hb dL_isRefused_110 (by decide) (fun c_110 => absurd c_110 (by decide)) (fun c_110 => ?_)
  refine lv_aload_n hx hb dL_isRefused_113 rfl (lv_at hl 5 rfl) ?_
  refine lv_iconst (v := 0) hx hb dL_isRefused_114 (by decide) ?_
  refine lv_iload hx hb dL_isRefused_115 (lv_at hl 1 rfl) ?_
  refine lv_iconst (v := 1) hx hb dL_isRefused_117 (by decide) ?_
  refine lv_iload hx hb dL_isRefused_118 (lv_at hl 4 rfl) ?_
  refine lv_if_eq (tgt := 127) hx hb dL_isRefused_120 (by decide) (fun c_120 => absurd c_120 (by decide)) (fun c_120 => ?_)
  refine lv_iconst (v := (-1)) hx hb dL_isRefused_123 (by decide) ?_
  refine lv_goto (tgt := 128) hx hb dL_isRefused_124 (by decide) ?_
  refine lv_iconst (v := 0) hx hb dL_isRefused_128 (by decide) ?_
  refine z_cG (vx_runSW (As := [.ref x0, .int 0, .int (nI ca), .int 1, .int (-1), .int 0]) (rest := []) ⟨hx, hb, hml, hown, hts⟩ (kL_far_b0 l dC dI cI cZ cH cJ x0 xq (nI N) xg had hg σ (nI ca) 1 (-1) 0 (fun k => absurd k.2.2 (by decide)) hst) (vx_cwSW 6 hts gL_isRefused_L_far rfl rfl rfl (by decide +kernel) ⟨Nat.le_of_ble_eq_true rfl, Nat.le_of_ble_eq_true rfl⟩) (zPreY1 hS hA hT1 hT2 hT3 hT4 hT5 hK (zP_r hP)) rfl rfl hl.1 rfl (lv_room (Nat.le_of_ble_eq_true rfl)) dL_isRefused_129 ⟨show _ ≤ 44 by omega, show _ ≤ 264 by omega⟩) hS (fun H hz1 hk1 hS => ?_)
  have hP := z_kept hP hk1
  have hP : va_P (dC, dI) vwCl ([(ay, .inl (cI, 60, .inl fy)), (ag, .inl (cI, 12, .inl fg))] ++ zOb cI cZ cH x0 xq xg had (nI N) σ) H := hP
  refine z_tv (v := (-992)) rfl ?_
  refine lv_sipush (v := (-992)) hx hb dL_isRefused_132 (by decide) ?_
  refine lv_icmp_ne (tgt := 369) hx hb dL_isRefused_135 (by decide) (fun c_135 => absurd c_135 (by decide)) (fun c_135 => ?_)
  refine lv_aload_n hx hb dL_isRefused_138 rfl (lv_at hl 5 rfl) ?_
  refine lv_iconst (v := 1) hx hb dL_isRefused_139 (by decide) ?_
  refine lv_iload hx hb dL_isRefused_140 (lv_at hl 3 rfl) ?_
  refine lv_iconst (v := 0) hx hb dL_isRefused_142 (by decide) ?_
  refine lv_iconst (v := 0) hx hb dL_isRefused_143 (by decide) ?_
  refine lv_iconst (v := 0) hx hb dL_isRefused_144 (by decide) ?_
  refine z_cG (vx_runSW (As := [.ref x0, .int 1, .int ((-1) - (nI (X % 30))), .int 0, .int 0, .int 0]) (rest := []) ⟨hx, hb, hml, hown, hts⟩ (kL_far_b1 l dC dI cI cZ cH cJ x0 xq (nI N) xg had hg σ ((-1) - (nI (X % 30))) 0 0 0 (fun k => F4 k.1) hst) (vx_cwSW 6 hts gL_isRefused_L_far rfl rfl rfl (by decide +kernel) ⟨Nat.le_of_ble_eq_true rfl, Nat.le_of_ble_eq_true rfl⟩) (zPreY1 hS hA hT1 hT2 hT3 hT4 hT5 hK (zP_r hP)) rfl rfl hl.1 rfl (lv_room (Nat.le_of_ble_eq_true rfl)) dL_isRefused_145 ⟨show _ ≤ 44 by omega, show _ ≤ 264 by omega⟩) hS (fun H hz1 hk1 hS => ?_)
  have hP := z_kept hP hk1
  have hP : va_P (dC, dI) vwCl ([(ay, .inl (cI, 60, .inl fy)), (ag, .inl (cI, 12, .inl fg))] ++ zOb cI cZ cH x0 xq xg had (nI N) σ) H := hP
  refine z_tv (v := (-992)) rfl ?_
  refine lv_sipush (v := (-992)) hx hb dL_isRefused_148 (by decide) ?_
  refine lv_icmp_ne (tgt := 369) hx hb dL_isRefused_151 (by decide) (fun c_151 => absurd c_151 (by decide)) (fun c_151 => ?_)
  refine lv_aload_n hx hb dL_isRefused_154 rfl (lv_at hl 5 rfl) ?_
  refine lv_iconst (v := 1) hx hb dL_isRefused_155 (by decide) ?_
  refine lv_iload hx hb dL_isRefused_156 (lv_at hl 1 rfl) ?_
  refine lv_iload hx hb dL_isRefused_158 (lv_at hl 2 rfl) ?_
  refine lv_iconst (v := 0) hx hb dL_isRefused_160 (by decide) ?_
  refine lv_iconst (v := 0) hx hb dL_isRefused_161 (by decide) ?_
  refine z_cG (vx_runSW (As := [.ref x0, .int 1, .int (nI ca), .int ((-1) - (nI (X % 30))), .int 0, .int 0]) (rest := []) ⟨hx, hb, hml, hown, hts⟩ (kL_far_b1 l dC dI cI cZ cH cJ x0 xq (nI N) xg had hg σ (nI ca) ((-1) - (nI (X % 30))) 0 0 (fun k => FT k.2.1) hst) (vx_cwSW 6 hts gL_isRefused_L_far rfl rfl rfl (by decide +kernel) ⟨Nat.le_of_ble_eq_true rfl, Nat.le_of_ble_eq_true rfl⟩) (zPreY1 hS hA hT1 hT2 hT3 hT4 hT5 hK (zP_r hP)) rfl rfl hl.1 rfl (lv_room (Nat.le_of_ble_eq_true rfl)) dL_isRefused_162 ⟨show _ ≤ 44 by omega, show _ ≤ 264 by omega⟩) hS (fun H hz1 hk1 hS => ?_)
  have hP := z_kept hP hk1
  have hP : va_P (dC, dI) vwCl ([(ay, .inl (cI, 60, .inl fy)), (ag, .inl (cI, 12, .inl fg))] ++ zOb cI cZ cH x0 xq xg had (nI N) σ) H := hP
  refine z_tv (v := (-992)) rfl ?_
  refine lv_sipush (v := (-992)) hx hb dL_isRefused_165 (by decide) ?_
  refine lv_icmp_ne (tgt := 369) hx hb dL_isRefused_168 (by decide) (fun c_168 => absurd c_168 (by decide)) (fun c_168 => ?_)
  refine lv_aload_n hx hb dL_isRefused_171 rfl (lv_at hl 5 rfl) ?_
  refine lv_iconst (v := 1) hx hb dL_isRefused_172 (by decide) ?_
  refine lv_iload hx hb dL_isRefused_173 (lv_at hl 1 rfl) ?_
  refine lv_iconst (v := 0) hx hb dL_isRefused_175 (by decide) ?_
  refine lv_iload hx hb dL_isRefused_176 (lv_at hl 4 rfl) ?_
  refine lv_if_eq (tgt := 185) hx hb dL_isRefused_178 (by decide) (fun c_178 => absurd c_178 (by decide)) (fun c_178 => ?_)
  refine lv_iconst (v := (-1)) hx hb dL_isRefused_181 (by decide) ?_
  refine lv_goto (tgt := 187) hx hb dL_isRefused_182 (by decide) ?_
  refine lv_iconst (v := 0) hx hb dL_isRefused_187 (by decide) ?_
  refine z_cG (vx_runSW (As := [.ref x0, .int 1, .int (nI ca), .int 0, .int (-1), .int 0]) (rest := []) ⟨hx, hb, hml, hown, hts⟩ (kL_far_b1 l dC dI cI cZ cH cJ x0 xq (nI N) xg had hg σ (nI ca) 0 (-1) 0 (fun k => absurd k.2.2.1 (by decide)) hst) (vx_cwSW 6 hts gL_isRefused_L_far rfl rfl rfl (by decide +kernel) ⟨Nat.le_of_ble_eq_true rfl, Nat.le_of_ble_eq_true rfl⟩) (zPreY1 hS hA hT1 hT2 hT3 hT4 hT5 hK (zP_r hP)) rfl rfl hl.1 rfl (lv_room (Nat.le_of_ble_eq_true rfl)) dL_isRefused_188 ⟨show _ ≤ 44 by omega, show _ ≤ 264 by omega⟩) hS (fun H hz1 hk1 hS => ?_)
  have hP := z_kept hP hk1
  have hP : va_P (dC, dI) vwCl ([(ay, .inl (cI, 60, .inl fy)), (ag, .inl (cI, 12, .inl fg))] ++ zOb cI cZ cH x0 xq xg had (nI N) σ) H := hP
  refine z_tv (v := (-992)) rfl ?_
  refine lv_sipush (v := (-992)) hx hb dL_isRefused_191 (by decide) ?_
  refine lv_icmp_ne (tgt := 369) hx hb dL_isRefused_194 (by decide) (fun c_194 => absurd c_194 (by decide)) (fun c_194 => ?_)
  refine lv_aload_n hx hb dL_isRefused_197 rfl (lv_at hl 5 rfl) ?_
  refine lv_iconst (v := 1) hx hb dL_isRefused_198 (by decide) ?_
  refine lv_iload hx hb dL_isRefused_199 (lv_at hl 1 rfl) ?_
  refine lv_iconst (v := 0) hx hb dL_isRefused_201 (by decide) ?_
  refine lv_iconst (v := 0) hx hb dL_isRefused_202 (by decide) ?_
  refine lv_iload hx hb dL_isRefused_203 (lv_at hl 4 rfl) ?_
  refine lv_if_eq (tgt := 212) hx hb dL_isRefused_205 (by decide) (fun c_205 => absurd c_205 (by decide)) (fun c_205 => ?_)
  refine lv_iconst (v := (-1)) hx hb dL_isRefused_208 (by decide) ?_
  refine lv_goto (tgt := 215) hx hb dL_isRefused_209 (by decide) ?_
  refine z_cG (vx_runSW (As := [.ref x0, .int 1, .int (nI ca), .int 0, .int 0, .int (-1)]) (rest := []) ⟨hx, hb, hml, hown, hts⟩ (kL_far_b1 l dC dI cI cZ cH cJ x0 xq (nI N) xg had hg σ (nI ca) 0 0 (-1) (fun k => absurd k.2.2.2 (by decide)) hst) (vx_cwSW 6 hts gL_isRefused_L_far rfl rfl rfl (by decide +kernel) ⟨Nat.le_of_ble_eq_true rfl, Nat.le_of_ble_eq_true rfl⟩) (zPreY1 hS hA hT1 hT2 hT3 hT4 hT5 hK (zP_r hP)) rfl rfl hl.1 rfl (lv_room (Nat.le_of_ble_eq_true rfl)) dL_isRefused_215 ⟨show _ ≤ 44 by omega, show _ ≤ 264 by omega⟩) hS (fun H hz1 hk1 hS => ?_)
  have hP := z_kept hP hk1
  have hP : va_P (dC, dI) vwCl ([(ay, .inl (cI, 60, .inl fy)), (ag, .inl (cI, 12, .inl fg))] ++ zOb cI cZ cH x0 xq xg had (nI N) σ) H := hP
  refine z_tv (v := (-992)) rfl ?_
  refine lv_sipush (v := (-992)) hx hb dL_isRefused_218 (by decide) ?_
  refine lv_icmp_ne (tgt := 369) hx hb dL_isRefused_221 (by decide) (fun c_221 => absurd c_221 (by decide)) (fun c_221 => ?_)
  refine lv_aload_n hx hb dL_isRefused_224 rfl (lv_at hl 5 rfl) ?_
  refine lv_iconst (v := 2) hx hb dL_isRefused_225 (by decide) ?_
  refine lv_iload hx hb dL_isRefused_226 (lv_at hl 3 rfl) ?_
  refine lv_iconst (v := 0) hx hb dL_isRefused_228 (by decide) ?_
  refine lv_iconst (v := 0) hx hb dL_isRefused_229 (by decide) ?_
  refine lv_iconst (v := 0) hx hb dL_isRefused_230 (by decide) ?_
  refine z_cG (vx_runSW (As := [.ref x0, .int 2, .int ((-1) - (nI (X % 30))), .int 0, .int 0, .int 0]) (rest := []) ⟨hx, hb, hml, hown, hts⟩ (kL_far_b2 l dC dI cI cZ cH cJ x0 xq (nI N) xg had hg σ ((-1) - (nI (X % 30))) 0 0 0 (fun k => F4 k.1) hst) (vx_cwSW 6 hts gL_isRefused_L_far rfl rfl rfl (by decide +kernel) ⟨Nat.le_of_ble_eq_true rfl, Nat.le_of_ble_eq_true rfl⟩) (zPreY1 hS hA hT1 hT2 hT3 hT4 hT5 hK (zP_r hP)) rfl rfl hl.1 rfl (lv_room (Nat.le_of_ble_eq_true rfl)) dL_isRefused_231 ⟨show _ ≤ 44 by omega, show _ ≤ 264 by omega⟩) hS (fun H hz1 hk1 hS => ?_)
  have hP := z_kept hP hk1
  have hP : va_P (dC, dI) vwCl ([(ay, .inl (cI, 60, .inl fy)), (ag, .inl (cI, 12, .inl fg))] ++ zOb cI cZ cH x0 xq xg had (nI N) σ) H := hP
  refine z_tv (v := (-992)) rfl ?_
  refine lv_sipush (v := (-992)) hx hb dL_isRefused_234 (by decide) ?_
  refine lv_icmp_ne (tgt := 369) hx hb dL_isRefused_237 (by decide) (fun c_237 => absurd c_237 (by decide)) (fun c_237 => ?_)
  refine lv_aload_n hx hb dL_isRefused_240 rfl (lv_at hl 5 rfl) ?_
  refine lv_iconst (v := 2) hx hb dL_isRefused_241 (by decide) ?_
  refine lv_iload hx hb dL_isRefused_242 (lv_at hl 1 rfl) ?_
  refine lv_iload hx hb dL_isRefused_244 (lv_at hl 2 rfl) ?_
  refine lv_iconst (v := 0) hx hb dL_isRefused_246 (by decide) ?_
  refine lv_iconst (v := 0) hx hb dL_isRefused_247 (by decide) ?_
  refine z_cG (vx_runSW (As := [.ref x0, .int 2, .int (nI ca), .int ((-1) - (nI (X % 30))), .int 0, .int 0]) (rest := []) ⟨hx, hb, hml, hown, hts⟩ (kL_far_b2 l dC dI cI cZ cH cJ x0 xq (nI N) xg had hg σ (nI ca) ((-1) - (nI (X % 30))) 0 0 (fun k => FT k.2) hst) (vx_cwSW 6 hts gL_isRefused_L_far rfl rfl rfl (by decide +kernel) ⟨Nat.le_of_ble_eq_true rfl, Nat.le_of_ble_eq_true rfl⟩) (zPreY1 hS hA hT1 hT2 hT3 hT4 hT5 hK (zP_r hP)) rfl rfl hl.1 rfl (lv_room (Nat.le_of_ble_eq_true rfl)) dL_isRefused_248 ⟨show _ ≤ 44 by omega, show _ ≤ 264 by omega⟩) hS (fun H hz1 hk1 hS => ?_)
  have hP := z_kept hP hk1
  have hP : va_P (dC, dI) vwCl ([(ay, .inl (cI, 60, .inl fy)), (ag, .inl (cI, 12, .inl fg))] ++ zOb cI cZ cH x0 xq xg had (nI N) σ) H := hP
  refine z_tv (v := (-992)) rfl ?_
  refine lv_sipush (v := (-992)) hx hb dL_isRefused_251 (by decide) ?_
  refine lv_icmp_ne (tgt := 369) hx hb dL_isRefused_254 (by decide) (fun c_254 => absurd c_254 (by decide)) (fun c_254 => ?_)
  refine lv_aload_n hx hb dL_isRefused_257 rfl (lv_at hl 5 rfl) ?_
  refine lv_iconst (v := 3) hx hb dL_isRefused_258 (by decide) ?_
  refine lv_iload hx hb dL_isRefused_259 (lv_at hl 4 rfl) ?_
  refine lv_if_eq (tgt := 273) hx hb dL_isRefused_261 (by decide) (fun c_261 => absurd c_261 (by decide)) (fun c_261 => ?_)
  refine lv_iconst (v := 0) hx hb dL_isRefused_264 (by decide) ?_
  refine lv_iload_n hx hb dL_isRefused_265 rfl (lv_at hl 8 rfl) ?_
  refine lv_bipush (v := 30) hx hb dL_isRefused_266 (by decide) ?_
  refine lv_irem hx hb dL_isRefused_268 (by decide) ?_
  refine z_tv (v := nI (X % 30)) (pk_rem (d := 30) hX (by decide) (by decide)) ?_
  refine lv_isub hx hb dL_isRefused_269 ?_
  refine lv_goto (tgt := 280) hx hb dL_isRefused_270 (by decide) ?_
  refine lv_iconst (v := 0) hx hb dL_isRefused_280 (by decide) ?_
  refine lv_iconst (v := 0) hx hb dL_isRefused_281 (by decide) ?_
  refine lv_iconst (v := 0) hx hb dL_isRefused_282 (by decide) ?_
  refine z_cG (vx_runSW (As := [.ref x0, .int 3, .int (0 - (nI (X % 30))), .int 0, .int 0, .int 0]) (rest := []) ⟨hx, hb, hml, hown, hts⟩ (kL_far_b3 l dC dI cI cZ cH cJ x0 xq (nI N) xg had hg σ (0 - (nI (X % 30))) 0 0 0 (FP) hst) (vx_cwSW 6 hts gL_isRefused_L_far rfl rfl rfl (by decide +kernel) ⟨Nat.le_of_ble_eq_true rfl, Nat.le_of_ble_eq_true rfl⟩) (zPreY1 hS hA hT1 hT2 hT3 hT4 hT5 hK (zP_r hP)) rfl rfl hl.1 rfl (lv_room (Nat.le_of_ble_eq_true rfl)) dL_isRefused_283 ⟨show _ ≤ 44 by omega, show _ ≤ 264 by omega⟩) hS (fun H hz1 hk1 hS => ?_)
  have hP := z_kept hP hk1
  have hP : va_P (dC, dI) vwCl ([(ay, .inl (cI, 60, .inl fy)), (ag, .inl (cI, 12, .inl fg))] ++ zOb cI cZ cH x0 xq xg had (nI N) σ) H := hP
  refine z_tv (v := (-992)) rfl ?_
  refine lv_sipush (v := (-992)) hx hb dL_isRefused_286 (by decide) ?_
  refine lv_icmp_ne (tgt := 369) hx hb dL_isRefused_289 (by decide) (fun c_289 => absurd c_289 (by decide)) (fun c_289 => ?_)
  refine lv_aload_n hx hb dL_isRefused_292 rfl (lv_at hl 5 rfl) ?_
  refine lv_iconst (v := 4) hx hb dL_isRefused_293 (by decide) ?_
  refine lv_iload hx hb dL_isRefused_294 (lv_at hl 3 rfl) ?_
  refine lv_iconst (v := 0) hx hb dL_isRefused_296 (by decide) ?_
  refine lv_iconst (v := 0) hx hb dL_isRefused_297 (by decide) ?_
  refine lv_iconst (v := 0) hx hb dL_isRefused_298 (by decide) ?_
  refine z_cG (vx_runSW (As := [.ref x0, .int 4, .int ((-1) - (nI (X % 30))), .int 0, .int 0, .int 0]) (rest := []) ⟨hx, hb, hml, hown, hts⟩ (kL_far_b4 l dC dI cI cZ cH cJ x0 xq (nI N) xg had hg σ ((-1) - (nI (X % 30))) 0 0 0 (F4) hst) (vx_cwSW 6 hts gL_isRefused_L_far rfl rfl rfl (by decide +kernel) ⟨Nat.le_of_ble_eq_true rfl, Nat.le_of_ble_eq_true rfl⟩) (zPreY1 hS hA hT1 hT2 hT3 hT4 hT5 hK (zP_r hP)) rfl rfl hl.1 rfl (lv_room (Nat.le_of_ble_eq_true rfl)) dL_isRefused_299 ⟨show _ ≤ 44 by omega, show _ ≤ 264 by omega⟩) hS (fun H hz1 hk1 hS => ?_)
  have hP := z_kept hP hk1
  have hP : va_P (dC, dI) vwCl ([(ay, .inl (cI, 60, .inl fy)), (ag, .inl (cI, 12, .inl fg))] ++ zOb cI cZ cH x0 xq xg had (nI N) σ) H := hP
  refine z_tv (v := (-992)) rfl ?_
  refine lv_sipush (v := (-992)) hx hb dL_isRefused_302 (by decide) ?_
  refine lv_icmp_ne (tgt := 369) hx hb dL_isRefused_305 (by decide) (fun c_305 => absurd c_305 (by decide)) (fun c_305 => ?_)
  refine lv_aload_n hx hb dL_isRefused_308 rfl (lv_at hl 5 rfl) ?_
  refine lv_iconst (v := 5) hx hb dL_isRefused_309 (by decide) ?_
  refine lv_iload hx hb dL_isRefused_310 (lv_at hl 3 rfl) ?_
  refine lv_iconst (v := 0) hx hb dL_isRefused_312 (by decide) ?_
  refine lv_iconst (v := 0) hx hb dL_isRefused_313 (by decide) ?_
  refine lv_iconst (v := 0) hx hb dL_isRefused_314 (by decide) ?_
  refine z_cG (vx_runSW (As := [.ref x0, .int 5, .int ((-1) - (nI (X % 30))), .int 0, .int 0, .int 0]) (rest := []) ⟨hx, hb, hml, hown, hts⟩ (kL_far_b5 l dC dI cI cZ cH cJ x0 xq (nI N) xg had hg σ ((-1) - (nI (X % 30))) 0 0 0 (F4) hst) (vx_cwSW 6 hts gL_isRefused_L_far rfl rfl rfl (by decide +kernel) ⟨Nat.le_of_ble_eq_true rfl, Nat.le_of_ble_eq_true rfl⟩) (zPreY1 hS hA hT1 hT2 hT3 hT4 hT5 hK (zP_r hP)) rfl rfl hl.1 rfl (lv_room (Nat.le_of_ble_eq_true rfl)) dL_isRefused_315 ⟨show _ ≤ 44 by omega, show _ ≤ 264 by omega⟩) hS (fun H hz1 hk1 hS => ?_)
  have hP := z_kept hP hk1
  have hP : va_P (dC, dI) vwCl ([(ay, .inl (cI, 60, .inl fy)), (ag, .inl (cI, 12, .inl fg))] ++ zOb cI cZ cH x0 xq xg had (nI N) σ) H := hP
  refine z_tv (v := (-992)) rfl ?_
  refine lv_sipush (v := (-992)) hx hb dL_isRefused_318 (by decide) ?_
  refine lv_icmp_ne (tgt := 369) hx hb dL_isRefused_321 (by decide) (fun c_321 => absurd c_321 (by decide)) (fun c_321 => ?_)
  refine lv_aload_n hx hb dL_isRefused_324 rfl (lv_at hl 5 rfl) ?_
  refine lv_iconst (v := 4) hx hb dL_isRefused_325 (by decide) ?_
  refine lv_iload hx hb dL_isRefused_326 (lv_at hl 1 rfl) ?_
  refine lv_iload hx hb dL_isRefused_328 (lv_at hl 2 rfl) ?_
  refine z_cG (vx_runSW (As := [.ref x0, .int 4, .int (nI ca), .int ((-1) - (nI (X % 30)))]) (rest := []) ⟨hx, hb, hml, hown, hts⟩ (kL_near_b4 l dC dI cI cZ cH cJ x0 xq (nI N) xg had hg σ (nI ca) ((-1) - (nI (X % 30))) (fun k => FT k.2) hst) (vx_cwSW 4 hts gL_isRefused_L_near rfl rfl rfl (by decide +kernel) ⟨Nat.le_of_ble_eq_true rfl, Nat.le_of_ble_eq_true rfl⟩) (zPreY1 hS hA hT1 hT2 hT3 hT4 hT5 hK (zP_r hP)) rfl rfl hl.1 rfl (lv_room (Nat.le_of_ble_eq_true rfl)) dL_isRefused_330 ⟨show _ ≤ 44 by omega, show _ ≤ 264 by omega⟩) hS (fun H hz1 hk1 hS => ?_)
  have hP := z_kept hP hk1
  have hP : va_P (dC, dI) vwCl ([(ay, .inl (cI, 60, .inl fy)), (ag, .inl (cI, 12, .inl fg))] ++ zOb cI cZ cH x0 xq xg had (nI N) σ) H := hP
  refine z_tv (v := (-992)) rfl ?_
  refine lv_sipush (v := (-992)) hx hb dL_isRefused_333 (by decide) ?_
  refine lv_icmp_ne (tgt := 369) hx hb dL_isRefused_336 (by decide) (fun c_336 => absurd c_336 (by decide)) (fun c_336 => ?_)
  refine lv_aload_n hx hb dL_isRefused_339 rfl (lv_at hl 5 rfl) ?_
  have J365 : ∀ (H : Heap), va_P (dC, dI) vwCl ([(ay, .inl (cI, 60, .inl fy)), (ag, .inl (cI, 12, .inl fg))] ++ zOb cI cZ cH x0 xq xg had (nI N) σ) H → va_S (fun q : Nat => s.heap.size ≤ q) s.heap H [] → ∀ (ls : Array Slot), lv_has ls 12 [(8, .long (zall (nI N) σ 4)), (7, .int (nI ca)), (5, .int ((-1) - (nI (X % 30)))), (4, .int 1), (0, .ref x0), (1, .ref ay), (2, .ref ag), (3, .int (nI X))] → W p l e (headSpec wsL_isRefused ({ frames := 10, cells := 44, slots := 264, locals := 183 })).room s m ([.ref x0, .ref ay, .ref ag, .int (nI X)] : List Value).toArray below meth c H [] 14 84 (MQ below (zSg 1) ([.ref x0, .ref ay, .ref ag, .int (nI X)] : List Value).toArray s 44 264 (fun _ => False)) (F0 m 365 ls []) := by
    intro H hP hS ls hl
    refine lv_iconst (v := 1) hx hb dL_isRefused_365 (by decide) ?_
    refine lv_goto (tgt := 370) hx hb dL_isRefused_366 (by decide) ?_
    refine lv_istore (lv' := [(10, .int 1), (8, .long (zall (nI N) σ 4)), (7, .int (nI ca)), (5, .int ((-1) - (nI (X % 30)))), (4, .int 1), (0, .ref x0), (1, .ref ay), (2, .ref ag), (3, .int (nI X))]) hx hb dL_isRefused_370 hl (by decide) rfl (fun ls hl => ?_)
    refine lv_iconst (v := 0) hx hb dL_isRefused_372 (by decide) ?_
    refine lv_istore (lv' := [(11, .int 0), (10, .int 1), (8, .long (zall (nI N) σ 4)), (7, .int (nI ca)), (5, .int ((-1) - (nI (X % 30)))), (4, .int 1), (0, .ref x0), (1, .ref ay), (2, .ref ag), (3, .int (nI X))]) hx hb dL_isRefused_373 hl (by decide) rfl (fun ls hl => ?_)
    refine lv_iload hx hb dL_isRefused_375 (lv_at hl 0 rfl) ?_
    refine lv_bipush (v := 9) hx hb dL_isRefused_377 (by decide) ?_
    refine lv_icmp_ge (tgt := 446) hx hb dL_isRefused_379 (by decide) (fun c_379 => absurd c_379 (by decide)) (fun c_379 => ?_)
    refine lv_iload hx hb dL_isRefused_382 (lv_at hl 1 rfl) ?_
    refine lv_if_eq (tgt := 446) hx hb dL_isRefused_384 (by decide) (fun c_384 => absurd c_384 (by decide)) (fun c_384 => ?_)
    refine lv_aload_n hx hb dL_isRefused_387 rfl (lv_at hl 6 rfl) ?_
    refine lv_iload hx hb dL_isRefused_388 (lv_at hl 0 rfl) ?_
    refine lv_iload hx hb dL_isRefused_390 (lv_at hl 0 rfl) ?_
    refine lv_bipush (v := 6) hx hb dL_isRefused_392 (by decide) ?_
    refine lv_icmp_le (tgt := 421) hx hb dL_isRefused_394 (by decide) (fun c_394 => ?_) (fun c_394 => absurd c_394 (by decide))
    refine lv_iload hx hb dL_isRefused_421 (lv_at hl 4 rfl) ?_
    refine lv_iconst (v := 0) hx hb dL_isRefused_423 (by decide) ?_
    refine z_cG (vx_runSW (As := [.ref x0, .int 0, .int ((-1) - (nI (X % 30))), .int 0]) (rest := []) ⟨hx, hb, hml, hown, hts⟩ (kL_near_b0 l dC dI cI cZ cH cJ x0 xq (nI N) xg had hg σ ((-1) - (nI (X % 30))) (F4) hst) (vx_cwSW 4 hts gL_isRefused_L_near rfl rfl rfl (by decide +kernel) ⟨Nat.le_of_ble_eq_true rfl, Nat.le_of_ble_eq_true rfl⟩) (zPreY1 hS hA hT1 hT2 hT3 hT4 hT5 hK (zP_r hP)) rfl rfl hl.1 rfl (lv_room (Nat.le_of_ble_eq_true rfl)) dL_isRefused_424 ⟨show _ ≤ 44 by omega, show _ ≤ 264 by omega⟩) hS (fun H hz1 hk1 hS => ?_)
    have hP := z_kept hP hk1
    have hP : va_P (dC, dI) vwCl ([(ay, .inl (cI, 60, .inl fy)), (ag, .inl (cI, 12, .inl fg))] ++ zOb cI cZ cH x0 xq xg had (nI N) σ) H := hP
    refine z_tv (v := (-992)) rfl ?_
    refine lv_sipush (v := (-992)) hx hb dL_isRefused_427 (by decide) ?_
    refine lv_icmp_ne (tgt := 437) hx hb dL_isRefused_430 (by decide) (fun c_430 => absurd c_430 (by decide)) (fun c_430 => ?_)
    refine lv_iconst (v := 1) hx hb dL_isRefused_433 (by decide) ?_
    refine lv_goto (tgt := 438) hx hb dL_isRefused_434 (by decide) ?_
    refine lv_istore (lv' := [(10, .int 1), (11, .int 0), (8, .long (zall (nI N) σ 4)), (7, .int (nI ca)), (5, .int ((-1) - (nI (X % 30)))), (4, .int 1), (0, .ref x0), (1, .ref ay), (2, .ref ag), (3, .int (nI X))]) hx hb dL_isRefused_438 hl (by decide) rfl (fun ls hl => ?_)
    refine lv_iinc (v := 1) (lv' := [(11, .int 1), (10, .int 1), (8, .long (zall (nI N) σ 4)), (7, .int (nI ca)), (5, .int ((-1) - (nI (X % 30)))), (4, .int 1), (0, .ref x0), (1, .ref ay), (2, .ref ag), (3, .int (nI X))]) hx hb dL_isRefused_440 hl (k := 1) rfl (by decide) (by decide) rfl (fun ls hl => ?_)
    refine lv_goto (tgt := 375) hx hb dL_isRefused_443 (by decide) ?_
    refine lv_iload hx hb dL_isRefused_375 (lv_at hl 0 rfl) ?_
    refine lv_bipush (v := 9) hx hb dL_isRefused_377 (by decide) ?_
    refine lv_icmp_ge (tgt := 446) hx hb dL_isRefused_379 (by decide) (fun c_379 => absurd c_379 (by decide)) (fun c_379 => ?_)
    refine lv_iload hx hb dL_isRefused_382 (lv_at hl 1 rfl) ?_
    refine lv_if_eq (tgt := 446) hx hb dL_isRefused_384 (by decide) (fun c_384 => absurd c_384 (by decide)) (fun c_384 => ?_)
    refine lv_aload_n hx hb dL_isRefused_387 rfl (lv_at hl 6 rfl) ?_
    refine lv_iload hx hb dL_isRefused_388 (lv_at hl 0 rfl) ?_
    refine lv_iload hx hb dL_isRefused_390 (lv_at hl 0 rfl) ?_
    refine lv_bipush (v := 6) hx hb dL_isRefused_392 (by decide) ?_
    refine lv_icmp_le (tgt := 421) hx hb dL_isRefused_394 (by decide) (fun c_394 => ?_) (fun c_394 => absurd c_394 (by decide))
    refine lv_iload hx hb dL_isRefused_421 (lv_at hl 4 rfl) ?_
    refine lv_iconst (v := 0) hx hb dL_isRefused_423 (by decide) ?_
    refine z_cG (vx_runSW (As := [.ref x0, .int 1, .int ((-1) - (nI (X % 30))), .int 0]) (rest := []) ⟨hx, hb, hml, hown, hts⟩ (kL_near_b1 l dC dI cI cZ cH cJ x0 xq (nI N) xg had hg σ ((-1) - (nI (X % 30))) (F4) hst) (vx_cwSW 4 hts gL_isRefused_L_near rfl rfl rfl (by decide +kernel) ⟨Nat.le_of_ble_eq_true rfl, Nat.le_of_ble_eq_true rfl⟩) (zPreY1 hS hA hT1 hT2 hT3 hT4 hT5 hK (zP_r hP)) rfl rfl hl.1 rfl (lv_room (Nat.le_of_ble_eq_true rfl)) dL_isRefused_424 ⟨show _ ≤ 44 by omega, show _ ≤ 264 by omega⟩) hS (fun H hz1 hk1 hS => ?_)
    have hP := z_kept hP hk1
    have hP : va_P (dC, dI) vwCl ([(ay, .inl (cI, 60, .inl fy)), (ag, .inl (cI, 12, .inl fg))] ++ zOb cI cZ cH x0 xq xg had (nI N) σ) H := hP
    refine z_tv (v := (-992)) rfl ?_
    refine lv_sipush (v := (-992)) hx hb dL_isRefused_427 (by decide) ?_
    refine lv_icmp_ne (tgt := 437) hx hb dL_isRefused_430 (by decide) (fun c_430 => absurd c_430 (by decide)) (fun c_430 => ?_)
    refine lv_iconst (v := 1) hx hb dL_isRefused_433 (by decide) ?_
    refine lv_goto (tgt := 438) hx hb dL_isRefused_434 (by decide) ?_
    refine lv_istore (lv' := [(10, .int 1), (11, .int 1), (8, .long (zall (nI N) σ 4)), (7, .int (nI ca)), (5, .int ((-1) - (nI (X % 30)))), (4, .int 1), (0, .ref x0), (1, .ref ay), (2, .ref ag), (3, .int (nI X))]) hx hb dL_isRefused_438 hl (by decide) rfl (fun ls hl => ?_)
    refine lv_iinc (v := 2) (lv' := [(11, .int 2), (10, .int 1), (8, .long (zall (nI N) σ 4)), (7, .int (nI ca)), (5, .int ((-1) - (nI (X % 30)))), (4, .int 1), (0, .ref x0), (1, .ref ay), (2, .ref ag), (3, .int (nI X))]) hx hb dL_isRefused_440 hl (k := 1) rfl (by decide) (by decide) rfl (fun ls hl => ?_)
    refine lv_goto (tgt := 375) hx hb dL_isRefused_443 (by decide) ?_
    refine lv_iload hx hb dL_isRefused_375 (lv_at hl 0 rfl) ?_
    refine lv_bipush (v := 9) hx hb dL_isRefused_377 (by decide) ?_
    refine lv_icmp_ge (tgt := 446) hx hb dL_isRefused_379 (by decide) (fun c_379 => absurd c_379 (by decide)) (fun c_379 => ?_)
    refine lv_iload hx hb dL_isRefused_382 (lv_at hl 1 rfl) ?_
    refine lv_if_eq (tgt := 446) hx hb dL_isRefused_384 (by decide) (fun c_384 => absurd c_384 (by decide)) (fun c_384 => ?_)
    refine lv_aload_n hx hb dL_isRefused_387 rfl (lv_at hl 6 rfl) ?_
    refine lv_iload hx hb dL_isRefused_388 (lv_at hl 0 rfl) ?_
    refine lv_iload hx hb dL_isRefused_390 (lv_at hl 0 rfl) ?_
    refine lv_bipush (v := 6) hx hb dL_isRefused_392 (by decide) ?_
    refine lv_icmp_le (tgt := 421) hx hb dL_isRefused_394 (by decide) (fun c_394 => ?_) (fun c_394 => absurd c_394 (by decide))
    refine lv_iload hx hb dL_isRefused_421 (lv_at hl 4 rfl) ?_
    refine lv_iconst (v := 0) hx hb dL_isRefused_423 (by decide) ?_
    refine z_cG (vx_runSW (As := [.ref x0, .int 2, .int ((-1) - (nI (X % 30))), .int 0]) (rest := []) ⟨hx, hb, hml, hown, hts⟩ (kL_near_b2 l dC dI cI cZ cH cJ x0 xq (nI N) xg had hg σ ((-1) - (nI (X % 30))) (F4) hst) (vx_cwSW 4 hts gL_isRefused_L_near rfl rfl rfl (by decide +kernel) ⟨Nat.le_of_ble_eq_true rfl, Nat.le_of_ble_eq_true rfl⟩) (zPreY1 hS hA hT1 hT2 hT3 hT4 hT5 hK (zP_r hP)) rfl rfl hl.1 rfl (lv_room (Nat.le_of_ble_eq_true rfl)) dL_isRefused_424 ⟨show _ ≤ 44 by omega, show _ ≤ 264 by omega⟩) hS (fun H hz1 hk1 hS => ?_)
    have hP := z_kept hP hk1
    have hP : va_P (dC, dI) vwCl ([(ay, .inl (cI, 60, .inl fy)), (ag, .inl (cI, 12, .inl fg))] ++ zOb cI cZ cH x0 xq xg had (nI N) σ) H := hP
    refine z_tv (v := (-992)) rfl ?_
    refine lv_sipush (v := (-992)) hx hb dL_isRefused_427 (by decide) ?_
    refine lv_icmp_ne (tgt := 437) hx hb dL_isRefused_430 (by decide) (fun c_430 => absurd c_430 (by decide)) (fun c_430 => ?_)
    refine lv_iconst (v := 1) hx hb dL_isRefused_433 (by decide) ?_
    refine lv_goto (tgt := 438) hx hb dL_isRefused_434 (by decide) ?_
    refine lv_istore (lv' := [(10, .int 1), (11, .int 2), (8, .long (zall (nI N) σ 4)), (7, .int (nI ca)), (5, .int ((-1) - (nI (X % 30)))), (4, .int 1), (0, .ref x0), (1, .ref ay), (2, .ref ag), (3, .int (nI X))]) hx hb dL_isRefused_438 hl (by decide) rfl (fun ls hl => ?_)
    refine lv_iinc (v := 3) (lv' := [(11, .int 3), (10, .int 1), (8, .long (zall (nI N) σ 4)), (7, .int (nI ca)), (5, .int ((-1) - (nI (X % 30)))), (4, .int 1), (0, .ref x0), (1, .ref ay), (2, .ref ag), (3, .int (nI X))]) hx hb dL_isRefused_440 hl (k := 1) rfl (by decide) (by decide) rfl (fun ls hl => ?_)
    refine lv_goto (tgt := 375) hx hb dL_isRefused_443 (by decide) ?_
    refine lv_iload hx hb dL_isRefused_375 (lv_at hl 0 rfl) ?_
    refine lv_bipush (v := 9) hx hb dL_isRefused_377 (by decide) ?_
    refine lv_icmp_ge (tgt := 446) hx hb dL_isRefused_379 (by decide) (fun c_379 => absurd c_379 (by decide)) (fun c_379 => ?_)
    refine lv_iload hx hb dL_isRefused_382 (lv_at hl 1 rfl) ?_
    refine lv_if_eq (tgt := 446) hx hb dL_isRefused_384 (by decide) (fun c_384 => absurd c_384 (by decide)) (fun c_384 => ?_)
    refine lv_aload_n hx hb dL_isRefused_387 rfl (lv_at hl 6 rfl) ?_
    refine lv_iload hx hb dL_isRefused_388 (lv_at hl 0 rfl) ?_
    refine lv_iload hx hb dL_isRefused_390 (lv_at hl 0 rfl) ?_
    refine lv_bipush (v := 6) hx hb dL_isRefused_392 (by decide) ?_
    refine lv_icmp_le (tgt := 421) hx hb dL_isRefused_394 (by decide) (fun c_394 => ?_) (fun c_394 => absurd c_394 (by decide))
    refine lv_iload hx hb dL_isRefused_421 (lv_at hl 4 rfl) ?_
    refine lv_iconst (v := 0) hx hb dL_isRefused_423 (by decide) ?_
    refine z_cG (vx_runSW (As := [.ref x0, .int 3, .int ((-1) - (nI (X % 30))), .int 0]) (rest := []) ⟨hx, hb, hml, hown, hts⟩ (kL_near_b3 l dC dI cI cZ cH cJ x0 xq (nI N) xg had hg σ ((-1) - (nI (X % 30))) (F4) hst) (vx_cwSW 4 hts gL_isRefused_L_near rfl rfl rfl (by decide +kernel) ⟨Nat.le_of_ble_eq_true rfl, Nat.le_of_ble_eq_true rfl⟩) (zPreY1 hS hA hT1 hT2 hT3 hT4 hT5 hK (zP_r hP)) rfl rfl hl.1 rfl (lv_room (Nat.le_of_ble_eq_true rfl)) dL_isRefused_424 ⟨show _ ≤ 44 by omega, show _ ≤ 264 by omega⟩) hS (fun H hz1 hk1 hS => ?_)
    have hP := z_kept hP hk1
    have hP : va_P (dC, dI) vwCl ([(ay, .inl (cI, 60, .inl fy)), (ag, .inl (cI, 12, .inl fg))] ++ zOb cI cZ cH x0 xq xg had (nI N) σ) H := hP
    refine z_tv (v := (-992)) rfl ?_
    refine lv_sipush (v := (-992)) hx hb dL_isRefused_427 (by decide) ?_
    refine lv_icmp_ne (tgt := 437) hx hb dL_isRefused_430 (by decide) (fun c_430 => absurd c_430 (by decide)) (fun c_430 => ?_)
    refine lv_iconst (v := 1) hx hb dL_isRefused_433 (by decide) ?_
    refine lv_goto (tgt := 438) hx hb dL_isRefused_434 (by decide) ?_
    refine lv_istore (lv' := [(10, .int 1), (11, .int 3), (8, .long (zall (nI N) σ 4)), (7, .int (nI ca)), (5, .int ((-1) - (nI (X % 30)))), (4, .int 1), (0, .ref x0), (1, .ref ay), (2, .ref ag), (3, .int (nI X))]) hx hb dL_isRefused_438 hl (by decide) rfl (fun ls hl => ?_)
    refine lv_iinc (v := 4) (lv' := [(11, .int 4), (10, .int 1), (8, .long (zall (nI N) σ 4)), (7, .int (nI ca)), (5, .int ((-1) - (nI (X % 30)))), (4, .int 1), (0, .ref x0), (1, .ref ay), (2, .ref ag), (3, .int (nI X))]) hx hb dL_isRefused_440 hl (k := 1) rfl (by decide) (by decide) rfl (fun ls hl => ?_)
    refine lv_goto (tgt := 375) hx hb dL_isRefused_443 (by decide) ?_
    refine lv_iload hx hb dL_isRefused_375 (lv_at hl 0 rfl) ?_
    refine lv_bipush (v := 9) hx hb dL_isRefused_377 (by decide) ?_
    refine lv_icmp_ge (tgt := 446) hx hb dL_isRefused_379 (by decide) (fun c_379 => absurd c_379 (by decide)) (fun c_379 => ?_)
    refine lv_iload hx hb dL_isRefused_382 (lv_at hl 1 rfl) ?_
    refine lv_if_eq (tgt := 446) hx hb dL_isRefused_384 (by decide) (fun c_384 => absurd c_384 (by decide)) (fun c_384 => ?_)
    refine lv_aload_n hx hb dL_isRefused_387 rfl (lv_at hl 6 rfl) ?_
    refine lv_iload hx hb dL_isRefused_388 (lv_at hl 0 rfl) ?_
    refine lv_iload hx hb dL_isRefused_390 (lv_at hl 0 rfl) ?_
    refine lv_bipush (v := 6) hx hb dL_isRefused_392 (by decide) ?_
    refine lv_icmp_le (tgt := 421) hx hb dL_isRefused_394 (by decide) (fun c_394 => ?_) (fun c_394 => absurd c_394 (by decide))
    refine lv_iload hx hb dL_isRefused_421 (lv_at hl 4 rfl) ?_
    refine lv_iconst (v := 0) hx hb dL_isRefused_423 (by decide) ?_
    refine z_cG (vx_runSW (As := [.ref x0, .int 4, .int ((-1) - (nI (X % 30))), .int 0]) (rest := []) ⟨hx, hb, hml, hown, hts⟩ (kL_near_b4 l dC dI cI cZ cH cJ x0 xq (nI N) xg had hg σ ((-1) - (nI (X % 30))) 0 (fun k => F4 k.1) hst) (vx_cwSW 4 hts gL_isRefused_L_near rfl rfl rfl (by decide +kernel) ⟨Nat.le_of_ble_eq_true rfl, Nat.le_of_ble_eq_true rfl⟩) (zPreY1 hS hA hT1 hT2 hT3 hT4 hT5 hK (zP_r hP)) rfl rfl hl.1 rfl (lv_room (Nat.le_of_ble_eq_true rfl)) dL_isRefused_424 ⟨show _ ≤ 44 by omega, show _ ≤ 264 by omega⟩) hS (fun H hz1 hk1 hS => ?_)
    have hP := z_kept hP hk1
    have hP : va_P (dC, dI) vwCl ([(ay, .inl (cI, 60, .inl fy)), (ag, .inl (cI, 12, .inl fg))] ++ zOb cI cZ cH x0 xq xg had (nI N) σ) H := hP
    refine z_tv (v := (-992)) rfl ?_
    refine lv_sipush (v := (-992)) hx hb dL_isRefused_427 (by decide) ?_
    refine lv_icmp_ne (tgt := 437) hx hb dL_isRefused_430 (by decide) (fun c_430 => absurd c_430 (by decide)) (fun c_430 => ?_)
    refine lv_iconst (v := 1) hx hb dL_isRefused_433 (by decide) ?_
    refine lv_goto (tgt := 438) hx hb dL_isRefused_434 (by decide) ?_
    refine lv_istore (lv' := [(10, .int 1), (11, .int 4), (8, .long (zall (nI N) σ 4)), (7, .int (nI ca)), (5, .int ((-1) - (nI (X % 30)))), (4, .int 1), (0, .ref x0), (1, .ref ay), (2, .ref ag), (3, .int (nI X))]) hx hb dL_isRefused_438 hl (by decide) rfl (fun ls hl => ?_)
    refine lv_iinc (v := 5) (lv' := [(11, .int 5), (10, .int 1), (8, .long (zall (nI N) σ 4)), (7, .int (nI ca)), (5, .int ((-1) - (nI (X % 30)))), (4, .int 1), (0, .ref x0), (1, .ref ay), (2, .ref ag), (3, .int (nI X))]) hx hb dL_isRefused_440 hl (k := 1) rfl (by decide) (by decide) rfl (fun ls hl => ?_)
    refine lv_goto (tgt := 375) hx hb dL_isRefused_443 (by decide) ?_
    refine lv_iload hx hb dL_isRefused_375 (lv_at hl 0 rfl) ?_
    refine lv_bipush (v := 9) hx hb dL_isRefused_377 (by decide) ?_
    refine lv_icmp_ge (tgt := 446) hx hb dL_isRefused_379 (by decide) (fun c_379 => absurd c_379 (by decide)) (fun c_379 => ?_)
    refine lv_iload hx hb dL_isRefused_382 (lv_at hl 1 rfl) ?_
    refine lv_if_eq (tgt := 446) hx hb dL_isRefused_384 (by decide) (fun c_384 => absurd c_384 (by decide)) (fun c_384 => ?_)
    refine lv_aload_n hx hb dL_isRefused_387 rfl (lv_at hl 6 rfl) ?_
    refine lv_iload hx hb dL_isRefused_388 (lv_at hl 0 rfl) ?_
    refine lv_iload hx hb dL_isRefused_390 (lv_at hl 0 rfl) ?_
    refine lv_bipush (v := 6) hx hb dL_isRefused_392 (by decide) ?_
    refine lv_icmp_le (tgt := 421) hx hb dL_isRefused_394 (by decide) (fun c_394 => ?_) (fun c_394 => absurd c_394 (by decide))
    refine lv_iload hx hb dL_isRefused_421 (lv_at hl 4 rfl) ?_
    refine lv_iconst (v := 0) hx hb dL_isRefused_423 (by decide) ?_
    refine z_cG (vx_runSW (As := [.ref x0, .int 5, .int ((-1) - (nI (X % 30))), .int 0]) (rest := []) ⟨hx, hb, hml, hown, hts⟩ (kL_near_b5 l dC dI cI cZ cH cJ x0 xq (nI N) xg had hg σ ((-1) - (nI (X % 30))) (F4) hst) (vx_cwSW 4 hts gL_isRefused_L_near rfl rfl rfl (by decide +kernel) ⟨Nat.le_of_ble_eq_true rfl, Nat.le_of_ble_eq_true rfl⟩) (zPreY1 hS hA hT1 hT2 hT3 hT4 hT5 hK (zP_r hP)) rfl rfl hl.1 rfl (lv_room (Nat.le_of_ble_eq_true rfl)) dL_isRefused_424 ⟨show _ ≤ 44 by omega, show _ ≤ 264 by omega⟩) hS (fun H hz1 hk1 hS => ?_)
    have hP := z_kept hP hk1
    have hP : va_P (dC, dI) vwCl ([(ay, .inl (cI, 60, .inl fy)), (ag, .inl (cI, 12, .inl fg))] ++ zOb cI cZ cH x0 xq xg had (nI N) σ) H := hP
    refine z_tv (v := (-992)) rfl ?_
    refine lv_sipush (v := (-992)) hx hb dL_isRefused_427 (by decide) ?_
    refine lv_icmp_ne (tgt := 437) hx hb dL_isRefused_430 (by decide) (fun c_430 => absurd c_430 (by decide)) (fun c_430 => ?_)
    refine lv_iconst (v := 1) hx hb dL_isRefused_433 (by decide) ?_
    refine lv_goto (tgt := 438) hx hb dL_isRefused_434 (by decide) ?_
    refine lv_istore (lv' := [(10, .int 1), (11, .int 5), (8, .long (zall (nI N) σ 4)), (7, .int (nI ca)), (5, .int ((-1) - (nI (X % 30)))), (4, .int 1), (0, .ref x0), (1, .ref ay), (2, .ref ag), (3, .int (nI X))]) hx hb dL_isRefused_438 hl (by decide) rfl (fun ls hl => ?_)
    refine lv_iinc (v := 6) (lv' := [(11, .int 6), (10, .int 1), (8, .long (zall (nI N) σ 4)), (7, .int (nI ca)), (5, .int ((-1) - (nI (X % 30)))), (4, .int 1), (0, .ref x0), (1, .ref ay), (2, .ref ag), (3, .int (nI X))]) hx hb dL_isRefused_440 hl (k := 1) rfl (by decide) (by decide) rfl (fun ls hl => ?_)
    refine lv_goto (tgt := 375) hx hb dL_isRefused_443 (by decide) ?_
    refine lv_iload hx hb dL_isRefused_375 (lv_at hl 0 rfl) ?_
    refine lv_bipush (v := 9) hx hb dL_isRefused_377 (by decide) ?_
    refine lv_icmp_ge (tgt := 446) hx hb dL_isRefused_379 (by decide) (fun c_379 => absurd c_379 (by decide)) (fun c_379 => ?_)
    refine lv_iload hx hb dL_isRefused_382 (lv_at hl 1 rfl) ?_
    refine lv_if_eq (tgt := 446) hx hb dL_isRefused_384 (by decide) (fun c_384 => absurd c_384 (by decide)) (fun c_384 => ?_)
    refine lv_aload_n hx hb dL_isRefused_387 rfl (lv_at hl 6 rfl) ?_
    refine lv_iload hx hb dL_isRefused_388 (lv_at hl 0 rfl) ?_
    refine lv_iload hx hb dL_isRefused_390 (lv_at hl 0 rfl) ?_
    refine lv_bipush (v := 6) hx hb dL_isRefused_392 (by decide) ?_
    refine lv_icmp_le (tgt := 421) hx hb dL_isRefused_394 (by decide) (fun c_394 => ?_) (fun c_394 => absurd c_394 (by decide))
    refine lv_iload hx hb dL_isRefused_421 (lv_at hl 4 rfl) ?_
    refine lv_iconst (v := 0) hx hb dL_isRefused_423 (by decide) ?_
    refine z_cG (vx_runSW (As := [.ref x0, .int 6, .int ((-1) - (nI (X % 30))), .int 0]) (rest := []) ⟨hx, hb, hml, hown, hts⟩ (kL_near_b6 l dC dI cI cZ cH cJ x0 xq (nI N) xg had hg σ ((-1) - (nI (X % 30))) (F4) hst) (vx_cwSW 4 hts gL_isRefused_L_near rfl rfl rfl (by decide +kernel) ⟨Nat.le_of_ble_eq_true rfl, Nat.le_of_ble_eq_true rfl⟩) (zPreY1 hS hA hT1 hT2 hT3 hT4 hT5 hK (zP_r hP)) rfl rfl hl.1 rfl (lv_room (Nat.le_of_ble_eq_true rfl)) dL_isRefused_424 ⟨show _ ≤ 44 by omega, show _ ≤ 264 by omega⟩) hS (fun H hz1 hk1 hS => ?_)
    have hP := z_kept hP hk1
    have hP : va_P (dC, dI) vwCl ([(ay, .inl (cI, 60, .inl fy)), (ag, .inl (cI, 12, .inl fg))] ++ zOb cI cZ cH x0 xq xg had (nI N) σ) H := hP
    refine z_tv (v := (-992)) rfl ?_
    refine lv_sipush (v := (-992)) hx hb dL_isRefused_427 (by decide) ?_
    refine lv_icmp_ne (tgt := 437) hx hb dL_isRefused_430 (by decide) (fun c_430 => absurd c_430 (by decide)) (fun c_430 => ?_)
    refine lv_iconst (v := 1) hx hb dL_isRefused_433 (by decide) ?_
    refine lv_goto (tgt := 438) hx hb dL_isRefused_434 (by decide) ?_
    refine lv_istore (lv' := [(10, .int 1), (11, .int 6), (8, .long (zall (nI N) σ 4)), (7, .int (nI ca)), (5, .int ((-1) - (nI (X % 30)))), (4, .int 1), (0, .ref x0), (1, .ref ay), (2, .ref ag), (3, .int (nI X))]) hx hb dL_isRefused_438 hl (by decide) rfl (fun ls hl => ?_)
    refine lv_iinc (v := 7) (lv' := [(11, .int 7), (10, .int 1), (8, .long (zall (nI N) σ 4)), (7, .int (nI ca)), (5, .int ((-1) - (nI (X % 30)))), (4, .int 1), (0, .ref x0), (1, .ref ay), (2, .ref ag), (3, .int (nI X))]) hx hb dL_isRefused_440 hl (k := 1) rfl (by decide) (by decide) rfl (fun ls hl => ?_)
    refine lv_goto (tgt := 375) hx hb dL_isRefused_443 (by decide) ?_
    refine lv_iload hx hb dL_isRefused_375 (lv_at hl 0 rfl) ?_
    refine lv_bipush (v := 9) hx hb dL_isRefused_377 (by decide) ?_
    refine lv_icmp_ge (tgt := 446) hx hb dL_isRefused_379 (by decide) (fun c_379 => absurd c_379 (by decide)) (fun c_379 => ?_)
    refine lv_iload hx hb dL_isRefused_382 (lv_at hl 1 rfl) ?_
    refine lv_if_eq (tgt := 446) hx hb dL_isRefused_384 (by decide) (fun c_384 => absurd c_384 (by decide)) (fun c_384 => ?_)
    refine lv_aload_n hx hb dL_isRefused_387 rfl (lv_at hl 6 rfl) ?_
    refine lv_iload hx hb dL_isRefused_388 (lv_at hl 0 rfl) ?_
    refine lv_iload hx hb dL_isRefused_390 (lv_at hl 0 rfl) ?_
    refine lv_bipush (v := 6) hx hb dL_isRefused_392 (by decide) ?_
    refine lv_icmp_le (tgt := 421) hx hb dL_isRefused_394 (by decide) (fun c_394 => absurd c_394 (by decide)) (fun c_394 => ?_)
    refine lv_iload hx hb dL_isRefused_397 (lv_at hl 5 rfl) ?_
    refine lv_if_eq (tgt := 411) hx hb dL_isRefused_399 (by decide) (fun c_399 => absurd c_399 (by decide)) (fun c_399 => ?_)
    refine lv_iconst (v := (-1)) hx hb dL_isRefused_402 (by decide) ?_
    refine lv_iload_n hx hb dL_isRefused_403 rfl (lv_at hl 9 rfl) ?_
    refine lv_bipush (v := 30) hx hb dL_isRefused_404 (by decide) ?_
    refine lv_irem hx hb dL_isRefused_406 (by decide) ?_
    refine z_tv (v := nI (X % 30)) (pk_rem (d := 30) hX (by decide) (by decide)) ?_
    refine lv_isub hx hb dL_isRefused_407 ?_
    refine lv_goto (tgt := 423) hx hb dL_isRefused_408 (by decide) ?_
    refine lv_iconst (v := 0) hx hb dL_isRefused_423 (by decide) ?_
    refine z_cG (vx_runSW (As := [.ref x0, .int 7, .int ((-1) - (nI (X % 30))), .int 0]) (rest := []) ⟨hx, hb, hml, hown, hts⟩ (kL_near_b7 l dC dI cI cZ cH cJ x0 xq (nI N) xg had hg σ ((-1) - (nI (X % 30))) (F9) hst) (vx_cwSW 4 hts gL_isRefused_L_near rfl rfl rfl (by decide +kernel) ⟨Nat.le_of_ble_eq_true rfl, Nat.le_of_ble_eq_true rfl⟩) (zPreY1 hS hA hT1 hT2 hT3 hT4 hT5 hK (zP_r hP)) rfl rfl hl.1 rfl (lv_room (Nat.le_of_ble_eq_true rfl)) dL_isRefused_424 ⟨show _ ≤ 44 by omega, show _ ≤ 264 by omega⟩) hS (fun H hz1 hk1 hS => ?_)
    have hP := z_kept hP hk1
    have hP : va_P (dC, dI) vwCl ([(ay, .inl (cI, 60, .inl fy)), (ag, .inl (cI, 12, .inl fg))] ++ zOb cI cZ cH x0 xq xg had (nI N) σ) H := hP
    refine z_tv (v := (-992)) rfl ?_
    refine lv_sipush (v := (-992)) hx hb dL_isRefused_427 (by decide) ?_
    refine lv_icmp_ne (tgt := 437) hx hb dL_isRefused_430 (by decide) (fun c_430 => absurd c_430 (by decide)) (fun c_430 => ?_)
    refine lv_iconst (v := 1) hx hb dL_isRefused_433 (by decide) ?_
    refine lv_goto (tgt := 438) hx hb dL_isRefused_434 (by decide) ?_
    refine lv_istore (lv' := [(10, .int 1), (11, .int 7), (8, .long (zall (nI N) σ 4)), (7, .int (nI ca)), (5, .int ((-1) - (nI (X % 30)))), (4, .int 1), (0, .ref x0), (1, .ref ay), (2, .ref ag), (3, .int (nI X))]) hx hb dL_isRefused_438 hl (by decide) rfl (fun ls hl => ?_)
    refine lv_iinc (v := 8) (lv' := [(11, .int 8), (10, .int 1), (8, .long (zall (nI N) σ 4)), (7, .int (nI ca)), (5, .int ((-1) - (nI (X % 30)))), (4, .int 1), (0, .ref x0), (1, .ref ay), (2, .ref ag), (3, .int (nI X))]) hx hb dL_isRefused_440 hl (k := 1) rfl (by decide) (by decide) rfl (fun ls hl => ?_)
    refine lv_goto (tgt := 375) hx hb dL_isRefused_443 (by decide) ?_
    refine lv_iload hx hb dL_isRefused_375 (lv_at hl 0 rfl) ?_
    refine lv_bipush (v := 9) hx hb dL_isRefused_377 (by decide) ?_
    refine lv_icmp_ge (tgt := 446) hx hb dL_isRefused_379 (by decide) (fun c_379 => absurd c_379 (by decide)) (fun c_379 => ?_)
    refine lv_iload hx hb dL_isRefused_382 (lv_at hl 1 rfl) ?_
    refine lv_if_eq (tgt := 446) hx hb dL_isRefused_384 (by decide) (fun c_384 => absurd c_384 (by decide)) (fun c_384 => ?_)
    refine lv_aload_n hx hb dL_isRefused_387 rfl (lv_at hl 6 rfl) ?_
    refine lv_iload hx hb dL_isRefused_388 (lv_at hl 0 rfl) ?_
    refine lv_iload hx hb dL_isRefused_390 (lv_at hl 0 rfl) ?_
    refine lv_bipush (v := 6) hx hb dL_isRefused_392 (by decide) ?_
    refine lv_icmp_le (tgt := 421) hx hb dL_isRefused_394 (by decide) (fun c_394 => absurd c_394 (by decide)) (fun c_394 => ?_)
    refine lv_iload hx hb dL_isRefused_397 (lv_at hl 5 rfl) ?_
    refine lv_if_eq (tgt := 411) hx hb dL_isRefused_399 (by decide) (fun c_399 => absurd c_399 (by decide)) (fun c_399 => ?_)
    refine lv_iconst (v := (-1)) hx hb dL_isRefused_402 (by decide) ?_
    refine lv_iload_n hx hb dL_isRefused_403 rfl (lv_at hl 9 rfl) ?_
    refine lv_bipush (v := 30) hx hb dL_isRefused_404 (by decide) ?_
    refine lv_irem hx hb dL_isRefused_406 (by decide) ?_
    refine z_tv (v := nI (X % 30)) (pk_rem (d := 30) hX (by decide) (by decide)) ?_
    refine lv_isub hx hb dL_isRefused_407 ?_
    refine lv_goto (tgt := 423) hx hb dL_isRefused_408 (by decide) ?_
    refine lv_iconst (v := 0) hx hb dL_isRefused_423 (by decide) ?_
    refine z_cG (vx_runSW (As := [.ref x0, .int 8, .int ((-1) - (nI (X % 30))), .int 0]) (rest := []) ⟨hx, hb, hml, hown, hts⟩ (kL_near_b8 l dC dI cI cZ cH cJ x0 xq (nI N) xg had hg σ ((-1) - (nI (X % 30))) (F9) hst) (vx_cwSW 4 hts gL_isRefused_L_near rfl rfl rfl (by decide +kernel) ⟨Nat.le_of_ble_eq_true rfl, Nat.le_of_ble_eq_true rfl⟩) (zPreY1 hS hA hT1 hT2 hT3 hT4 hT5 hK (zP_r hP)) rfl rfl hl.1 rfl (lv_room (Nat.le_of_ble_eq_true rfl)) dL_isRefused_424 ⟨show _ ≤ 44 by omega, show _ ≤ 264 by omega⟩) hS (fun H hz1 hk1 hS => ?_)
    have hP := z_kept hP hk1
    have hP : va_P (dC, dI) vwCl ([(ay, .inl (cI, 60, .inl fy)), (ag, .inl (cI, 12, .inl fg))] ++ zOb cI cZ cH x0 xq xg had (nI N) σ) H := hP
    refine z_tv (v := (-992)) rfl ?_
    refine lv_sipush (v := (-992)) hx hb dL_isRefused_427 (by decide) ?_
    refine lv_icmp_ne (tgt := 437) hx hb dL_isRefused_430 (by decide) (fun c_430 => absurd c_430 (by decide)) (fun c_430 => ?_)
    refine lv_iconst (v := 1) hx hb dL_isRefused_433 (by decide) ?_
    refine lv_goto (tgt := 438) hx hb dL_isRefused_434 (by decide) ?_
    refine lv_istore (lv' := [(10, .int 1), (11, .int 8), (8, .long (zall (nI N) σ 4)), (7, .int (nI ca)), (5, .int ((-1) - (nI (X % 30)))), (4, .int 1), (0, .ref x0), (1, .ref ay), (2, .ref ag), (3, .int (nI X))]) hx hb dL_isRefused_438 hl (by decide) rfl (fun ls hl => ?_)
    refine lv_iinc (v := 9) (lv' := [(11, .int 9), (10, .int 1), (8, .long (zall (nI N) σ 4)), (7, .int (nI ca)), (5, .int ((-1) - (nI (X % 30)))), (4, .int 1), (0, .ref x0), (1, .ref ay), (2, .ref ag), (3, .int (nI X))]) hx hb dL_isRefused_440 hl (k := 1) rfl (by decide) (by decide) rfl (fun ls hl => ?_)
    refine lv_goto (tgt := 375) hx hb dL_isRefused_443 (by decide) ?_
    refine lv_iload hx hb dL_isRefused_375 (lv_at hl 0 rfl) ?_
    refine lv_bipush (v := 9) hx hb dL_isRefused_377 (by decide) ?_
    refine lv_icmp_ge (tgt := 446) hx hb dL_isRefused_379 (by decide) (fun c_379 => ?_) (fun c_379 => absurd c_379 (by decide))
    refine lv_bipush (v := 20) hx hb dL_isRefused_446 (by decide) ?_
    refine lv_iload hx hb dL_isRefused_448 (lv_at hl 3 rfl) ?_
    refine lv_imul hx hb dL_isRefused_450 ?_
    refine z_tv (v := nI (20 * ca)) (pk_mul 20 ca) ?_
    refine lv_istore (lv' := [(11, .int (nI (20 * ca))), (10, .int 1), (8, .long (zall (nI N) σ 4)), (7, .int (nI ca)), (5, .int ((-1) - (nI (X % 30)))), (4, .int 1), (0, .ref x0), (1, .ref ay), (2, .ref ag), (3, .int (nI X))]) hx hb dL_isRefused_451 hl (by decide) rfl (fun ls hl => ?_)
    have LOOP1 : ∀ (n1 i : Nat), i ≤ 20 → 20 < i + n1 → ∀ (H : Heap), va_P (dC, dI) vwCl ([(ay, .inl (cI, 60, .inl fy)), (ag, .inl (cI, 12, .inl fg))] ++ zOb cI cZ cH x0 xq xg had (nI N) σ) H → va_S (fun q : Nat => s.heap.size ≤ q) s.heap H [] → ∀ (ls : Array Slot), lv_has ls 12 [(0, .ref x0), (1, .ref ay), (2, .ref ag), (7, .int (nI ca)), (8, .long (zall (nI N) σ 4)), (10, .int 1), (11, .int (nI (20 * ca + i)))] → W p l e (headSpec wsL_isRefused ({ frames := 10, cells := 44, slots := 264, locals := 183 })).room s m ([.ref x0, .ref ay, .ref ag, .int (nI X)] : List Value).toArray below meth c H [] (23 + i) (138 + 6 * i) (MQ below (zSg 1) ([.ref x0, .ref ay, .ref ag, .int (nI X)] : List Value).toArray s 44 264 (fun _ => False)) (F0 m 453 ls []) := by
      intro n1
      induction n1 with
      | zero => intro i h1 h2; exact absurd h2 (by omega)
      | succ n1 ih1 =>
        intro i hi hin  H hP hS ls hl
        refine lv_iload hx hb dL_isRefused_453 (lv_at hl 6 rfl) ?_
        refine lv_bipush (v := 20) hx hb dL_isRefused_455 (by decide) ?_
        refine lv_iload hx hb dL_isRefused_457 (lv_at hl 3 rfl) ?_
        refine lv_imul hx hb dL_isRefused_459 ?_
        refine z_tv (v := nI (20 * ca)) (pk_mul 20 ca) ?_
        refine lv_bipush (v := 20) hx hb dL_isRefused_460 (by decide) ?_
        refine lv_iadd hx hb dL_isRefused_462 ?_
        refine z_tv (v := nI (20 * ca + 20)) (nI_add (20 * ca) 20) ?_
        refine lv_icmp_ge (tgt := 511) hx hb dL_isRefused_463 (by decide) (fun c_463 => ?_) (fun c_463 => ?_)
        · skip
          have e20 : i = 20 := z_ge20b hi (by omega) c_463
          subst e20
          refine lv_iload hx hb dL_isRefused_511 (lv_at hl 5 rfl) ?_
          refine lv_if_eq (tgt := 555) hx hb dL_isRefused_513 (by decide) (fun c_513 => absurd c_513 (by decide)) (fun c_513 => ?_)
          refine lv_aload_n hx hb dL_isRefused_516 rfl (lv_at hl 2 rfl) ?_
          refine lv_iconst (v := 4) hx hb dL_isRefused_517 (by decide) ?_
          refine lv_iload hx hb dL_isRefused_518 (lv_at hl 3 rfl) ?_
          refine lv_imul hx hb dL_isRefused_520 ?_
          refine z_tv (v := nI (4 * ca)) (pk_mul 4 ca) ?_
          refine lv_iconst (v := 2) hx hb dL_isRefused_521 (by decide) ?_
          refine lv_iadd hx hb dL_isRefused_522 ?_
          refine z_tv (v := nI ((4 * ca) + 2)) (nI_add (4 * ca) 2) ?_
          refine z_iald hx hb hK hP 1 rfl (zix_nI (by first | assumption | omega) (by decide)) dL_isRefused_523 ?_
          refine z_tv (v := fg ((4 * ca) + 2)) (rfl) ?_
          refine z_tv (v := 0) (hgo) ?_
          refine lv_if_gt (tgt := 541) hx hb dL_isRefused_524 (by decide) (fun c_524 => absurd c_524 (by decide)) (fun c_524 => ?_)
          refine lv_aload_n hx hb dL_isRefused_527 rfl (lv_at hl 0 rfl) ?_
          refine lv_iconst (v := 1) hx hb dL_isRefused_528 (by decide) ?_
          refine lv_iload hx hb dL_isRefused_529 (lv_at hl 3 rfl) ?_
          refine lv_iconst (v := 0) hx hb dL_isRefused_531 (by decide) ?_
          refine z_cG (vx_runSW (As := [.ref x0, .int 1, .int (nI ca), .int 0]) (rest := []) ⟨hx, hb, hml, hown, hts⟩ (kL_near_n1 l dC dI cI cZ cH cJ x0 xq (nI N) xg had hg σ ca (by first | assumption | omega) (by first | assumption | omega) hst) (vx_cwSW 4 hts gL_isRefused_L_near rfl rfl rfl (by decide +kernel) ⟨Nat.le_of_ble_eq_true rfl, Nat.le_of_ble_eq_true rfl⟩) (zPreY1 hS hA hT1 hT2 hT3 hT4 hT5 hK (zP_r hP)) rfl rfl hl.1 rfl (lv_room (Nat.le_of_ble_eq_true rfl)) dL_isRefused_532 ⟨show _ ≤ 44 by omega, show _ ≤ 264 by omega⟩) hS (fun H hz1 hk1 hS => ?_)
          have hP := z_kept hP hk1
          have hP : va_P (dC, dI) vwCl ([(ay, .inl (cI, 60, .inl fy)), (ag, .inl (cI, 12, .inl fg))] ++ zOb cI cZ cH x0 xq xg had (nI N) σ) H := hP
          refine z_tv (v := (-993)) rfl ?_
          refine lv_sipush (v := (-993)) hx hb dL_isRefused_535 (by decide) ?_
          refine lv_icmp_ne (tgt := 555) hx hb dL_isRefused_538 (by decide) (fun c_538 => absurd c_538 (by decide)) (fun c_538 => ?_)
          refine lv_aload_n hx hb dL_isRefused_541 rfl (lv_at hl 0 rfl) ?_
          refine z_cRl (va_runS (As := [.ref x0]) (rest := []) ⟨hx, hb, hml, hown, hts⟩ (kL_all l dC dI cI cZ cH cJ x0 xq (nI N) xg had hg σ (by first | assumption | omega)) (va_cwS 1 hts gL_isRefused_L_all rfl rfl rfl (by decide +kernel) ⟨Nat.le_of_ble_eq_true rfl, Nat.le_of_ble_eq_true rfl⟩) (zPreRS1 hK (zP_r hP)) rfl rfl hl.1 rfl (lv_room (Nat.le_of_ble_eq_true rfl)) dL_isRefused_542 ⟨show _ ≤ 44 by omega, show _ ≤ 264 by omega⟩) ?_
          refine lv_lload hx hb dL_isRefused_545 (lv_at hl 4 rfl) ?_
          refine W.lcmp hx hb dL_isRefused_547 ?_
          refine z_tv (v := 0) z_lc ?_
          refine lv_if_ne (tgt := 555) hx hb dL_isRefused_548 (by decide) (fun c_548 => absurd c_548 (by decide)) (fun c_548 => ?_)
          refine lv_iconst (v := 1) hx hb dL_isRefused_551 (by decide) ?_
          refine lv_goto (tgt := 556) hx hb dL_isRefused_552 (by decide) ?_
          refine W.widen (k := 44) (n := 264) (by omega) (by omega) ?_
          exact W.zret (ty := .boolean) hx hb hr (rfl) (fun t ht hW => ⟨rfl, by rw [ht]; exact hS.1, fun q hq => by rw [ht]; exact hS.2.1 q hq (Nat.not_le.mpr hq)⟩) (fun _ h => nomatch h) dL_isRefused_556
        · skip
          have hlt : i < 20 := z_lt20b hi (by omega) c_463
          refine lv_iload hx hb dL_isRefused_466 (lv_at hl 5 rfl) ?_
          refine lv_if_eq (tgt := 511) hx hb dL_isRefused_468 (by decide) (fun c_468 => absurd c_468 (by decide)) (fun c_468 => ?_)
          refine lv_aload_n hx hb dL_isRefused_471 rfl (lv_at hl 1 rfl) ?_
          refine lv_iload hx hb dL_isRefused_472 (lv_at hl 6 rfl) ?_
          refine z_iald hx hb hK hP 0 rfl (zix_nI (by first | assumption | omega) (by decide)) dL_isRefused_474 ?_
          refine z_tv (v := fy (20 * ca + i)) (rfl) ?_
          refine lv_if_ge (tgt := 498) hx hb dL_isRefused_475 (by decide) (fun c_475 => ?_) (fun c_475 => ?_)
          · skip
            refine lv_iconst (v := 1) hx hb dL_isRefused_498 (by decide) ?_
            refine lv_goto (tgt := 503) hx hb dL_isRefused_499 (by decide) ?_
            refine lv_istore (lv' := [(10, .int 1), (0, .ref x0), (1, .ref ay), (2, .ref ag), (7, .int (nI ca)), (8, .long (zall (nI N) σ 4)), (11, .int (nI (20 * ca + i)))]) hx hb dL_isRefused_503 hl (by decide) rfl (fun ls hl => ?_)
            refine lv_iinc (v := nI (20 * ca + (i + 1))) (lv' := [(11, .int (nI (20 * ca + (i + 1)))), (10, .int 1), (0, .ref x0), (1, .ref ay), (2, .ref ag), (7, .int (nI ca)), (8, .long (zall (nI N) σ 4))]) hx hb dL_isRefused_505 hl (k := 6) rfl (z_1) (by decide) rfl (fun ls hl => ?_)
            refine lv_goto (tgt := 453) hx hb dL_isRefused_508 (by decide) ?_
            refine W.widen (k := 23 + (i + 1)) (n := 138 + 6 * (i + 1)) (by omega) (by omega) ?_
            exact ih1 (i + 1) (by omega) (by omega)  _ hP hS _ (lv_sub hl [2, 3, 4, 5, 6, 1, 0] rfl)
          · skip
            refine lv_aload_n hx hb dL_isRefused_478 rfl (lv_at hl 0 rfl) ?_
            refine lv_iconst (v := 2) hx hb dL_isRefused_479 (by decide) ?_
            refine lv_iload hx hb dL_isRefused_480 (lv_at hl 3 rfl) ?_
            refine lv_iload hx hb dL_isRefused_482 (lv_at hl 6 rfl) ?_
            refine lv_bipush (v := 20) hx hb dL_isRefused_484 (by decide) ?_
            refine lv_irem hx hb dL_isRefused_486 (by decide) ?_
            refine z_tv (v := nI i) (zk20 hlt hca) ?_
            refine lv_iconst (v := 0) hx hb dL_isRefused_487 (by decide) ?_
            refine lv_iconst (v := 0) hx hb dL_isRefused_488 (by decide) ?_
            refine z_cG (vx_runSW (As := [.ref x0, .int 2, .int (nI ca), .int (nI i), .int 0, .int 0]) (rest := []) ⟨hx, hb, hml, hown, hts⟩ (kL_far_n2 l dC dI cI cZ cH cJ x0 xq (nI N) xg had hg σ ca (by first | assumption | omega) i (by first | assumption | omega) ((hyr i hlt).resolve_left c_475) 0 0 hst) (vx_cwSW 6 hts gL_isRefused_L_far rfl rfl rfl (by decide +kernel) ⟨Nat.le_of_ble_eq_true rfl, Nat.le_of_ble_eq_true rfl⟩) (zPreY1 hS hA hT1 hT2 hT3 hT4 hT5 hK (zP_r hP)) rfl rfl hl.1 rfl (lv_room (Nat.le_of_ble_eq_true rfl)) dL_isRefused_489 ⟨show _ ≤ 44 by omega, show _ ≤ 264 by omega⟩) hS (fun H hz1 hk1 hS => ?_)
            have hP := z_kept hP hk1
            have hP : va_P (dC, dI) vwCl ([(ay, .inl (cI, 60, .inl fy)), (ag, .inl (cI, 12, .inl fg))] ++ zOb cI cZ cH x0 xq xg had (nI N) σ) H := hP
            refine z_tv (v := (-993)) rfl ?_
            refine lv_sipush (v := (-993)) hx hb dL_isRefused_492 (by decide) ?_
            refine lv_icmp_ne (tgt := 502) hx hb dL_isRefused_495 (by decide) (fun c_495 => absurd c_495 (by decide)) (fun c_495 => ?_)
            refine lv_iconst (v := 1) hx hb dL_isRefused_498 (by decide) ?_
            refine lv_goto (tgt := 503) hx hb dL_isRefused_499 (by decide) ?_
            refine lv_istore (lv' := [(10, .int 1), (0, .ref x0), (1, .ref ay), (2, .ref ag), (7, .int (nI ca)), (8, .long (zall (nI N) σ 4)), (11, .int (nI (20 * ca + i)))]) hx hb dL_isRefused_503 hl (by decide) rfl (fun ls hl => ?_)
            refine lv_iinc (v := nI (20 * ca + (i + 1))) (lv' := [(11, .int (nI (20 * ca + (i + 1)))), (10, .int 1), (0, .ref x0), (1, .ref ay), (2, .ref ag), (7, .int (nI ca)), (8, .long (zall (nI N) σ 4))]) hx hb dL_isRefused_505 hl (k := 6) rfl (z_1) (by decide) rfl (fun ls hl => ?_)
            refine lv_goto (tgt := 453) hx hb dL_isRefused_508 (by decide) ?_
            refine W.widen (k := 23 + (i + 1)) (n := 138 + 6 * (i + 1)) (by omega) (by omega) ?_
            exact ih1 (i + 1) (by omega) (by omega)  _ hP hS _ (lv_sub hl [2, 3, 4, 5, 6, 1, 0] rfl)
    refine W.widen (k := 23 + 0) (n := 138 + 6 * 0) (by omega) (by omega) ?_
    exact LOOP1 (20 + 1) 0 (by omega) (by omega)  _ hP hS _ (lv_cg (lv_sub (l' := [(0, .ref x0), (1, .ref ay), (2, .ref ag), (7, .int (nI ca)), (8, .long (zall (nI N) σ 4)), (10, .int 1), (11, .int (nI (20 * ca)))]) hl [6, 7, 8, 3, 2, 1, 0] rfl) (zl_k (zl_k (zl_k (zl_k (zl_k (zl_k (zl_c (rfl) (rfl)))))))))
  refine z_cRi (va_runV (As := []) (rest := []) ⟨hx, hb, hml, hown, hts⟩ (c_today l dC dI cI cZ cH cJ x0 xq (nI N) xg had hg σ) (cwV 0 hts gL_isRefused_X3_today rfl rfl rfl (by decide +kernel) ⟨Nat.le_of_ble_eq_true rfl, Nat.le_of_ble_eq_true rfl⟩) (zPreR1 hK (zP_r hP) (zrecv hK (zP_r hP))) rfl rfl hl.1 rfl (lv_room (Nat.le_of_ble_eq_true rfl)) dL_isRefused_340 ⟨show _ ≤ 44 by omega, show _ ≤ 264 by omega⟩) ?_
  refine z_tv (v := nI N) rfl ?_
  refine lv_sipush (v := 4901) hx hb dL_isRefused_343 (by decide) ?_
  refine lv_icmp_lt (tgt := 365) hx hb dL_isRefused_346 (by decide) (fun c_346 => ?_) (fun c_346 => ?_)
  · skip
    refine W.widen (k := 14) (n := 84) (by omega) (by omega) ?_
    exact J365 _ hP hS _ (lv_sub hl [0, 1, 3, 4, 5, 6, 7, 8] rfl)
  · skip
    refine lv_aload_n hx hb dL_isRefused_349 rfl (lv_at hl 5 rfl) ?_
    refine lv_iconst (v := 3) hx hb dL_isRefused_350 (by decide) ?_
    refine lv_bipush (v := 100) hx hb dL_isRefused_351 (by decide) ?_
    refine lv_iconst (v := 0) hx hb dL_isRefused_353 (by decide) ?_
    refine lv_iconst (v := 0) hx hb dL_isRefused_354 (by decide) ?_
    refine lv_iconst (v := 0) hx hb dL_isRefused_355 (by decide) ?_
    refine z_cG (vx_runSW (As := [.ref x0, .int 3, .int 100, .int 0, .int 0, .int 0]) (rest := []) ⟨hx, hb, hml, hown, hts⟩ (kL_far_n3 l dC dI cI cZ cH cJ x0 xq (nI N) xg had hg σ 100 (by decide) (zn_pa hN c_346) hst) (vx_cwSW 6 hts gL_isRefused_L_far rfl rfl rfl (by decide +kernel) ⟨Nat.le_of_ble_eq_true rfl, Nat.le_of_ble_eq_true rfl⟩) (zPreY1 hS hA hT1 hT2 hT3 hT4 hT5 hK (zP_r hP)) rfl rfl hl.1 rfl (lv_room (Nat.le_of_ble_eq_true rfl)) dL_isRefused_356 ⟨show _ ≤ 44 by omega, show _ ≤ 264 by omega⟩) hS (fun H hz1 hk1 hS => ?_)
    have hP := z_kept hP hk1
    have hP : va_P (dC, dI) vwCl ([(ay, .inl (cI, 60, .inl fy)), (ag, .inl (cI, 12, .inl fg))] ++ zOb cI cZ cH x0 xq xg had (nI N) σ) H := hP
    refine z_tv (v := (-993)) rfl ?_
    refine lv_sipush (v := (-993)) hx hb dL_isRefused_359 (by decide) ?_
    refine lv_icmp_ne (tgt := 369) hx hb dL_isRefused_362 (by decide) (fun c_362 => absurd c_362 (by decide)) (fun c_362 => ?_)
    refine W.widen (k := 14) (n := 84) (by omega) (by omega) ?_
    exact J365 _ hP hS _ (lv_sub hl [0, 1, 3, 4, 5, 6, 7, 8] rfl)
