theorem zstep {L j : Nat} (hL : L ≤ 2560) (h1 : 5 * j ≤ L) (c : ¬ Int32.ofNat L - 5 < nI (5 * j)) : 5 * j + 5 ≤ L := by
  have e : (Int32.ofNat L - 5).toInt = (L : Int) - 5 := pk_sub_toInt (a := L) (b := 5) (by omega) (by decide)
  rw [Int32.lt_iff_toInt_lt, e, nI_toInt (by omega)] at c
  omega
set_option maxHeartbeats 4000000 in
set_option maxRecDepth 100000 in
/-- THE LAW'S LOOP -/
theorem law_loop {p : Program} {l : Launch} {e : Env} {s : State} {m : MethodId} {below : List Frame} {meth : Method} {c : Code} {b L : Nat} {xs : Nat → Int32} {dC : Nat → ClassId} {dI : Nat → Nat → Nat} {cI cZ cH cJ : ClassId} {x0 xq o : Nat} {xg : Nat → Option Nat} {had : Nat → Nat → Nat} {ma : Nat → Nat} (hF : LFix p l s m meth c b L xs dC dI cI cZ cH cJ (fun q : Nat => s.heap.size ≤ q) xg had) : ∀ (n j : Nat), 5 * j ≤ L → L + 1 ≤ 5 * j + n → ∀ (H : Heap) (locs : List Loc) (ls : Array Slot), LInv dC dI cI cZ cH cJ (fun q : Nat => s.heap.size ≤ q) s x0 xq o xg had ma H locs → lv_has ls 7 [(0, .ref b), (1, .ref x0), (2, .ref (ma 0)), (3, .ref o), (4, .int (nI (5 * j)))] → W p l e room_1 s m #[Value.ref b] below meth c H locs (88 + j) (1925 + 6 * j) (lw_Z below #[Value.ref b] s) (F0 m 23 ls []) := by
  obtain ⟨hC0, hst, hA, hbA, hK, hT1, hT2, hT3, hT4, hT5, hg, hL⟩ := id hF
  obtain ⟨hx, hb0, hr, hml, hown, hts0, hX, hbl, hlocks, hgv⟩ := hC0
  have hb : c.code = cL_law := hb0
  intro n
  induction n with
  | zero => intro j h1 h2; exact absurd h2 (by omega)
  | succ n ih =>
    intro j h1 h2 H locs ls hI hl
    obtain ⟨now, th, σ, uU, uY, uK, uW, uV, uS, uR, uM, uO, uF, uG, uE, uD, uP, uQ, uH, xW, xV, xS, uN, fo, hn, hR, hP, hD, hS⟩ := id hI
    clear hP hD hR
    refine lv_iload hx hb dL_law_23 (lv_at hl 4 rfl) ?_
    refine lv_aload_n hx hb dL_law_25 rfl (lv_at hl 0 rfl) ?_
    refine va_slen hx hb hX hbl hbA hS dL_law_26 ?_
    refine lv_iconst (v := 5) hx hb dL_law_27 (by decide) ?_
    refine lv_isub hx hb dL_law_28 ?_
    refine lv_icmp_gt (tgt := 1101) hx hb dL_law_29 (by decide) (fun c1 => ?_) (fun c1 => ?_)
    · refine lv_iconst (v := 1) hx hb dL_law_1101 (by decide) ?_
      refine va_forget (fun q hq => hS.2.2 q hq) ?_
      refine W.widen (k := 601024) (n := 7293034) (by omega) (by omega) ?_
      exact lw_ret hx hb0 hr hlocks dL_law_1102
    · have hj : 5 * j + 5 ≤ L := zstep hL h1 c1
      have hk : ∀ (H : Heap) (locs : List Loc) (ls : Array Slot), LInv dC dI cI cZ cH cJ (fun q : Nat => s.heap.size ≤ q) s x0 xq o xg had ma H locs → lv_has ls 7 [(0, .ref b), (1, .ref x0), (2, .ref (ma 0)), (3, .ref o), (4, .int (nI (5 * j)))] → W p l e room_1 s m #[Value.ref b] below meth c H locs (88 + j + 1) (1925 + 6 * j + 6) (lw_Z below #[Value.ref b] s) (F0 m 1095 ls []) := by
        intro H locs ls hI hl
        refine lv_iinc (v := nI (5 * (j + 1))) (lv' := [(4, .int (nI (5 * (j + 1)))), (0, .ref b), (1, .ref x0), (2, .ref (ma 0)), (3, .ref o)]) hx hb dL_law_1095 hl (k := 4) rfl (nI_add _ _) (by decide) rfl (fun ls hl => ?_)
        refine lv_goto (tgt := 23) hx hb dL_law_1098 (by decide) ?_
        refine W.widen (k := 88 + (j + 1)) (n := 1925 + 6 * (j + 1)) (by omega) (by omega) ?_
        exact ih (j + 1) (by omega) (by omega) H locs ls hI (lv_sub hl [1, 2, 3, 4, 0] rfl)
      refine lv_aload_n hx hb dL_law_32 rfl (lv_at hl 0 rfl) ?_
      refine lv_iload hx hb dL_law_33 (lv_at hl 4 rfl) ?_
      refine va_sld hx hb hX hbl hbA hS (vp_in_nI (n := 5 * j) (by omega) (by omega)) dL_law_35 ?_
      refine lv_bipush (v := 15) hx hb dL_law_36 (by decide) ?_
      refine lv_iand hx hb dL_law_38 ?_
      obtain ⟨k, hk16, ek⟩ := pk_andE (xs (nI (5 * j)).toNatClampNeg) (m := 15) 4 (by decide)
      refine z_tv (v := nI k) ek ?_
      clear ek hS
      have hc0 : 88 + j + 1 ≤ 601024 := by omega
      have hs0 : 1925 + 6 * j + 6 ≤ 7293034 := by omega
      rcases (show k = 0 ∨ k = 1 ∨ k = 2 ∨ k = 3 ∨ k = 4 ∨ k = 5 ∨ k = 6 ∨ k = 7 ∨ k = 8 ∨ k = 9 ∨ k = 10 ∨ k = 11 ∨ k = 12 ∨ k = 13 ∨ k = 14 ∨ k = 15 by omega) with rfl | rfl | rfl | rfl | rfl | rfl | rfl | rfl | rfl | rfl | rfl | rfl | rfl | rfl | rfl | rfl
      · refine lv_tableIn (off := 77) (tgt := 116) hx hb dL_law_39 (by decide) (by decide) (by decide) (by decide) ?_
        exact lc_setCatalogue hF hc0 hs0 hj hk hI hl
      · refine lv_tableIn (off := 157) (tgt := 196) hx hb dL_law_39 (by decide) (by decide) (by decide) (by decide) ?_
        exact lc_put hF hc0 hs0 hj hk hI hl
      · refine lv_tableIn (off := 249) (tgt := 288) hx hb dL_law_39 (by decide) (by decide) (by decide) (by decide) ?_
        exact lc_remove hF hc0 hs0 hj hk hI hl
      · refine lv_tableIn (off := 324) (tgt := 363) hx hb dL_law_39 (by decide) (by decide) (by decide) (by decide) ?_
        exact lc_pass hF hc0 hs0 hj hk hI hl
      · refine lv_tableIn (off := 380) (tgt := 419) hx hb dL_law_39 (by decide) (by decide) (by decide) (by decide) ?_
        exact lc_today hF hc0 hs0 hj hk hI hl
      · refine lv_tableIn (off := 393) (tgt := 432) hx hb dL_law_39 (by decide) (by decide) (by decide) (by decide) ?_
        exact lc_far hF hc0 hs0 hj hk hI hl
      · refine lv_tableIn (off := 449) (tgt := 488) hx hb dL_law_39 (by decide) (by decide) (by decide) (by decide) ?_
        exact lc_told hF hc0 hs0 hj hk hI hl
      · refine lv_tableIn (off := 505) (tgt := 544) hx hb dL_law_39 (by decide) (by decide) (by decide) (by decide) ?_
        exact lc_open hF hc0 hs0 hj hk hI hl
      · refine lv_tableIn (off := 589) (tgt := 628) hx hb dL_law_39 (by decide) (by decide) (by decide) (by decide) ?_
        exact lc_read hF hc0 hs0 hj hk hI hl
      · refine lv_tableIn (off := 645) (tgt := 684) hx hb dL_law_39 (by decide) (by decide) (by decide) (by decide) ?_
        exact lc_isOpen hF hc0 hs0 hj hk hI hl
      · refine lv_tableIn (off := 708) (tgt := 747) hx hb dL_law_39 (by decide) (by decide) (by decide) (by decide) ?_
        exact lc_mark hF hc0 hs0 hj hk hI hl
      · refine lv_tableIn (off := 764) (tgt := 803) hx hb dL_law_39 (by decide) (by decide) (by decide) (by decide) ?_
        exact lc_stored hF hc0 hs0 hj hk hI hl
      · refine lv_tableIn (off := 832) (tgt := 871) hx hb dL_law_39 (by decide) (by decide) (by decide) (by decide) ?_
        exact lc_held hF hc0 hs0 hj hk hI hl
      · refine lv_tableIn (off := 888) (tgt := 927) hx hb dL_law_39 (by decide) (by decide) (by decide) (by decide) ?_
        exact lc_wrong hF hc0 hs0 hj hk hI hl
      · refine lv_tableIn (off := 944) (tgt := 983) hx hb dL_law_39 (by decide) (by decide) (by decide) (by decide) ?_
        exact lc_copies hF hc0 hs0 hj hk hI hl
      · refine lv_tableIn (off := 1000) (tgt := 1039) hx hb dL_law_39 (by decide) (by decide) (by decide) (by decide) ?_
        exact lc_best hF hc0 hs0 hj hk hI hl
