section PV2
theorem zw2n' {w : Nat} (h : ¬ w = 2) (hw : w ≤ 2) : ¬ nI w = 2 := fun q => h (zw2 hw q)
/-- none is over that stands -/
theorem r_still {c N : Nat} {x : zHS} {y d g : zI} {u w m : Nat} (h : zCF c N x y d g u w m) (hN : N ≤ 5000) {r : Nat} (hr : r < 20) : zcl y d (g (4 * c + 1)) (nI N) (20 * c) 20 (20 * c + r) = y (20 * c + r) := by
  obtain ⟨⟨a1, a2, a3, a4, a5, a6, a7, a8, a9, a10, a11⟩, k⟩ := h
  rw [zcl_i hr, a9]
  have e2 : nI w = 2 ↔ w = 2 := nI_eq (b := 2) (by omega) (by decide)
  have e1 : nI w = 1 ↔ w = 1 := nI_eq (b := 1) (by omega) (by decide)
  refine if_neg (fun ⟨q1, q2⟩ => ?_)
  rcases k r hr with ⟨-, -, h3⟩ | ⟨-, -, t, q, ht, hq, h3, h4, h5, h6, h7, h8⟩ | ⟨-, -, a, b, t, ha, hb, ht, -, -, -, h6⟩
  · rw [h3] at q1
    exact q1 (by decide)
  · rw [h6, e2, e1, show nI q + 10 = nI (q + 10) from nI_add q 10, nI_leI (by omega) (by omega)] at q2
    omega
  · rw [h6] at q1
    exact q1 (zen_p (t := t) ha hb (by omega)).2.1
theorem r_put {c N : Nat} {x : zHS} {y d g : zI} {u w m r0 a b : Nat} (h : zCF c N x y d g u w m) (hN : N ≤ 5000) (hr0 : r0 < 20) (ha : a ≤ 1000) (hb : b ≤ 9) : zCF c N (hPut x r0 (nI b) (nI a) (nI N)) (upd y (20 * c + r0) (zenN a b (N - N % u))) d g u w m := by
  obtain ⟨⟨a1, a2, a3, a4, a5, a6, a7, a8, a9, a10, a11⟩, k⟩ := h
  refine ⟨⟨a1, a2, a3, a4, by rw [hPut_un]; exact a5, by rw [hPut_de]; exact a6, by rw [hPut_mk]; exact a7, a8, a9, by rw [hPut_fl]; exact a10, by rw [hPut_ho]; exact a11⟩, fun r hr => ?_⟩
  rw [hPut_fT, hPut_fV, hPut_fW, hPut_fS, hPut_iT, hPut_tS, hPut_rD]
  by_cases e : r = r0
  · subst e
    rw [pk_us, pk_us, pk_us, pk_us, pk_us, pk_us, a5, zst_n a1 a2 hN]
    exact Or.inr (Or.inr ⟨rfl, rfl, a, b, N - N % u, ha, hb, Nat.sub_le _ _, rfl, rfl, rfl, rfl⟩)
  · rw [pk_un e, pk_un e, pk_un e, pk_un e, pk_un e, pk_un (show 20 * c + r ≠ 20 * c + r0 by omega)]
    exact k r hr
theorem r_rem {c N : Nat} {x : zHS} {y z d g : zI} {u w m r0 : Nat} (h : zCF c N x y d g u w m) (hz : zCZ c N x z) (hN : N ≤ 5000) (hr0 : r0 < 20) (hg2 : g (4 * c + 2) = 0) (ho : hHo x = 0) : zIc c N (hRem x r0 (nI N)) (upd y (20 * c + r0) (if w = 2 then -1 else -2 - nI (N - N % u))) z (upd d (20 * c + r0) (nI N)) g := by
  obtain ⟨⟨a1, a2, a3, a4, a5, a6, a7, a8, a9, a10, a11⟩, k⟩ := h
  refine ⟨⟨u, w, m, ⟨a1, a2, a3, a4, by rw [hRem_un]; exact a5, by rw [hRem_de]; exact a6, by rw [hRem_mk]; exact a7, a8, a9, by rw [hRem_fl]; exact a10, by rw [hRem_ho]; exact a11⟩, fun r hr => ?_⟩, fun r hr => ?_, by rw [hRem_ho]; exact ho, hg2⟩
  · rw [hRem_fT, hRem_fV, hRem_fW, hRem_fS, hRem_iT, hRem_tS, hRem_rD]
    by_cases e : r = r0
    · subst e
      rw [pk_us, pk_us, pk_us, pk_us, pk_us, pk_us, a5, a6, zst_n a1 a2 hN]
      by_cases g2 : w = 2
      · rw [if_pos g2, if_neg (fun q => q (by rw [g2]; rfl))]
        exact Or.inl ⟨rfl, rfl, rfl⟩
      · have e2 : ¬ nI w = 2 := zw2n' g2 a3
        rw [if_neg g2, if_pos e2]
        exact Or.inr (Or.inl ⟨rfl, rfl, N - N % u, N, Nat.sub_le _ _, Nat.le_refl _, rfl, rfl, rfl, rfl, g2, fun _ => by omega⟩)
    · rw [pk_un e, pk_un e, pk_un e, pk_un e, pk_un (show 20 * c + r ≠ 20 * c + r0 by omega), pk_un (show 20 * c + r ≠ 20 * c + r0 by omega)]
      exact k r hr
  · rw [hRem_sT, hRem_sV, hRem_sW, hRem_sS]
    exact hz r hr
/-- behind a round -/
theorem r_round {c N F : Nat} {full : Int32} {x : zHS} {y z d g : zI} {u w m : Nat} (h : zCF c N x y d g u w m) (hz : full = 0 → zCZ c N x z) (hN : N ≤ 5000) (hF : F ≤ 5000) (hff : full = 0 ∨ full = 1) (hFd : F = if full = 0 then m else 0) : zIc c N (hRound x full (nI N) F) y (zrz y z full F (20 * c) 20) d (upd g (4 * c + 2) 0) := by
  have hd : zDone N F full x (hRound x full (nI N) F) := z_done hff (zCF_z h hN) hF h.1.2.2.2.2.2.2.1 hFd
  have h1 := z_roundF h hN hd hff
  refine ⟨⟨u, w, _, zCF_cg h1 (fun _ _ => rfl) (fun _ _ => rfl) (pk_un (by omega)) (pk_un (by omega))⟩, z_roundZ h hz hN hF hd hff (fun q => by rw [hFd, q]; rfl), hd.2.2.2.1, pk_us⟩
theorem zInv_yr {N : Nat} {σ : Nat → zHS} {y z d g : zI} (h : zInv N σ y z d g) {c : Nat} (hc : c < 3) : ∀ r, r < 20 → 0 ≤ y (20 * c + r) ∨ hFT (σ c) r = 0 := fun r hr => by
  obtain ⟨⟨u, w, m, k⟩, -⟩ := h.2.1 c hc
  have k2 := (zfr_y (k.2 r hr) h.1).2.1
  by_cases e : hFT (σ c) r = 0
  · exact Or.inr e
  · exact Or.inl (k2.mpr e)
/-- days pass -/
theorem zInv_age {N N' : Nat} {σ : Nat → zHS} {y z d g : zI} (h : zInv N σ y z d g) (hN : N ≤ N') (hN' : N' ≤ 5000) : zInv N' (fun j => hAge (σ j) (nI N')) (zcl (zcl (zcl y d (g (4 * 0 + 1)) (nI N') (20 * 0) 20) d (g (4 * 1 + 1)) (nI N') (20 * 1) 20) d (g (4 * 2 + 1)) (nI N') (20 * 2) 20) z d g := by
  have own : ∀ c, c < 3 → ∀ r, r < 20 → zcl (zcl (zcl y d (g (4 * 0 + 1)) (nI N') (20 * 0) 20) d (g (4 * 1 + 1)) (nI N') (20 * 1) 20) d (g (4 * 2 + 1)) (nI N') (20 * 2) 20 (20 * c + r) = zcl y d (g (4 * c + 1)) (nI N') (20 * c) 20 (20 * c + r) := fun c hc r hr => by
    match c, hc with
    | 0, _ => rw [zcl_o (by decide) hr, zcl_o (by decide) hr]
    | 1, _ => rw [zcl_o (by decide) hr, zcl_i hr, zcl_i hr, zcl_o (by decide) hr]
    | 2, _ => rw [zcl_i hr, zcl_i hr, zcl_o (by decide) hr, zcl_o (by decide) hr]
  refine ⟨hN', fun c hc => ?_, ?_, fun r hr => ?_⟩
  · obtain ⟨⟨u, w, m, k1⟩, k2, k3, k4⟩ := h.2.1 c hc
    obtain ⟨⟨u', w', m', q1⟩, q2, q3, q4⟩ := r_age k1 k2 hN hN' k4 k3
    exact ⟨⟨u', w', m', zCF_cg q1 (own c hc) (fun _ _ => rfl) rfl rfl⟩, q2, q3, q4⟩
  · show hHo (hAge (σ 3) (nI N')) = 0
    rw [hAge_ho]
    exact h.2.2.1
  · have k := h.2.2.2 r hr
    show hFT (hAge (σ 3) (nI N')) r = 0 ∧ hIT (hAge (σ 3) (nI N')) r = 0 ∧ hST (hAge (σ 3) (nI N')) r = 0
    rw [hAge_fT, hAge_iT, hAge_sT]
    refine ⟨k.1, ?_, k.2.2⟩
    rw [zfg_e]
    split
    · rfl
    · exact k.2.1
/-- nothing has passed -/
theorem zInv_still {N : Nat} {σ : Nat → zHS} {y z d g : zI} (h : zInv N σ y z d g) : zInv N σ (zcl (zcl (zcl y d (g (4 * 0 + 1)) (nI N) (20 * 0) 20) d (g (4 * 1 + 1)) (nI N) (20 * 1) 20) d (g (4 * 2 + 1)) (nI N) (20 * 2) 20) z d g := by
  have own : ∀ c, c < 3 → ∀ r, r < 20 → zcl (zcl (zcl y d (g (4 * 0 + 1)) (nI N) (20 * 0) 20) d (g (4 * 1 + 1)) (nI N) (20 * 1) 20) d (g (4 * 2 + 1)) (nI N) (20 * 2) 20 (20 * c + r) = zcl y d (g (4 * c + 1)) (nI N) (20 * c) 20 (20 * c + r) := fun c hc r hr => by
    match c, hc with
    | 0, _ => rw [zcl_o (by decide) hr, zcl_o (by decide) hr]
    | 1, _ => rw [zcl_o (by decide) hr, zcl_i hr, zcl_i hr, zcl_o (by decide) hr]
    | 2, _ => rw [zcl_i hr, zcl_i hr, zcl_o (by decide) hr, zcl_o (by decide) hr]
  refine ⟨h.1, fun c hc => ?_, h.2.2⟩
  obtain ⟨⟨u, w, m, k1⟩, k2, k3, k4⟩ := h.2.1 c hc
  exact ⟨⟨u, w, m, zCF_cg k1 (fun r hr => (own c hc r hr).trans (r_still k1 h.1 hr)) (fun _ _ => rfl) rfl rfl⟩, k2, k3, k4⟩
end PV2
