/-! ===== what each call of the law does to what its rows say ===== -/
section PV
theorem zCF_cg {c N : Nat} {x : zHS} {y d g y' d' g' : zI} {u w m : Nat} (h : zCF c N x y d g u w m) (hy : ∀ r, r < 20 → y' (20 * c + r) = y (20 * c + r)) (hd : ∀ r, r < 20 → d' (20 * c + r) = d (20 * c + r)) (h0 : g' (4 * c) = g (4 * c)) (h1 : g' (4 * c + 1) = g (4 * c + 1)) : zCF c N x y' d' g' u w m := by
  obtain ⟨⟨a1, a2, a3, a4, a5, a6, a7, a8, a9, a10, a11⟩, h2⟩ := h
  refine ⟨⟨a1, a2, a3, a4, a5, a6, a7, by rw [h0]; exact a8, by rw [h1]; exact a9, a10, a11⟩, fun r hr => ?_⟩
  rw [hy r hr, hd r hr]
  exact h2 r hr
def zIc (c N : Nat) (x : zHS) (y z d g : zI) : Prop := (∃ u w m, zCF c N x y d g u w m) ∧ zCZ c N x z ∧ hHo x = 0 ∧ g (4 * c + 2) = 0
theorem zInv_up {N ca : Nat} {σ : Nat → zHS} {x : zHS} {y z d g y' z' d' g' : zI} (h : zInv N σ y z d g) (hca : ca < 3) (hy : ∀ c r, ¬ c = ca → r < 20 → y' (20 * c + r) = y (20 * c + r)) (hz : ∀ c r, ¬ c = ca → r < 20 → z' (20 * c + r) = z (20 * c + r)) (hd : ∀ c r, ¬ c = ca → r < 20 → d' (20 * c + r) = d (20 * c + r)) (hg : ∀ c k, ¬ c = ca → k < 4 → g' (4 * c + k) = g (4 * c + k)) (hn : zIc ca N x y' z' d' g') : zInv N (zup σ ca x) y' z' d' g' := by
  refine ⟨h.1, fun c hc => ?_, ?_, ?_⟩
  · by_cases e : c = ca
    · subst e
      rw [zup_s]
      exact hn
    · rw [zup_n e]
      obtain ⟨⟨u, w, m, k1⟩, k2, k3, k4⟩ := h.2.1 c hc
      refine ⟨⟨u, w, m, zCF_cg k1 (fun r hr => hy c r e hr) (fun r hr => hd c r e hr) (hg c 0 e (by decide)) (hg c 1 e (by decide))⟩, fun r hr => ?_, k3, ?_⟩
      · rw [hz c r e hr]
        exact k2 r hr
      · rw [hg c 2 e (by decide)]
        exact k4
  · rw [zup_n (by omega)]
    exact h.2.2.1
  · rw [zup_n (by omega)]
    exact h.2.2.2
theorem upd_o {f : zI} {ca r c k : Nat} {v : Int32} (h : ¬ c = ca) (hr : r < 20) (hk : k < 20) : upd f (20 * ca + r) v (20 * c + k) = f (20 * c + k) := pk_un (by omega)
theorem upd_g {f : zI} {ca r c k : Nat} {v : Int32} (h : ¬ c = ca) (hr : r < 4) (hk : k < 4) : upd f (4 * ca + r) v (4 * c + k) = f (4 * c + k) := pk_un (by omega)
theorem zcl_o {y d : zI} {way today : Int32} {ca c r : Nat} (h : ¬ c = ca) (hr : r < 20) : zcl y d way today (20 * ca) 20 (20 * c + r) = y (20 * c + r) := by
  unfold zcl
  exact if_neg (fun q => by omega)
theorem zcl_i {y d : zI} {way today : Int32} {c r : Nat} (hr : r < 20) : zcl y d way today (20 * c) 20 (20 * c + r) = if ¬ -1 ≤ y (20 * c + r) ∧ (way = 2 ∨ (way = 1 ∧ d (20 * c + r) + 10 ≤ today)) then -1 else y (20 * c + r) := by
  unfold zcl
  by_cases h : ¬ -1 ≤ y (20 * c + r) ∧ (way = 2 ∨ (way = 1 ∧ d (20 * c + r) + 10 ≤ today))
  · rw [if_pos h, if_pos ⟨by omega, by omega, h⟩]
  · rw [if_neg h, if_neg (fun q => h q.2.2)]
theorem zrc_mono {N N' : Nat} {T V W S z : Int32} (h : zrc N T V W S z) (hN : N ≤ N') : zrc N' T V W S z := by
  rcases h with h | ⟨h, a, b, t, ha, hb, ht, h2⟩
  · exact Or.inl h
  · exact Or.inr ⟨h, a, b, t, ha, hb, by omega, h2⟩
/-- told deletes that go, in the catalogue and in the law -/
theorem zfr_clear {N N' w w' : Nat} {fT fV fW fS iT tS rD y d : Int32} (h : zfr N w fT fV fW fS iT tS rD y d) (hN : N ≤ N') (hN' : N' ≤ 5000) (hw : w' ≤ 2) {r : Nat} (hr : r < 20) :
    zfr N' w' fT fV fW fS (if r < 20 ∧ (nI w' = 2 ∨ (nI w' = 1 ∧ ¬ nI N' - rD < 10)) then 0 else iT) tS rD (if ¬ -1 ≤ y ∧ (nI w' = 2 ∨ (nI w' = 1 ∧ d + 10 ≤ nI N')) then -1 else y) d := by
  rcases h with ⟨rfl, rfl, rfl⟩ | ⟨rfl, rfl, t, q, ht, hq, h3, h4, rfl, rfl, h7⟩ | ⟨rfl, rfl, a, b, t, ha, hb, ht, h3, h4, h5, h6⟩
  · refine Or.inl ⟨rfl, ?_, ?_⟩
    · split <;> rfl
    · split <;> rfl
  · have e2 : nI w' = 2 ↔ w' = 2 := nI_eq (b := 2) (by omega) (by decide)
    have e1 : nI w' = 1 ↔ w' = 1 := nI_eq (b := 1) (by omega) (by decide)
    have ea : nI N' - nI q < 10 ↔ N' - q < 10 := by
      rw [pk_sub (by omega)]
      exact nI_ltI (b := 10) (by omega) (by decide)
    have eb : nI q + 10 ≤ nI N' ↔ q + 10 ≤ N' := by
      rw [show nI q + 10 = nI (q + 10) from nI_add q 10]
      exact nI_leI (by omega) (by omega)
    obtain ⟨k1, k2, k3, k4⟩ := ztd_p (t := t) (by omega)
    rw [h4]
    simp only [e2, e1, ea, eb, hr, k2, not_false_eq_true, true_and]
    by_cases g : w' = 2 ∨ (w' = 1 ∧ ¬ N' - q < 10)
    · have g2 : w' = 2 ∨ (w' = 1 ∧ q + 10 ≤ N') := by omega
      rw [if_pos g, if_pos g2]
      exact Or.inl ⟨rfl, rfl, rfl⟩
    · have g2 : ¬ (w' = 2 ∨ (w' = 1 ∧ q + 10 ≤ N')) := by omega
      rw [if_neg g, if_neg g2]
      exact Or.inr (Or.inl ⟨rfl, rfl, t, q, by omega, by omega, h3, rfl, rfl, rfl, by omega, by omega⟩)
  · have k := (zen_p (t := t) ha hb (by omega)).2.1
    rw [h6]
    refine Or.inr (Or.inr ⟨rfl, ?_, a, b, t, ha, hb, by omega, h3, h4, h5, if_neg (fun q => q.1 k)⟩)
    split <;> rfl
theorem zfg_e {iT rD : zI} {de now : Int32} {n r : Nat} : zfg iT rD de now n r = if r < n ∧ (de = 2 ∨ (de = 1 ∧ ¬ now - rD r < 10)) then 0 else iT r := by
  unfold zfg
  rfl
theorem r_set {c N : Nat} {x : zHS} {y z d g g' : zI} {u w m u' w' : Nat} (h : zCF c N x y d g u w m) (hz : zCZ c N x z) (hN : N ≤ 5000) (h1 : 1 ≤ u') (h2 : u' ≤ 30) (h3 : w' ≤ 2) (hg0 : g' (4 * c) = nI u') (hg1 : g' (4 * c + 1) = nI w') (hg2 : g' (4 * c + 2) = 0) (ho : hHo x = 0) : zIc c N (hSet x (nI u') (nI w') (nI N)) (zcl y d (nI w') (nI N) (20 * c) 20) z d g' := by
  obtain ⟨⟨a1, a2, a3, a4, a5, a6, a7, a8, a9, a10, a11⟩, k⟩ := h
  refine ⟨⟨u', w', m, ⟨h1, h2, h3, a4, by rw [hSet_un], by rw [hSet_de], by rw [hSet_mk]; exact a7, hg0, hg1, by rw [hSet_fl]; exact a10, by rw [hSet_ho]; exact a11⟩, fun r hr => ?_⟩, fun r hr => ?_, by rw [hSet_ho]; exact ho, hg2⟩
  · have k2 := zfr_clear (k r hr) (Nat.le_refl N) hN h3 hr
    rw [hSet_fT, hSet_fV, hSet_fW, hSet_fS, hSet_iT, hSet_tS, hSet_rD, zfg_e, zcl_i hr]
    exact k2
  · rw [hSet_sT, hSet_sV, hSet_sW, hSet_sS]
    exact hz r hr
theorem r_age {c N N' : Nat} {x : zHS} {y z d g : zI} {u w m : Nat} (h : zCF c N x y d g u w m) (hz : zCZ c N x z) (hN : N ≤ N') (hN' : N' ≤ 5000) (hg2 : g (4 * c + 2) = 0) (ho : hHo x = 0) : zIc c N' (hAge x (nI N')) (zcl y d (g (4 * c + 1)) (nI N') (20 * c) 20) z d g := by
  obtain ⟨⟨a1, a2, a3, a4, a5, a6, a7, a8, a9, a10, a11⟩, k⟩ := h
  refine ⟨⟨u, w, m, ⟨a1, a2, a3, Nat.le_trans a4 hN, by rw [hAge_un]; exact a5, by rw [hAge_de]; exact a6, by rw [hAge_mk]; exact a7, a8, a9, by rw [hAge_fl]; exact a10, by rw [hAge_ho]; exact a11⟩, fun r hr => ?_⟩, fun r hr => ?_, by rw [hAge_ho]; exact ho, hg2⟩
  · have k2 := zfr_clear (k r hr) hN hN' a3 hr
    rw [hAge_fT, hAge_fV, hAge_fW, hAge_fS, hAge_iT, hAge_tS, hAge_rD, zfg_e, zcl_i hr, a9, a6]
    exact k2
  · rw [hAge_sT, hAge_sV, hAge_sW, hAge_sS]
    exact zrc_mono (hz r hr) hN
end PV
