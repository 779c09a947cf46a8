/-! ===== lists: the next one, a page ===== -/
section PL
/-- what stands in lists -/
def zLz (z : zI) : Prop := ∀ r, r < 20 → z r = -1 ∨ ∃ t : Nat, t ≤ 5000 ∧ z r = nI t
/-- the order in a list from F on: 0 what is not in it -/
def zq (z : zI) (F r : Nat) : Nat := if z r = -1 ∨ z r < nI F then 0 else 20 * (z r).toNatClampNeg + r + 1
theorem nI_m1 {t : Nat} (h : t < 2 ^ 31) : ¬ nI t = -1 := fun e => by
  have h1 := nI_toInt h
  rw [e] at h1
  have e1 : (-1 : Int32).toInt = -1 := by decide
  omega
theorem nI_gm1 {t : Nat} (h : t < 2 ^ 31) : (-1 : Int32) < nI t := by
  have e1 : (-1 : Int32).toInt = -1 := by decide
  rw [Int32.lt_iff_toInt_lt, nI_toInt h, e1]
  omega
theorem zq_n {z : zI} {F r : Nat} (h : z r = -1) : zq z F r = 0 := if_pos (Or.inl h)
theorem zq_t {z : zI} {F r t : Nat} (hF : F ≤ 5000) (ht : t ≤ 5000) (h : z r = nI t) : zq z F r = if t < F then 0 else 20 * t + r + 1 := by
  unfold zq
  rw [h, nI_clamp (by omega)]
  by_cases g : t < F
  · rw [if_pos g, if_pos (Or.inr (nI_lt g (by omega)))]
  · rw [if_neg g, if_neg]
    rintro (q | q)
    · exact nI_m1 (by omega) q
    · exact g ((nI_ltI (by omega) (by omega)).mp q)
/-- a place: how far a list is read -/
def zpl (ps pr : Int32) (P : Nat) : Prop := (P = 0 ∧ ps = -1 ∧ pr = -1) ∨ ∃ t r : Nat, t ≤ 5000 ∧ r < 20 ∧ ps = nI t ∧ pr = nI r ∧ P = 20 * t + r + 1
theorem znx_cond {z : zI} {F P n : Nat} {ps pr : Int32} (hz : zLz z) (hF : F ≤ 5000) (hp : zpl ps pr P) (hn : n < 20) : (z n ≠ -1 ∧ ¬ z n < nI F ∧ (ps < z n ∨ (z n = ps ∧ ¬ nI n ≤ pr))) ↔ P < zq z F n := by
  rcases hz n hn with h | ⟨t, ht, h⟩
  · rw [zq_n h]
    constructor
    · intro q
      exact absurd h q.1
    · intro q
      omega
  · rw [zq_t hF ht h, h, nI_ltI (by omega) (by omega)]
    rcases hp with ⟨rfl, rfl, rfl⟩ | ⟨t', r', ht', hr', rfl, rfl, rfl⟩
    · constructor
      · rintro ⟨-, q2, -⟩
        rw [if_neg q2]
        omega
      · intro q
        by_cases g : t < F
        · rw [if_pos g] at q
          omega
        · exact ⟨nI_m1 (by omega), g, Or.inl (nI_gm1 (by omega))⟩
    · rw [nI_ltI (by omega) (by omega), nI_eq (by omega) (by omega), nI_leI (by omega) (by omega)]
      constructor
      · rintro ⟨-, q2, q3⟩
        rw [if_neg q2]
        omega
      · intro q
        by_cases g : t < F
        · rw [if_pos g] at q
          omega
        · rw [if_neg g] at q
          exact ⟨nI_m1 (by omega), g, by omega⟩
theorem zq_st {z : zI} {F P r : Nat} (hz : zLz z) (hF : F ≤ 5000) (hr : r < 20) (h : P < zq z F r) : ∃ t : Nat, t ≤ 5000 ∧ z r = nI t ∧ zq z F r = 20 * t + r + 1 := by
  rcases hz r hr with g | ⟨t, ht, g⟩
  · rw [zq_n g] at h
    omega
  · rw [zq_t hF ht g] at h ⊢
    by_cases q : t < F
    · rw [if_pos q] at h
      omega
    · rw [if_neg q]
      exact ⟨t, ht, g, rfl⟩
theorem zq_inj {z : zI} {F r r' : Nat} (hz : zLz z) (hF : F ≤ 5000) (hr : r < 20) (hr' : r' < 20) (h : 0 < zq z F r) (e : zq z F r = zq z F r') : r = r' := by
  obtain ⟨t, -, -, h1⟩ := zq_st hz hF hr h
  obtain ⟨t', -, -, h2⟩ := zq_st hz hF hr' (e ▸ h)
  omega
theorem znx_spec {z : zI} {F P : Nat} {ps pr : Int32} (hz : zLz z) (hF : F ≤ 5000) (hp : zpl ps pr P) : ∀ n, n ≤ 20 → ((znx z (nI F) ps pr n).1 = -1 ∧ ∀ r, r < n → ¬ P < zq z F r) ∨ ∃ r, r < n ∧ znx z (nI F) ps pr n = (nI r, z r) ∧ P < zq z F r ∧ ∀ r', r' < n → P < zq z F r' → zq z F r ≤ zq z F r'
  | 0, _ => Or.inl ⟨rfl, fun r hr => absurd hr (Nat.not_lt_zero r)⟩
  | n + 1, hn => by
    have ih := znx_spec hz hF hp n (by omega)
    have hc := znx_cond hz hF hp (n := n) (by omega)
    unfold znx
    by_cases hq : P < zq z F n
    · obtain ⟨c1, c2, c3⟩ := hc.mpr hq
      obtain ⟨t, ht, e, eq⟩ := zq_st hz hF (by omega) hq
      rcases ih with ⟨h1, h2⟩ | ⟨r, h1, h2, h3, h4⟩
      · rw [if_pos ⟨c1, c2, c3, Or.inl h1⟩]
        refine Or.inr ⟨n, Nat.lt_succ_self n, rfl, hq, fun r' hr' h => ?_⟩
        by_cases e : r' = n
        · subst e
          exact Nat.le_refl _
        · exact absurd h (h2 r' (by omega))
      · obtain ⟨t', ht', e', eq'⟩ := zq_st hz hF (by omega) h3
        rw [h2]
        have hne : ¬ nI r = -1 := nI_m1 (by omega)
        by_cases g : z r ≤ z n
        · rw [if_neg (fun q => q.2.2.2.elim hne (fun k => k g))]
          refine Or.inr ⟨r, by omega, rfl, h3, fun r' hr' h => ?_⟩
          by_cases e2 : r' = n
          · subst e2
            rw [e', e, nI_leI (by omega) (by omega)] at g
            omega
          · exact h4 r' (by omega) h
        · rw [if_pos ⟨c1, c2, c3, Or.inr g⟩]
          refine Or.inr ⟨n, Nat.lt_succ_self n, rfl, hq, fun r' hr' h => ?_⟩
          by_cases e2 : r' = n
          · subst e2
            exact Nat.le_refl _
          · have h5 := h4 r' (by omega) h
            rw [e', e, nI_leI (by omega) (by omega)] at g
            omega
    · rw [if_neg (fun q => hq (hc.mp ⟨q.1, q.2.1, q.2.2.1⟩))]
      rcases ih with ⟨h1, h2⟩ | ⟨r, h1, h2, h3, h4⟩
      · refine Or.inl ⟨h1, fun r hr => ?_⟩
        by_cases e : r = n
        · subst e
          exact hq
        · exact h2 r (by omega)
      · refine Or.inr ⟨r, by omega, h2, h3, fun r' hr' h => ?_⟩
        by_cases e2 : r' = n
        · subst e2
          exact absurd h hq
        · exact h4 r' (by omega) h
/-- how many are left behind a place -/
def zlf (z : zI) (F P : Nat) : Nat := zc (fun r => decide (P < zq z F r)) 20
/-- what the store and the marks of a page hold when the list is read up to P -/
def zPI (z fT fW fV fS : zI) (F : Nat) (oT oW oV oS : zI) (x : zPg) (P : Nat) : Prop :=
  zpl x.1 x.2.1 P ∧ ∀ r, r < 20 → if 0 < zq z F r ∧ zq z F r ≤ P then
    x.2.2.1 r = (if fT r = 0 then 0 else 1) ∧ x.2.2.2.2.2.2 r = (if fT r = 0 then 0 else 1) ∧ (¬ fT r = 0 → x.2.2.2.1 r = fW r ∧ x.2.2.2.2.1 r = fV r ∧ x.2.2.2.2.2.1 r = fS r)
  else x.2.2.1 r = oT r ∧ x.2.2.2.2.2.2 r = 0 ∧ x.2.2.2.1 r = oW r ∧ x.2.2.2.2.1 r = oV r ∧ x.2.2.2.2.2.1 r = oS r
theorem zPI_s {z fT fW fV fS : zI} {F : Nat} {oT oW oV oS : zI} {x : zPg} {P r : Nat} (hz : zLz z) (hF : F ≤ 5000) (h : zPI z fT fW fV fS F oT oW oV oS x P) (hr : r < 20) (hq : P < zq z F r) (hm : ∀ r', r' < 20 → P < zq z F r' → zq z F r ≤ zq z F r') :
    zPI z fT fW fV fS F oT oW oV oS (ztk fT fW fV fS z x r) (zq z F r) ∧ zlf z F P = zlf z F (zq z F r) + 1 := by
  obtain ⟨t, ht, e, eq⟩ := zq_st hz hF hr hq
  obtain ⟨h1, h2⟩ := h
  refine ⟨⟨Or.inr ⟨t, r, ht, hr, e, rfl, eq⟩, fun r' hr' => ?_⟩, ?_⟩
  · have h3 := h2 r' hr'
    by_cases e2 : r' = r
    · subst e2
      rw [if_pos ⟨by omega, Nat.le_refl _⟩]
      unfold ztk
      by_cases g : fT r' = 0
      · simp only [g, if_true]
        rw [if_neg (fun q => absurd q.2 (by omega))] at h3
        exact ⟨pk_us, h3.2.1, fun q => absurd trivial q⟩
      · simp only [g, if_false]
        exact ⟨pk_us, pk_us, fun _ => ⟨pk_us, pk_us, pk_us⟩⟩
    · have hx : (0 < zq z F r' ∧ zq z F r' ≤ zq z F r) ↔ (0 < zq z F r' ∧ zq z F r' ≤ P) := by
        constructor
        · rintro ⟨q1, q2⟩
          refine ⟨q1, Nat.le_of_not_lt (fun q => ?_)⟩
          have h4 := hm r' hr' q
          exact e2 (zq_inj hz hF hr' hr q1 (Nat.le_antisymm q2 h4))
        · rintro ⟨q1, q2⟩
          exact ⟨q1, by omega⟩
      have u : ∀ (f : zI) (v : Int32), upd f r v r' = f r' := fun f v => pk_un e2
      have w : ∀ (f g : zI) (v : Int32), (if fT r = 0 then f else upd f r v) r' = f r' := fun f g v => by
        split
        · rfl
        · exact u f v
      unfold ztk
      simp only [u, w _ fT]
      simp only [hx]
      exact h3
  · unfold zlf
    refine zc_one (r0 := r) (by simpa using hq) (by simp) 20 hr (fun r' hr' hne => ?_)
    by_cases g : P < zq z F r'
    · have h4 := hm r' hr' g
      have h5 : ¬ zq z F r = zq z F r' := fun q => hne (zq_inj hz hF hr' hr (by omega) q.symm)
      simp only [decide_eq_decide]
      omega
    · simp only [decide_eq_decide]
      omega
theorem zlf_0 {z : zI} {F P : Nat} (h : ∀ r, r < 20 → ¬ P < zq z F r) : zlf z F P = 0 := zc_z 20 (fun r hr => by simpa using h r hr)
theorem zpg_spec {z fT fW fV fS : zI} {F : Nat} {oT oW oV oS : zI} (hz : zLz z) (hF : F ≤ 5000) : ∀ (k : Nat) (x : zPg) (P c : Nat), zPI z fT fW fV fS F oT oW oV oS x P → ∃ (x' : zPg) (P' : Nat), zpg fT fW fV fS z (nI F) k x (nI c) = (x', nI (c + min k (zlf z F P))) ∧ zPI z fT fW fV fS F oT oW oV oS x' P' ∧ zlf z F P = zlf z F P' + min k (zlf z F P) ∧ P ≤ P'
  | 0, x, P, c, h => ⟨x, P, by rw [Nat.zero_min]; rfl, h, by omega, Nat.le_refl _⟩
  | k + 1, x, P, c, h => by
    rw [zpg]
    rcases znx_spec hz hF h.1 20 (Nat.le_refl _) with ⟨h1, h2⟩ | ⟨r, h1, h2, h3, h4⟩
    · rw [if_pos h1, zlf_0 h2]
      exact ⟨x, P, rfl, h, by rw [zlf_0 h2]; rfl, Nat.le_refl _⟩
    · obtain ⟨g1, g2⟩ := zPI_s hz hF h h1 h3 h4
      rw [h2, if_neg (nI_m1 (by omega)), nI_clamp (by omega), nI_1]
      obtain ⟨x', P', a1, a2, a3, a4⟩ := zpg_spec hz hF k _ _ (c + 1) g1
      refine ⟨x', P', ?_, a2, by omega, by omega⟩
      rw [a1]
      congr 2
      omega
theorem znx_end {z fT fW fV fS : zI} {F : Nat} {oT oW oV oS : zI} {x : zPg} {P : Nat} (hz : zLz z) (hF : F ≤ 5000) (h : zPI z fT fW fV fS F oT oW oV oS x P) : (znx z (nI F) x.1 x.2.1 20).1 = -1 ↔ zlf z F P = 0 := by
  rcases znx_spec hz hF h.1 20 (Nat.le_refl _) with ⟨h1, h2⟩ | ⟨r, h1, h2, h3, h4⟩
  · exact ⟨fun _ => zlf_0 h2, fun _ => h1⟩
  · rw [h2]
    refine ⟨fun q => absurd q (nI_m1 (by omega)), fun q => ?_⟩
    have := zc_0 20 q r h1
    simp at this
    omega
end PL
