/-! ===== works, as the law counts them ===== -/
section PW
theorem zcnt_a {T : zI} {n : Nat} : zcnt T n + (if T n = 0 then (0 : Int32) else 1) = zcnt T (n + 1) := by
  rw [zcnt]
  by_cases h : T n = 0 <;> simp [h]
theorem zcu_a {T W V S T' W' V' S' : zI} {n : Nat} : zcu T W V S T' W' V' S' n + (if zlike T W V S T' W' V' S' n = 0 then (1 : Int32) else 0) = zcu T W V S T' W' V' S' (n + 1) := by
  rw [zcu]
  by_cases h : zlike T W V S T' W' V' S' n = 0 <;> simp [h]
def mt (z : zI) (w : Int32) (k : Nat) : Bool := decide (0 ≤ z k ∧ (z k >>> 10) &&& 15 = w)
def zB (σ : Nat → zHS) (w : Int32) : Int32 := (zbs (zbs (zbs (zbs (-1, -1) (zlat (hST (σ 0)) (hSW (σ 0)) (hSS (σ 0)) w 20) (hSS (σ 0)) 0) (zlat (hST (σ 1)) (hSW (σ 1)) (hSS (σ 1)) w 20) (hSS (σ 1)) 1) (zlat (hST (σ 2)) (hSW (σ 2)) (hSS (σ 2)) w 20) (hSS (σ 2)) 2) (zlat (hST (σ 3)) (hSW (σ 3)) (hSS (σ 3)) w 20) (hSS (σ 3)) 3).1
def zcd (k : Nat) : Nat := 100 * (k / 20) + k % 20
def zth (z : zI) (w B : Int32) : Nat → Int32
  | 0 => if B = -1 then 1 else 0
  | k + 1 => if mt z w k = true then (if zth z w B k = 0 then (if nI (zcd k) = B then 1 else 0) else 1) else zth z w B k
def zws (z : zI) : Nat → Nat
  | 0 => 0
  | w + 1 => zws z w + zc (mt z (nI w)) 60
theorem zth_1 {z : zI} {w B : Int32} : ∀ k, (B = -1 ∨ ∃ j, j < k ∧ mt z w j = true ∧ nI (zcd j) = B) → zth z w B k = 1
  | 0, h => by
    rcases h with h | ⟨j, hj, -⟩
    · exact if_pos h
    · exact absurd hj (Nat.not_lt_zero j)
  | k + 1, h => by
    unfold zth
    by_cases g : B = -1 ∨ ∃ j, j < k ∧ mt z w j = true ∧ nI (zcd j) = B
    · rw [zth_1 k g]
      by_cases q : mt z w k = true
      · rw [if_pos q]
        rfl
      · rw [if_neg q]
    · rcases h with h | ⟨j, hj, h1, h2⟩
      · exact absurd (Or.inl h) g
      · by_cases e : j = k
        · subst e
          rw [if_pos h1, if_pos h2]
          split <;> rfl
        · exact absurd (Or.inr ⟨j, by omega, h1, h2⟩) g
theorem zlat_sp {T W S : zI} {w : Int32} (hS : ∀ r, r < 20 → ¬ T r = 0 → ∃ t : Nat, t ≤ 5000 ∧ S r = nI t) : ∀ n, n ≤ 20 → (zlat T W S w n = (-1, -1) ∧ ∀ r, r < n → ¬ (¬ T r = 0 ∧ W r = w)) ∨ ∃ r, r < n ∧ zlat T W S w n = (nI r, S r) ∧ (¬ T r = 0 ∧ W r = w) ∧ ∀ r', r' < n → (¬ T r' = 0 ∧ W r' = w) → S r' < S r ∨ (S r' = S r ∧ r ≤ r')
  | 0, _ => Or.inl ⟨rfl, fun r hr => absurd hr (Nat.not_lt_zero r)⟩
  | n + 1, hn => by
    have ih := zlat_sp (W := W) (w := w) hS n (by omega)
    have keep : ¬ (¬ T n = 0 ∧ W n = w) → zlat T W S w (n + 1) = zlat T W S w n := fun h => by
      rw [zlat]
      by_cases a : T n = 0
      · rw [if_pos a]
      · rw [if_neg a, if_neg (fun b => h ⟨a, b⟩)]
    by_cases g : ¬ T n = 0 ∧ W n = w
    · have hz : zlat T W S w (n + 1) = if S n ≤ (zlat T W S w n).2 then zlat T W S w n else (nI n, S n) := by
        rw [zlat, if_neg g.1, if_pos g.2]
      obtain ⟨t, ht, e⟩ := hS n (by omega) g.1
      rcases ih with ⟨h1, h2⟩ | ⟨r, h1, h2, h3, h4⟩
      · rw [hz, h1, if_neg (fun q => by
          have q : S n ≤ -1 := q
          rw [e, Int32.le_iff_toInt_le, nI_toInt (by omega), show (-1 : Int32).toInt = -1 by decide] at q
          omega)]
        refine Or.inr ⟨n, Nat.lt_succ_self n, rfl, g, fun r' hr' h => ?_⟩
        by_cases e2 : r' = n
        · subst e2
          exact Or.inr ⟨rfl, Nat.le_refl _⟩
        · exact absurd h (h2 r' (by omega))
      · obtain ⟨t', ht', e'⟩ := hS r (by omega) h3.1
        rw [hz, h2]
        by_cases q : S n ≤ S r
        · rw [if_pos q]
          refine Or.inr ⟨r, by omega, rfl, h3, fun r' hr' h => ?_⟩
          by_cases e2 : r' = n
          · subst e2
            rw [e, e', nI_leI (by omega) (by omega)] at q
            rw [e, e', nI_ltI (by omega) (by omega), nI_eq (by omega) (by omega)]
            omega
          · exact h4 r' (by omega) h
        · rw [if_neg q]
          refine Or.inr ⟨n, Nat.lt_succ_self n, rfl, g, fun r' hr' h => ?_⟩
          by_cases e2 : r' = n
          · subst e2
            exact Or.inr ⟨rfl, Nat.le_refl _⟩
          · obtain ⟨t2, ht2, e3⟩ := hS r' (by omega) h.1
            have h5 := h4 r' (by omega) h
            rw [e, e', nI_leI (by omega) (by omega)] at q
            rw [e3, e', nI_ltI (by omega) (by omega), nI_eq (by omega) (by omega)] at h5
            rw [e3, e, nI_ltI (by omega) (by omega), nI_eq (by omega) (by omega)]
            omega
    · rw [keep g]
      rcases ih with ⟨h1, h2⟩ | ⟨r, h1, h2, h3, h4⟩
      · refine Or.inl ⟨h1, fun r hr => ?_⟩
        by_cases e2 : r = n
        · subst e2
          exact g
        · exact h2 r (by omega)
      · refine Or.inr ⟨r, by omega, h2, h3, fun r' hr' h => ?_⟩
        by_cases e2 : r' = n
        · subst e2
          exact absurd h g
        · exact h4 r' (by omega) h
def zm (σ : Nat → zHS) (w : Int32) (c r : Nat) : Prop := ¬ hST (σ c) r = 0 ∧ hSW (σ c) r = w
def zBS (σ : Nat → zHS) (w : Int32) (i : Nat) (p : Int32 × Int32) : Prop := (p = (-1, -1) ∧ ∀ c, c < i → ∀ r, r < 20 → ¬ zm σ w c r) ∨
  ∃ c0 r0, c0 < i ∧ r0 < 20 ∧ zm σ w c0 r0 ∧ p = (nI (100 * c0 + r0), hSS (σ c0) r0) ∧ ∀ c, c < i → ∀ r, r < 20 → zm σ w c r → hSS (σ c) r < hSS (σ c0) r0 ∨ (hSS (σ c) r = hSS (σ c0) r0 ∧ 100 * c0 + r0 ≤ 100 * c + r)
theorem zbs_sp {σ : Nat → zHS} {w : Int32} (hS : ∀ c, c < 4 → ∀ r, r < 20 → ¬ hST (σ c) r = 0 → ∃ t : Nat, t ≤ 5000 ∧ hSS (σ c) r = nI t) {i : Nat} (hi : i < 4) {p : Int32 × Int32} (h : zBS σ w i p) : zBS σ w (i + 1) (zbs p (zlat (hST (σ i)) (hSW (σ i)) (hSS (σ i)) w 20) (hSS (σ i)) (nI i)) := by
  rcases zlat_sp (W := hSW (σ i)) (w := w) (hS i hi) 20 (Nat.le_refl _) with ⟨h1, h2⟩ | ⟨r, h1, h2, h3, h4⟩
  · have e : zbs p (zlat (hST (σ i)) (hSW (σ i)) (hSS (σ i)) w 20) (hSS (σ i)) (nI i) = p := by
      unfold zbs
      rw [h1, if_pos rfl]
    rw [e]
    rcases h with ⟨g1, g2⟩ | ⟨c0, r0, g1, g2, g3, g4, g5⟩
    · refine Or.inl ⟨g1, fun c hc r hr => ?_⟩
      by_cases e2 : c = i
      · subst e2
        exact h2 r hr
      · exact g2 c (by omega) r hr
    · refine Or.inr ⟨c0, r0, by omega, g2, g3, g4, fun c hc r hr hm => ?_⟩
      by_cases e2 : c = i
      · subst e2
        exact absurd hm (h2 r hr)
      · exact g5 c (by omega) r hr hm
  · obtain ⟨t, ht, et⟩ := hS i hi r h1 h3.1
    have hz : zbs p (zlat (hST (σ i)) (hSW (σ i)) (hSS (σ i)) w 20) (hSS (σ i)) (nI i) = if hSS (σ i) r ≤ p.2 then p else (nI (100 * i + r), hSS (σ i) r) := by
      unfold zbs
      rw [h2, if_neg (nI_m1 (by omega))]
      show (if hSS (σ i) (nI r).toNatClampNeg ≤ p.2 then p else (100 * nI i + nI r, hSS (σ i) (nI r).toNatClampNeg)) = _
      rw [nI_clamp (by omega), show (100 : Int32) * nI i = nI (100 * i) from pk_mul 100 i, nI_add]
    rw [hz]
    rcases h with ⟨g1, g2⟩ | ⟨c0, r0, g1, g2, g3, g4, g5⟩
    · rw [g1, if_neg (fun q => by
        have q : hSS (σ i) r ≤ -1 := q
        rw [et, Int32.le_iff_toInt_le, nI_toInt (by omega), show (-1 : Int32).toInt = -1 by decide] at q
        omega)]
      refine Or.inr ⟨i, r, Nat.lt_succ_self i, h1, h3, rfl, fun c hc r' hr' hm => ?_⟩
      by_cases e2 : c = i
      · subst e2
        rcases h4 r' hr' hm with k | ⟨k1, k2⟩
        · exact Or.inl k
        · exact Or.inr ⟨k1, by omega⟩
      · exact absurd hm (g2 c (by omega) r' hr')
    · obtain ⟨t0, ht0, e0⟩ := hS c0 (by omega) r0 g2 g3.1
      rw [g4]
      by_cases q : hSS (σ i) r ≤ hSS (σ c0) r0
      · rw [if_pos q]
        refine Or.inr ⟨c0, r0, by omega, g2, g3, rfl, fun c hc r' hr' hm => ?_⟩
        by_cases e2 : c = i
        · subst e2
          obtain ⟨t2, ht2, e3⟩ := hS c hi r' hr' hm.1
          have k := h4 r' hr' hm
          rw [et, e0, nI_leI (by omega) (by omega)] at q
          rw [e3, et, nI_ltI (by omega) (by omega), nI_eq (by omega) (by omega)] at k
          rw [e3, e0, nI_ltI (by omega) (by omega), nI_eq (by omega) (by omega)]
          omega
        · exact g5 c (by omega) r' hr' hm
      · rw [if_neg q]
        refine Or.inr ⟨i, r, Nat.lt_succ_self i, h1, h3, rfl, fun c hc r' hr' hm => ?_⟩
        by_cases e2 : c = i
        · subst e2
          rcases h4 r' hr' hm with k | ⟨k1, k2⟩
          · exact Or.inl k
          · exact Or.inr ⟨k1, by omega⟩
        · obtain ⟨t2, ht2, e3⟩ := hS c (by omega) r' hr' hm.1
          have k := g5 c (by omega) r' hr' hm
          rw [et, e0, nI_leI (by omega) (by omega)] at q
          rw [e3, e0, nI_ltI (by omega) (by omega), nI_eq (by omega) (by omega)] at k
          rw [e3, et, nI_ltI (by omega) (by omega), nI_eq (by omega) (by omega)]
          omega
theorem zInv_S {N : Nat} {σ : Nat → zHS} {y z d g : zI} (h : zInv N σ y z d g) : ∀ c, c < 4 → ∀ r, r < 20 → ¬ hST (σ c) r = 0 → ∃ t : Nat, t ≤ 5000 ∧ hSS (σ c) r = nI t := fun c hc r hr k => by
  by_cases e : c = 3
  · subst e
    exact absurd (h.2.2.2 r hr).2.2 k
  · rcases (h.2.1 c (by omega)).2.1 r hr with ⟨k1, -⟩ | ⟨-, a, b, t, ha, hb, ht, -, -, k1, -⟩
    · exact absurd k1 k
    · exact ⟨t, Nat.le_trans ht h.1, k1⟩
/-- a place's work, in the law and in the store -/
theorem mt_zm {N : Nat} {σ : Nat → zHS} {y z d g : zI} (h : zInv N σ y z d g) {w : Int32} {c r : Nat} (hc : c < 3) (hr : r < 20) : mt z w (20 * c + r) = true ↔ zm σ w c r := by
  obtain ⟨k1, k2, k3, k4, k5⟩ := zrc_z ((h.2.1 c hc).2.1 r hr) h.1
  unfold mt zm
  rw [decide_eq_true_iff, k2]
  constructor
  · rintro ⟨q1, q2⟩
    rcases k4 with k4 | ⟨-, k4, -⟩
    · exact absurd k4 q1
    · exact ⟨q1, by rw [← k4]; exact q2⟩
  · rintro ⟨q1, q2⟩
    rcases k4 with k4 | ⟨-, k4, -⟩
    · exact absurd k4 q1
    · exact ⟨q1, by rw [k4]; exact q2⟩
theorem zso_S {N : Nat} {σ : Nat → zHS} {y z d g : zI} (h : zInv N σ y z d g) {c r : Nat} (hc : c < 3) (hr : r < 20) (k : ¬ hST (σ c) r = 0) : zso (z (20 * c + r)) = hSS (σ c) r := by
  obtain ⟨k1, k2, k3, k4, k5⟩ := zrc_z ((h.2.1 c hc).2.1 r hr) h.1
  rcases k4 with k4 | ⟨-, -, k4⟩
  · exact absurd k4 k
  · exact k4
theorem zB_sp {N : Nat} {σ : Nat → zHS} {y z d g : zI} (h : zInv N σ y z d g) (w : Int32) : (zB σ w = -1 ∧ ∀ k, k < 60 → mt z w k = false) ∨
    ∃ c0 r0, c0 < 3 ∧ r0 < 20 ∧ zB σ w = nI (100 * c0 + r0) ∧ mt z w (20 * c0 + r0) = true ∧ ∀ k, k < 60 → mt z w k = true → zso (z k) < zso (z (20 * c0 + r0)) ∨ (zso (z k) = zso (z (20 * c0 + r0)) ∧ 100 * c0 + r0 ≤ zcd k) := by
  have hS := zInv_S h
  have b0 : zBS σ w 0 (-1, -1) := Or.inl ⟨rfl, fun c hc => absurd hc (Nat.not_lt_zero c)⟩
  have b4 := zbs_sp hS (i := 3) (by decide) (zbs_sp hS (i := 2) (by decide) (zbs_sp hS (i := 1) (by decide) (zbs_sp hS (i := 0) (by decide) b0)))
  have hk : ∀ k, k < 60 → k = 20 * (k / 20) + k % 20 ∧ k / 20 < 3 ∧ k % 20 < 20 := fun k hk => by omega
  rcases b4 with ⟨g1, g2⟩ | ⟨c0, r0, g1, g2, g3, g4, g5⟩
  · refine Or.inl ⟨congrArg Prod.fst g1, fun k hk60 => ?_⟩
    obtain ⟨e1, e2, e3⟩ := hk k hk60
    rw [e1]
    have k1 := g2 (k / 20) (by omega) (k % 20) e3
    rw [← mt_zm h e2 e3] at k1
    simpa using k1
  · have hc3 : c0 < 3 := by
      by_cases e : c0 = 3
      · subst e
        exact absurd (h.2.2.2 r0 g2).2.2 g3.1
      · omega
    refine Or.inr ⟨c0, r0, hc3, g2, congrArg Prod.fst g4, (mt_zm h hc3 g2).mpr g3, fun k hk60 hm => ?_⟩
    obtain ⟨e1, e2, e3⟩ := hk k hk60
    rw [e1] at hm
    have k1 := (mt_zm h e2 e3).mp hm
    have k2 := g5 (k / 20) (by omega) (k % 20) e3 k1
    rw [zso_S h hc3 g2 g3.1]
    have k3 := zso_S h e2 e3 k1.1
    rw [← e1] at k3
    rw [k3]
    exact k2
theorem zB_th {N : Nat} {σ : Nat → zHS} {y z d g : zI} (h : zInv N σ y z d g) (w : Int32) : zth z w (zB σ w) 60 = 1 := by
  rcases zB_sp h w with ⟨k1, -⟩ | ⟨c0, r0, k1, k2, k3, k4, -⟩
  · exact zth_1 60 (Or.inl k1)
  · refine zth_1 60 (Or.inr ⟨20 * c0 + r0, by omega, k4, ?_⟩)
    rw [k3]
    unfold zcd
    congr 1
    omega
theorem zB_0 {N : Nat} {σ : Nat → zHS} {y z d g : zI} (h : zInv N σ y z d g) (w : Int32) : 0 ≤ zB σ w ↔ ¬ nI (zc (mt z w) 60) = 0 := by
  have hle := zc_le (mt z w) 60
  rcases zB_sp h w with ⟨k1, k2⟩ | ⟨c0, r0, k1, k2, k3, k4, -⟩
  · rw [k1, zc_z 60 k2]
    exact ⟨fun q => absurd q (by decide), fun q => absurd rfl q⟩
  · rw [k3]
    refine ⟨fun _ q => ?_, fun _ => nI_pos' (by omega)⟩
    have q2 : zc (mt z w) 60 = 0 := (nI_eq (b := 0) (by omega) (by decide)).mp q
    have q3 := zc_0 60 q2 (20 * c0 + r0) (by omega)
    rw [k4] at q3
    exact absurd q3 (by decide)
/-- sixty places by three catalogues -/
theorem zc_60 (q : Nat → Bool) : zc q 60 = zc q 20 + zc (fun r => q (20 + r)) 20 + zc (fun r => q (40 + r)) 20 := by
  rw [show 60 = 40 + 20 from rfl, zc_app q 40 20, show 40 = 20 + 20 from rfl, zc_app q 20 20]
theorem zcop_m {N : Nat} {σ : Nat → zHS} {y z d g : zI} (h : zInv N σ y z d g) (w : Int32) : 0 + zcow (hST (σ 0)) (hSW (σ 0)) w 20 + zcow (hST (σ 1)) (hSW (σ 1)) w 20 + zcow (hST (σ 2)) (hSW (σ 2)) w 20 + zcow (hST (σ 3)) (hSW (σ 3)) w 20 = nI (zc (mt z w) 60) := by
  have hb : ∀ c, c < 3 → ∀ r, r < 20 → (!decide (hST (σ c) r = 0) && decide (hSW (σ c) r = w)) = mt z w (20 * c + r) := fun c hc r hr => by
    have k := mt_zm h (w := w) hc hr
    unfold zm at k
    cases hm : mt z w (20 * c + r) with
    | true =>
      have k1 := k.mp hm
      simp [k1.1, k1.2]
    | false =>
      have k1 : ¬ (¬ hST (σ c) r = 0 ∧ hSW (σ c) r = w) := fun q => by
        have := k.mpr q
        rw [hm] at this
        exact absurd this (by decide)
      by_cases a : hST (σ c) r = 0
      · simp [a]
      · by_cases b : hSW (σ c) r = w
        · exact absurd ⟨a, b⟩ k1
        · simp [b]
  rw [zcow_c, zcow_c, zcow_c, zcow_c, zc_congr 20 (hb 0 (by decide)), zc_congr 20 (hb 1 (by decide)), zc_congr 20 (hb 2 (by decide)), zc_z (p := fun r => !decide (hST (σ 3) r = 0) && decide (hSW (σ 3) r = w)) 20 (fun r hr => by simp [(h.2.2.2 r hr).2.2]), zc_60]
  rw [show (0 : Int32) = nI 0 from rfl, nI_add, nI_add, nI_add, nI_add]
  congr 1
  have e : zc (fun r => mt z w (20 * 0 + r)) 20 = zc (mt z w) 20 := zc_congr 20 (fun r hr => by rw [show 20 * 0 + r = r by omega])
  have e1 : zc (fun r => mt z w (20 * 1 + r)) 20 = zc (fun r => mt z w (20 + r)) 20 := rfl
  have e2 : zc (fun r => mt z w (20 * 2 + r)) 20 = zc (fun r => mt z w (40 + r)) 20 := rfl
  rw [e, e1, e2]
  omega
def mtl (z : zI) : Nat → Nat → Bool
  | 0, _ => false
  | n + 1, k => mtl z n k || mt z (nI n) k
theorem mtl_e {z : zI} {k : Nat} : ∀ n, mtl z n k = true ↔ ∃ b, b < n ∧ mt z (nI b) k = true
  | 0 => ⟨fun h => absurd h (by simp [mtl]), fun ⟨b, hb, _⟩ => absurd hb (Nat.not_lt_zero b)⟩
  | n + 1 => by
    unfold mtl
    rw [Bool.or_eq_true, mtl_e n]
    constructor
    · rintro (⟨b, h1, h2⟩ | h)
      · exact ⟨b, by omega, h2⟩
      · exact ⟨n, by omega, h⟩
    · rintro ⟨b, h1, h2⟩
      by_cases e : b = n
      · subst e
        exact Or.inr h2
      · exact Or.inl ⟨b, by omega, h2⟩
theorem zws_l {z : zI} : ∀ n, n ≤ 10 → zws z n = zc (mtl z n) 60
  | 0, _ => (zc_z 60 (fun _ _ => rfl)).symm
  | n + 1, hn => by
    unfold zws
    rw [zws_l n (by omega)]
    refine (zc_two 60 (fun k hk => ⟨rfl, ?_⟩)).symm
    cases h1 : mtl z n k with
    | false => rfl
    | true =>
      cases h2 : mt z (nI n) k with
      | false => rfl
      | true =>
        obtain ⟨b, hb, h3⟩ := (mtl_e n).mp h1
        unfold mt at h2 h3
        rw [decide_eq_true_iff] at h2 h3
        have h4 := h3.2.symm.trans h2.2
        rw [nI_eq (by omega) (by omega)] at h4
        omega
theorem zheld_m {N : Nat} {σ : Nat → zHS} {y z d g : zI} (h : zInv N σ y z d g) : zcnt (hST (σ 0)) 20 + zcnt (hST (σ 1)) 20 + zcnt (hST (σ 2)) 20 = nI (zws z 10) := by
  have hb : ∀ c, c < 3 → ∀ r, r < 20 → (!decide (hST (σ c) r = 0)) = mtl z 10 (20 * c + r) := fun c hc r hr => by
    have k := fun w => mt_zm h (w := w) hc hr
    unfold zm at k
    rcases (h.2.1 c hc).2.1 r hr with ⟨k1, -⟩ | ⟨k1, a, b, t, ha, hb, ht, k2, k3, k4, k5⟩
    · have k6 : ¬ mtl z 10 (20 * c + r) = true := fun q => by
        obtain ⟨b, -, h3⟩ := (mtl_e 10).mp q
        exact ((k _).mp h3).1 k1
      simp [k1, k6]
    · have k6 : mtl z 10 (20 * c + r) = true := (mtl_e 10).mpr ⟨b, by omega, (k _).mpr ⟨by rw [k1]; decide, k3⟩⟩
      rw [k6, k1]
      rfl
  rw [zcnt_c, zcnt_c, zcnt_c, zc_congr 20 (hb 0 (by decide)), zc_congr 20 (hb 1 (by decide)), zc_congr 20 (hb 2 (by decide)), nI_add, nI_add, zws_l 10 (Nat.le_refl _)]
  generalize mtl z 10 = q
  have e60 := zc_60 q
  have e : zc (fun r => q (20 * 0 + r)) 20 = zc q 20 := zc_congr 20 (fun r hr => by rw [show 20 * 0 + r = r by omega])
  have e1 : zc (fun r => q (20 * 1 + r)) 20 = zc (fun r => q (20 + r)) 20 := rfl
  have e2 : zc (fun r => q (20 * 2 + r)) 20 = zc (fun r => q (40 + r)) 20 := rfl
  rw [e, e1, e2, e60]
theorem zfar3 {N : Nat} {σ : Nat → zHS} {y z d g : zI} (h : zInv N σ y z d g) : zcnt (hFT (σ 3)) 20 = 0 := by
  rw [zcnt_c, zc_z 20 (fun r hr => by simp [(h.2.2.2 r hr).1])]
  rfl
end PW
