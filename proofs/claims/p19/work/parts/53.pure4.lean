/-! ===== what the law's rows say of the object ===== -/
section PI
theorem zst_n {u N : Nat} (h1 : 1 ≤ u) (h2 : u ≤ 30) (hN : N ≤ 5000) : zst (nI u) (nI N) = nI (N - N % u) := by
  have hr := pk_rem (a := N) (d := u) (by omega) (by omega) (by omega)
  unfold zst
  by_cases h : nI u ≤ 1
  · rw [if_pos h]
    have h3 : u ≤ 1 := (nI_leI (b := 1) (by omega) (by decide)).mp h
    have h4 : u = 1 := by omega
    subst h4
    rw [Nat.mod_one, Nat.sub_zero]
  · rw [if_neg h, hr, pk_sub (Nat.mod_le N u)]
def zCF (c N : Nat) (x : zHS) (y d g : zI) (u w m : Nat) : Prop := (1 ≤ u ∧ u ≤ 30 ∧ w ≤ 2 ∧ m ≤ N ∧ hUn x = nI u ∧ hDe x = nI w ∧ hMk x = nI m ∧ g (4 * c) = nI u ∧ g (4 * c + 1) = nI w ∧ (hFl x = 0 ∨ hFl x = 1) ∧ (hHo x = 0 ∨ hHo x = 1)) ∧
  ∀ r, r < 20 → zfr N w (hFT x r) (hFV x r) (hFW x r) (hFS x r) (hIT x r) (hTS x r) (hRD x r) (y (20 * c + r)) (d (20 * c + r))
def zCZ (c N : Nat) (x : zHS) (z : zI) : Prop := ∀ r, r < 20 → zrc N (hST x r) (hSV x r) (hSW x r) (hSS x r) (z (20 * c + r))
def zInv (N : Nat) (σ : Nat → zHS) (y z d g : zI) : Prop := N ≤ 5000 ∧ (∀ c, c < 3 → (∃ u w m, zCF c N (σ c) y d g u w m) ∧ zCZ c N (σ c) z ∧ hHo (σ c) = 0 ∧ g (4 * c + 2) = 0) ∧ hHo (σ 3) = 0 ∧ ∀ r, r < 20 → hFT (σ 3) r = 0 ∧ hIT (σ 3) r = 0 ∧ hST (σ 3) r = 0
theorem zInv_ho {N : Nat} {σ : Nat → zHS} {y z d g : zI} (h : zInv N σ y z d g) : ∀ c, c < 4 → hHo (σ c) = 0 ∨ hHo (σ c) = 1 := fun c hc => by
  by_cases e : c = 3
  · subst e
    exact Or.inl h.2.2.1
  · exact Or.inl (h.2.1 c (by omega)).2.2.1
/-- what stands in a catalogue's lists -/
theorem zCF_z {c N : Nat} {x : zHS} {y d g : zI} {u w m : Nat} (h : zCF c N x y d g u w m) (hN : N ≤ 5000) : zLz (hZ x) := fun r hr => by
  unfold hZ zls
  rcases h.2 r hr with ⟨h1, h2, h3⟩ | ⟨h1, h2, t, q, ht, hq, h3, h4, h5, h6, h7⟩ | ⟨h1, h2, a, b, t, ha, hb, ht, h3, h4, h5, h6⟩
  · rw [h1, h2]
    exact Or.inl rfl
  · rw [h1, h2]
    exact Or.inr ⟨t, by omega, h3⟩
  · rw [h1]
    exact Or.inr ⟨t, by omega, h5⟩
/-- whether a place is in a list, as the law finds it -/
theorem zin_q {c N F : Nat} {x : zHS} {y d g : zI} {u w m : Nat} (h : zCF c N x y d g u w m) (hN : N ≤ 5000) (hF : F ≤ 5000) {r : Nat} (hr : r < 20) : (0 < zq (hZ x) F r) ↔ (¬ y (20 * c + r) = -1 ∧ ¬ zso (y (20 * c + r)) < nI F) := by
  rcases h.2 r hr with ⟨h1, h2, h3⟩ | ⟨h1, h2, t, q, ht, hq, h3, h4, h5, h6, h7⟩ | ⟨h1, h2, a, b, t, ha, hb, ht, h3, h4, h5, h6⟩
  · have e : hZ x r = -1 := by
      unfold hZ zls
      rw [h1, h2]
      rfl
    rw [zq_n e, h3]
    constructor
    · intro k
      omega
    · intro k
      exact absurd rfl k.1
  · have e : hZ x r = nI t := by
      unfold hZ zls
      rw [h1, h2]
      exact h3
    rw [zq_t hF (by omega) e, h4, (ztd_p (t := t) (by omega)).2.2.2, nI_ltI (by omega) (by omega)]
    constructor
    · intro k
      refine ⟨(ztd_p (t := t) (by omega)).2.2.1, fun j => ?_⟩
      rw [if_pos j] at k
      omega
    · intro k
      rw [if_neg k.2]
      omega
  · have e : hZ x r = nI t := by
      unfold hZ zls
      rw [h1]
      exact h5
    rw [zq_t hF (by omega) e, h6, zen_s ha hb (by omega), nI_ltI (by omega) (by omega)]
    constructor
    · intro k
      refine ⟨(zen_p (t := t) ha hb (by omega)).2.2.1, fun j => ?_⟩
      rw [if_pos j] at k
      omega
    · intro k
      rw [if_neg k.2]
      omega
/-! a list read to its end -/
def hIt (x : zHS) (now : Int32) : Nat → zHS
  | 0 => x
  | p + 1 => (hReadP (hIt x now p) now).2
def zpn (T : Nat) : Nat := if T = 0 then 1 else (T + 2) / 3
theorem zpn_p (T : Nat) : 1 ≤ zpn T ∧ (∀ p, p < zpn T → p = 0 ∨ 3 * p < T) ∧ T ≤ 3 * zpn T := by
  unfold zpn
  by_cases h : T = 0
  · rw [if_pos h]
    refine ⟨Nat.le_refl _, fun p hp => Or.inl (by omega), by omega⟩
  · rw [if_neg h]
    refine ⟨by omega, fun p hp => Or.inr (by omega), by omega⟩
theorem z_iter {N F m : Nat} {full : Int32} {x0 : zHS} (hff : full = 0 ∨ full = 1) (hz : zLz (hZ x0)) (hF : F ≤ 5000) (hm : hMk x0 = nI m) (hFd : F = if full = 0 then m else 0) : ∀ p, p < zpn (zlf (hZ x0) F 0) →
    ∃ P, zRI N F full x0 (hIt (hOpen x0 full (nI N)) (nI N) p) P ∧ zlf (hZ x0) F P = zlf (hZ x0) F 0 - 3 * p
  | 0, _ => ⟨0, z_opened N F full x0, rfl⟩
  | p + 1, hp => by
    obtain ⟨P, h1, h2⟩ := z_iter hff hz hF hm hFd p (by omega)
    have h3 := (zpn_p (zlf (hZ x0) F 0)).2.1 (p + 1) hp
    obtain ⟨-, ⟨h4, -⟩ | ⟨h4, P', -, h5, h6⟩⟩ := z_read hff hz hF hm hFd h1
    · omega
    · exact ⟨P', h5, by omega⟩
theorem z_done {N F m : Nat} {full : Int32} {x0 : zHS} (hff : full = 0 ∨ full = 1) (hz : zLz (hZ x0)) (hF : F ≤ 5000) (hm : hMk x0 = nI m) (hFd : F = if full = 0 then m else 0) : zDone N F full x0 (hIt (hOpen x0 full (nI N)) (nI N) (zpn (zlf (hZ x0) F 0))) := by
  obtain ⟨g1, g2, g3⟩ := zpn_p (zlf (hZ x0) F 0)
  obtain ⟨k, hk⟩ : ∃ k, zpn (zlf (hZ x0) F 0) = k + 1 := ⟨zpn (zlf (hZ x0) F 0) - 1, by omega⟩
  obtain ⟨P, h1, h2⟩ := z_iter (N := N) hff hz hF hm hFd k (by omega)
  rw [hk]
  obtain ⟨-, ⟨-, h4⟩ | ⟨h4, -⟩⟩ := z_read hff hz hF hm hFd h1
  · exact h4
  · omega
/-- the numbers of the store behind a round, as the law has them -/
def zrz (y z : zI) (full : Int32) (F b n : Nat) : zI := fun j => if b ≤ j ∧ j < b + n then (if ¬ y j = -1 ∧ ¬ zso (y j) < nI F then (if y j < 0 then -1 else y j) else if full = 0 then z j else -1) else z j
theorem zrz_0 {y z : zI} {full : Int32} {F b : Nat} : z = zrz y z full F b 0 := by
  funext j
  unfold zrz
  rw [if_neg (fun q => by omega)]
theorem zrz_at {y z : zI} {full : Int32} {F b n : Nat} : zrz y z full F b n (b + n) = z (b + n) := by
  unfold zrz
  rw [if_neg (fun q => by omega)]
theorem zrz_s {y z : zI} {full v : Int32} {F b n : Nat} (h : v = if ¬ y (b + n) = -1 ∧ ¬ zso (y (b + n)) < nI F then (if y (b + n) < 0 then -1 else y (b + n)) else if full = 0 then z (b + n) else -1) : upd (zrz y z full F b n) (b + n) v = zrz y z full F b (n + 1) := by
  funext j
  unfold upd zrz
  by_cases hj : j = b + n
  · subst hj
    rw [if_pos rfl, h]
    exact (if_pos ⟨by omega, by omega⟩).symm
  · rw [if_neg hj]
    have : (j < b + (n + 1)) = (j < b + n) := propext ⟨fun q => by omega, fun q => by omega⟩
    simp only [this]
theorem zrz_in {y z : zI} {full : Int32} {F c r : Nat} (hr : r < 20) : zrz y z full F (20 * c) 20 (20 * c + r) = if ¬ y (20 * c + r) = -1 ∧ ¬ zso (y (20 * c + r)) < nI F then (if y (20 * c + r) < 0 then -1 else y (20 * c + r)) else if full = 0 then z (20 * c + r) else -1 := by
  unfold zrz
  exact if_pos ⟨by omega, by omega⟩
theorem zrz_out {y z : zI} {full : Int32} {F c c' r : Nat} (h : ¬ c' = c) (hr : r < 20) : zrz y z full F (20 * c) 20 (20 * c' + r) = z (20 * c' + r) := by
  unfold zrz
  exact if_neg (fun q => by omega)
/-- behind a round: the catalogue as it was, the store as the law has it -/
theorem z_roundF {c N F : Nat} {full : Int32} {x0 x : zHS} {y d g : zI} {u w m : Nat} (h : zCF c N x0 y d g u w m) (hN : N ≤ 5000) (hd : zDone N F full x0 x) (hff : full = 0 ∨ full = 1) : zCF c N x y d g u w (N - N % u) := by
  obtain ⟨⟨a1, a2, a3, a4, a5, a6, a7, a8, a9, a10, a11⟩, h2⟩ := h
  obtain ⟨⟨e1, e2, e3, e4, e5, e6, e7, e8, e9⟩, f1, f2, f3, f4⟩ := hd
  refine ⟨⟨a1, a2, a3, Nat.sub_le _ _, by rw [e8]; exact a5, by rw [e9]; exact a6, by rw [f1, a5]; exact zst_n a1 a2 hN, a8, a9, by rw [f2]; exact hff, Or.inl f3⟩, fun r hr => ?_⟩
  rw [e1, e2, e3, e4, e5, e6, e7]
  exact h2 r hr
theorem z_roundZ {c N F : Nat} {full : Int32} {x0 x : zHS} {y z d g : zI} {u w m : Nat} (h : zCF c N x0 y d g u w m) (hz : full = 0 → zCZ c N x0 z) (hN : N ≤ 5000) (hF : F ≤ 5000) (hd : zDone N F full x0 x) (hff : full = 0 ∨ full = 1) (hFd : full = 1 → F = 0) : zCZ c N x (zrz y z full F (20 * c) 20) := fun r hr => by
  have hq := zin_q h hN hF hr
  obtain ⟨-, f1, f2, f3, f4⟩ := hd
  have f5 := f4 r hr
  rw [zrz_in hr]
  by_cases q : 0 < zq (hZ x0) F r
  · rw [if_pos q] at f5
    obtain ⟨f6, f7⟩ := f5
    rw [if_pos (hq.mp q)]
    rcases h.2 r hr with ⟨h1, h2, h3⟩ | ⟨h1, h2, t, q', ht, hq', h3, h4, h5, h6, h7⟩ | ⟨h1, h2, a, b, t, ha, hb, ht, h3, h4, h5, h6⟩
    · exact absurd h3 (hq.mp q).1
    · rw [if_pos h1] at f6
      rw [h4, if_pos (ztd_p (t := t) (by omega)).1]
      exact Or.inl ⟨f6, rfl⟩
    · rw [if_neg (by rw [h1]; decide)] at f6
      obtain ⟨g1, g2, g3⟩ := f7 (by rw [h1]; decide)
      rw [h6, if_neg (zen_p (t := t) ha hb (by omega)).1]
      exact Or.inr ⟨f6, a, b, t, ha, hb, ht, by rw [g2]; exact h3, by rw [g1]; exact h4, by rw [g3]; exact h5, rfl⟩
  · rw [if_neg q] at f5
    rw [if_neg (fun k => q (hq.mpr k))]
    rcases hff with e | e
    · rw [if_pos e] at f5 ⊢
      obtain ⟨g1, g2, g3, g4⟩ := f5
      have := hz e r hr
      rw [g1, g2, g3, g4]
      exact this
    · have e0 : ¬ full = 0 := by rw [e]; decide
      rw [if_neg e0] at f5 ⊢
      exact Or.inl ⟨f5, rfl⟩
/-- behind a full round the store is what is there -/
theorem z_full {c N : Nat} {x0 x : zHS} {y d g : zI} {u w m : Nat} (h : zCF c N x0 y d g u w m) (hN : N ≤ 5000) (hd : zDone N 0 1 x0 x) : ∀ r, r < 20 → hST x r = hFT x r ∧ (¬ hFT x r = 0 → hSW x r = hFW x r ∧ hSV x r = hFV x r ∧ hSS x r = hFS x r) := fun r hr => by
  have hq := zin_q h hN (F := 0) (by omega) hr
  obtain ⟨⟨e1, e2, e3, e4, e5, e6, e7, e8, e9⟩, f1, f2, f3, f4⟩ := hd
  have f5 := f4 r hr
  obtain ⟨y1, y2, y3, y4, y5, y6, y7, y8⟩ := zfr_y (h.2 r hr) hN
  rw [e1, e2, e3, e4]
  by_cases q : 0 < zq (hZ x0) 0 r
  · rw [if_pos q] at f5
    refine ⟨?_, f5.2⟩
    rw [f5.1]
    rcases y5 with k | k <;> rw [k] <;> rfl
  · rw [if_neg q, if_neg (by decide)] at f5
    have k0 : hFT x0 r = 0 := by
      by_cases k : hFT x0 r = 0
      · exact k
      · refine absurd (hq.mpr ⟨fun j => k (y4.mp j).1, fun j => ?_⟩) q
        rcases y7 with y7 | ⟨-, y7, -⟩
        · exact k y7
        · rw [y7] at j
          rcases h.2 r hr with ⟨h1, -⟩ | ⟨h1, -⟩ | ⟨h1, h2, a, b, t, ha, hb, ht, h3, h4, h5, h6⟩
          · exact k h1
          · exact k h1
          · rw [h5] at j
            exact nI_nlt (a := t) (b := 0) (by omega) (by omega) j
    exact ⟨by rw [f5, k0], fun k => absurd k0 k⟩
end PI
