/-! ===== rounds and pages, as the law counts them ===== -/
section PP
theorem zc_ad {p : Nat → Bool} {n : Nat} {P : Prop} [Decidable P] (h : p n = decide P) : nI (zc p n) + (if P then (1 : Int32) else 0) = nI (zc p (n + 1)) := by
  show _ = nI (zc p n + (if p n = true then 1 else 0))
  rw [nI_if, h]
  by_cases g : P <;> simp [g]
theorem zsub3 (T p : Nat) : nI (T - 3 * p) - nI (min 3 (T - 3 * p)) = nI (T - 3 * (p + 1)) := by
  rw [pk_sub (Nat.min_le_right _ _)]
  congr 1
  omega
theorem zmin1 {L : Nat} (hL : L ≤ 20) (h : ¬ 3 ≤ nI L) : nI L = nI (min 3 L) := by
  have : ¬ 3 ≤ L := fun q => h (nI_le (a := 3) q (by omega))
  congr 1
  omega
theorem zmin2 {L : Nat} (hL : L ≤ 20) (h : 3 ≤ nI L) : 3 = nI (min 3 L) := by
  have : 3 ≤ L := (nI_leI (a := 3) (by decide) (by omega)).mp h
  rw [show min 3 L = 3 by omega]
  rfl
theorem zpn_lt {T p : Nat} (h : p < zpn T) : p + 1 < zpn T ↔ 0 < T - 3 * (p + 1) := by
  unfold zpn at h ⊢
  by_cases g : T = 0
  · rw [if_pos g] at h ⊢
    omega
  · rw [if_neg g] at h ⊢
    omega
theorem zpn_7 {T : Nat} (h : T ≤ 20) : zpn T ≤ 7 := by
  unfold zpn
  split <;> omega
theorem zpn_end (T : Nat) : nI (T - 3 * zpn T) = 0 := by
  have := (zpn_p T).2.2
  rw [show T - 3 * zpn T = 0 by omega]
  rfl
theorem zlf_20 {z : zI} {F P : Nat} : zlf z F P ≤ 20 := zc_le _ 20
def hRound (x : zHS) (full now : Int32) (F : Nat) : zHS := hIt (hOpen x full now) now (zpn (zlf (hZ x) F 0))
/-- what a round's reading shows on its way -/
theorem zit_ho {N F m : Nat} {full : Int32} {x0 : zHS} (hff : full = 0 ∨ full = 1) (hz : zLz (hZ x0)) (hF : F ≤ 5000) (hm : hMk x0 = nI m) (hFd : F = if full = 0 then m else 0) {p : Nat} (hp : p ≤ zpn (zlf (hZ x0) F 0)) :
    hHo (hIt (hOpen x0 full (nI N)) (nI N) p) = (if p < zpn (zlf (hZ x0) F 0) then 1 else 0) ∧ (hFl (hIt (hOpen x0 full (nI N)) (nI N) p) = 0 ∨ hFl (hIt (hOpen x0 full (nI N)) (nI N) p) = 1) ∧ (p < zpn (zlf (hZ x0) F 0) → (hReadP (hIt (hOpen x0 full (nI N)) (nI N) p) (nI N)).1 = nI (min 3 (zlf (hZ x0) F 0 - 3 * p))) := by
  rcases Nat.lt_or_ge p (zpn (zlf (hZ x0) F 0)) with h | h
  · obtain ⟨P, h1, h2⟩ := z_iter (N := N) hff hz hF hm hFd p h
    have h3 := (z_read hff hz hF hm hFd h1).1
    rw [if_pos h]
    refine ⟨h1.2.2.2.2.2.1, ?_, fun _ => by rw [h3, h2]⟩
    rw [h1.2.2.1]
    exact hff
  · have e : p = zpn (zlf (hZ x0) F 0) := by omega
    have h1 := z_done (N := N) hff hz hF hm hFd
    rw [if_neg (by omega), e]
    refine ⟨h1.2.2.2.1, ?_, fun k => absurd k (by omega)⟩
    rw [h1.2.2.1]
    exact hff
theorem zlike_1 {T W V S T' W' V' S' : zI} {r : Nat} (h : T r = T' r) (g : ¬ T' r = 0 → W r = W' r ∧ V r = V' r ∧ S r = S' r) : zlike T W V S T' W' V' S' r = 1 := by
  unfold zlike
  by_cases k : T' r = 0
  · rw [if_pos (Or.inr k), if_pos h]
  · rw [if_neg (by rw [h]; rintro (q | q) <;> exact k q), if_pos (g k)]
theorem z_wrong0 {c N : Nat} {x0 x : zHS} {y d g : zI} {u w m : Nat} (h : zCF c N x0 y d g u w m) (hN : N ≤ 5000) (hd : zDone N 0 1 x0 x) : zcu (hST x) (hSW x) (hSV x) (hSS x) (hFT x) (hFW x) (hFV x) (hFS x) 20 = 0 := by
  rw [zcu_c, zc_z 20 (fun r hr => ?_)]
  · rfl
  · obtain ⟨h1, h2⟩ := z_full h hN hd r hr
    rw [zlike_1 h1 h2]
    rfl
theorem zcnt_cg {T T' : zI} : ∀ n, (∀ r, r < n → T r = T' r) → zcnt T n = zcnt T' n
  | 0, _ => rfl
  | n + 1, h => by
    rw [zcnt, zcnt, zcnt_cg n (fun r hr => h r (Nat.lt_succ_of_lt hr)), h n (Nat.lt_succ_self n)]
/-! a page -/
def zvl (T V : zI) (r : Nat) : Int32 := if T r = 0 then (-1) else V r
theorem zlike_c {T W V S T' W' V' S' T2 W2 V2 S2 : zI} {r : Nat} (h1 : T2 r = T r) (h2 : W2 r = W r) (h3 : V2 r = V r) (h4 : S2 r = S r) : zlike T2 W2 V2 S2 T' W' V' S' r = zlike T W V S T' W' V' S' r := by
  unfold zlike
  rw [h1, h2, h3, h4]
theorem z_page {c N F m : Nat} {full : Int32} {xx : zHS} {y z d g : zI} {u w : Nat} (h : zCF c N xx y d g u w m) (hN : N ≤ 5000) (hF : F ≤ 5000) (hff : full = 0 ∨ full = 1) (hFd : F = if full = 0 then m else 0) :
    (hReadP (hOpen xx full (nI N)) (nI N)).1 = nI (min 3 (zlf (hZ xx) F 0)) ∧
    hHo (hReadP (hOpen xx full (nI N)) (nI N)).2 = (if zlf (hZ xx) F 0 ≤ 3 then 0 else 1) ∧
    (∀ r, r < 20 → zvl (hST (hReadP (hOpen xx full (nI N)) (nI N)).2) (hSV (hReadP (hOpen xx full (nI N)) (nI N)).2) r = zvl (hFT xx) (hFV xx) r ∨ zvl (hST (hReadP (hOpen xx full (nI N)) (nI N)).2) (hSV (hReadP (hOpen xx full (nI N)) (nI N)).2) r = zvl (hST xx) (hSV xx) r) ∧
    (¬ (zlf (hZ xx) F 0 ≤ 3 ∧ full = 1) → zc (fun r => decide (¬ zvl (hST (hReadP (hOpen xx full (nI N)) (nI N)).2) (hSV (hReadP (hOpen xx full (nI N)) (nI N)).2) r = zvl (hST xx) (hSV xx) r)) 20 ≤ min 3 (zlf (hZ xx) F 0)) ∧
    (¬ (zlf (hZ xx) F 0 ≤ 3 ∧ full = 1) → ∃ a b : Nat, zcu (hST (hReadP (hOpen xx full (nI N)) (nI N)).2) (hSW (hReadP (hOpen xx full (nI N)) (nI N)).2) (hSV (hReadP (hOpen xx full (nI N)) (nI N)).2) (hSS (hReadP (hOpen xx full (nI N)) (nI N)).2) (hFT (hReadP (hOpen xx full (nI N)) (nI N)).2) (hFW (hReadP (hOpen xx full (nI N)) (nI N)).2) (hFV (hReadP (hOpen xx full (nI N)) (nI N)).2) (hFS (hReadP (hOpen xx full (nI N)) (nI N)).2) 20 = nI a ∧ zcu (hST xx) (hSW xx) (hSV xx) (hSS xx) (hFT xx) (hFW xx) (hFV xx) (hFS xx) 20 = nI b ∧ a ≤ b ∧ b ≤ a + min 3 (zlf (hZ xx) F 0) ∧ b ≤ 20) ∧
    (3 < zlf (hZ xx) F 0 → hMk (hReadP (hOpen xx full (nI N)) (nI N)).2 = hMk xx) ∧
    (∃ m', m' ≤ N ∧ ∀ g', g' (4 * c) = g (4 * c) → g' (4 * c + 1) = g (4 * c + 1) → zCF c N (hReadP (hOpen xx full (nI N)) (nI N)).2 y d g' u w m') := by
  have hz := zCF_z h hN
  have hm : hMk xx = nI m := h.1.2.2.2.2.2.2.1
  have hro := z_read hff hz hF hm hFd (z_opened N F full xx)
  obtain ⟨r1, r2⟩ := hro
  -- what is read: by place, or all of it
  obtain ⟨Q, hQ, hho, hmk, hfe, hfl, hrec, hdrop, hcf⟩ : ∃ Q : Nat → Bool, zc Q 20 = min 3 (zlf (hZ xx) F 0) ∧ hHo (hReadP (hOpen xx full (nI N)) (nI N)).2 = (if zlf (hZ xx) F 0 ≤ 3 then 0 else 1) ∧ (3 < zlf (hZ xx) F 0 → hMk (hReadP (hOpen xx full (nI N)) (nI N)).2 = hMk xx) ∧ zfarEq (hReadP (hOpen xx full (nI N)) (nI N)).2 xx ∧ hFl (hReadP (hOpen xx full (nI N)) (nI N)).2 = full ∧
      (∀ r, r < 20 → Q r = true → hST (hReadP (hOpen xx full (nI N)) (nI N)).2 r = (if hFT xx r = 0 then 0 else 1) ∧ (¬ hFT xx r = 0 → hSW (hReadP (hOpen xx full (nI N)) (nI N)).2 r = hFW xx r ∧ hSV (hReadP (hOpen xx full (nI N)) (nI N)).2 r = hFV xx r ∧ hSS (hReadP (hOpen xx full (nI N)) (nI N)).2 r = hFS xx r)) ∧
      (∀ r, r < 20 → Q r = false → (hST (hReadP (hOpen xx full (nI N)) (nI N)).2 r = hST xx r ∧ hSW (hReadP (hOpen xx full (nI N)) (nI N)).2 r = hSW xx r ∧ hSV (hReadP (hOpen xx full (nI N)) (nI N)).2 r = hSV xx r ∧ hSS (hReadP (hOpen xx full (nI N)) (nI N)).2 r = hSS xx r) ∨ (zlf (hZ xx) F 0 ≤ 3 ∧ full = 1 ∧ hST (hReadP (hOpen xx full (nI N)) (nI N)).2 r = 0 ∧ hFT xx r = 0)) ∧
      (∃ m', m' ≤ N ∧ hMk (hReadP (hOpen xx full (nI N)) (nI N)).2 = nI m') := by
    rcases r2 with ⟨g1, d1⟩ | ⟨g1, P', -, d1, g2⟩
    · have d2 := z_roundF h hN d1 hff
      refine ⟨fun r => decide (0 < zq (hZ xx) F r), ?_, by rw [if_pos g1]; exact d1.2.2.2.1, fun k => absurd k (by omega), d1.1, d1.2.2.1, fun r hr hq => ?_, fun r hr hq => ?_, ⟨N - N % u, Nat.sub_le _ _, d2.1.2.2.2.2.2.2.1⟩⟩
      · show zlf (hZ xx) F 0 = _
        omega
      · have k := d1.2.2.2.2 r hr
        rw [if_pos (by simpa using hq)] at k
        exact k
      · have k := d1.2.2.2.2 r hr
        have hq' : ¬ 0 < zq (hZ xx) F r := by simpa using hq
        rw [if_neg hq'] at k
        rcases hff with e | e
        · rw [if_pos e] at k
          exact Or.inl k
        · rw [if_neg (by rw [e]; decide)] at k
          refine Or.inr ⟨g1, e, k, ?_⟩
          have hF0 : F = 0 := by rw [hFd, e]; rfl
          subst e
          subst hF0
          have z1 := z_full h hN d1 r hr
          rw [d1.1.1, k] at z1
          exact z1.1.symm
    · refine ⟨fun r => decide (0 < zq (hZ xx) F r ∧ zq (hZ xx) F r ≤ P'), ?_, by rw [if_neg (by omega)]; exact d1.2.2.2.2.2.1, fun _ => d1.2.1, d1.1, d1.2.2.1, fun r hr hq => ?_, fun r hr hq => Or.inl ?_, ⟨m, h.1.2.2.2.1, by rw [d1.2.1]; exact hm⟩⟩
      · have k : zlf (hZ xx) F 0 = zc (fun r => decide (0 < zq (hZ xx) F r ∧ zq (hZ xx) F r ≤ P')) 20 + zlf (hZ xx) F P' := by
          refine zc_two 20 (fun r hr => ?_)
          by_cases a : 0 < zq (hZ xx) F r <;> by_cases b : zq (hZ xx) F r ≤ P' <;> simp [a, b] <;> omega
        omega
      · have k := d1.2.2.2.2.2.2.2 r hr
        rw [if_pos (by simpa using hq)] at k
        exact ⟨k.1, k.2.2⟩
      · have k := d1.2.2.2.2.2.2.2 r hr
        rw [if_neg (by simpa using hq)] at k
        exact ⟨k.1, k.2.2.1, k.2.2.2.1, k.2.2.2.2⟩
  generalize (hReadP (hOpen xx full (nI N)) (nI N)).2 = x' at *
  obtain ⟨e1, e2, e3, e4, e5, e6, e7, e8, e9⟩ := hfe
  have hT := fun r hr => (zfr_y (h.2 r hr) hN).2.2.2.2.1
  refine ⟨r1, hho, fun r hr => ?_, fun hn => ?_, fun hn => ?_, hmk, ?_⟩
  · cases hq : Q r with
    | true =>
      obtain ⟨k1, k2⟩ := hrec r hr hq
      refine Or.inl ?_
      unfold zvl
      rw [k1]
      by_cases k : hFT xx r = 0
      · rw [if_pos k, if_pos rfl, if_pos k]
      · rw [if_neg k, if_neg (by decide), if_neg k]
        exact (k2 k).2.1
    | false =>
      rcases hdrop r hr hq with ⟨k1, k2, k3, k4⟩ | ⟨-, -, k1, k2⟩
      · refine Or.inr ?_
        unfold zvl
        rw [k1, k3]
      · refine Or.inl ?_
        unfold zvl
        rw [k1, k2]
        rfl
  · rw [← hQ]
    refine zc_mono 20 (fun r hr hq => ?_)
    cases hq2 : Q r with
    | true => rfl
    | false =>
      rcases hdrop r hr hq2 with ⟨k1, k2, k3, k4⟩ | ⟨k1, k2, -, -⟩
      · refine absurd ?_ (of_decide_eq_true hq)
        unfold zvl
        rw [k1, k3]
      · exact absurd ⟨k1, k2⟩ hn
  · refine ⟨_, _, zcu_c _ _ _ _ _ _ _ _ 20, zcu_c _ _ _ _ _ _ _ _ 20, zc_mono 20 (fun r hr hq => ?_), ?_, zc_le _ 20⟩
    · cases hq2 : Q r with
      | true =>
        obtain ⟨k1, k2⟩ := hrec r hr hq2
        have hl : zlike (hST x') (hSW x') (hSV x') (hSS x') (hFT x') (hFW x') (hFV x') (hFS x') r = 1 := by
          refine zlike_1 ?_ (fun q => ?_)
          · rw [k1, e1]
            rcases hT r hr with k | k <;> rw [k] <;> rfl
          · rw [e1] at q
            rw [e2, e3, e4]
            exact k2 q
        have hq := of_decide_eq_true hq
        rw [hl] at hq
        exact absurd hq (by decide)
      | false =>
        rcases hdrop r hr hq2 with ⟨k1, k2, k3, k4⟩ | ⟨k1, k2, -, -⟩
        · have hq := of_decide_eq_true hq
          rw [e1, e2, e3, e4, zlike_c k1 k2 k3 k4] at hq
          exact decide_eq_true hq
        · exact absurd ⟨k1, k2⟩ hn
    · rw [← hQ]
      refine zc_or 20 (fun r hr hq => ?_)
      cases hq2 : Q r with
      | true => exact Or.inr rfl
      | false =>
        rcases hdrop r hr hq2 with ⟨k1, k2, k3, k4⟩ | ⟨k1, k2, -, -⟩
        · have hq := of_decide_eq_true hq
          refine Or.inl (decide_eq_true ?_)
          rw [e1, e2, e3, e4, zlike_c k1 k2 k3 k4]
          exact hq
        · exact absurd ⟨k1, k2⟩ hn
  · obtain ⟨m', hm', hm2⟩ := hcf
    refine ⟨m', hm', fun g' hg1 hg2 => ?_⟩
    obtain ⟨⟨a1, a2, a3, a4, a5, a6, a7, a8, a9, a10, a11⟩, h2⟩ := h
    refine ⟨⟨a1, a2, a3, hm', by rw [e8]; exact a5, by rw [e9]; exact a6, hm2, by rw [hg1]; exact a8, by rw [hg2]; exact a9, by rw [hfl]; exact hff, ?_⟩, fun r hr => ?_⟩
    · rw [hho]
      split
      · exact Or.inl rfl
      · exact Or.inr rfl
    · rw [e1, e2, e3, e4, e5, e6, e7]
      exact h2 r hr
/-- a difference of counts -/
theorem zdf {a b k : Nat} (h1 : b ≤ a + k) (hb : b ≤ 20) (hk : k ≤ 3) : ¬ nI a < nI b - nI k ∨ 2 ^ 30 ≤ a := by
  rcases Nat.lt_or_ge a (2 ^ 30) with h | h
  · refine Or.inl (fun q => ?_)
    rw [Int32.lt_iff_toInt_lt, pk_sub_toInt (by omega) (by omega), nI_toInt (by omega)] at q
    omega
  · exact Or.inr h
end PP
