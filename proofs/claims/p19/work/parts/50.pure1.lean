/-! ===== counts; what the law's numbers say of records ===== -/
section PU
/-- how many below n -/
def zc (p : Nat → Bool) : Nat → Nat
  | 0 => 0
  | n + 1 => zc p n + (if p n = true then 1 else 0)
theorem zc_le (p : Nat → Bool) : ∀ n, zc p n ≤ n
  | 0 => Nat.le_refl 0
  | n + 1 => by
    have h := zc_le p n
    unfold zc
    split <;> omega
theorem zc_mono {p q : Nat → Bool} : ∀ n, (∀ r, r < n → p r = true → q r = true) → zc p n ≤ zc q n
  | 0, _ => Nat.le_refl 0
  | n + 1, h => by
    have h1 := zc_mono n (fun r hr => h r (Nat.lt_succ_of_lt hr))
    have h2 := h n (Nat.lt_succ_self n)
    unfold zc
    by_cases a : p n = true
    · rw [if_pos a, if_pos (h2 a)]
      omega
    · rw [if_neg a]
      split <;> omega
theorem zc_congr {p q : Nat → Bool} : ∀ n, (∀ r, r < n → p r = q r) → zc p n = zc q n
  | 0, _ => rfl
  | n + 1, h => by
    unfold zc
    rw [zc_congr n (fun r hr => h r (Nat.lt_succ_of_lt hr)), h n (Nat.lt_succ_self n)]
theorem zc_one {p q : Nat → Bool} {r0 : Nat} (hp : p r0 = true) (hq : q r0 = false) : ∀ n, r0 < n → (∀ r, r < n → ¬ r = r0 → p r = q r) → zc p n = zc q n + 1
  | 0, h, _ => absurd h (Nat.not_lt_zero _)
  | n + 1, h, hx => by
    unfold zc
    by_cases e : r0 = n
    · subst e
      rw [hp, hq, zc_congr r0 (fun r hr => hx r (Nat.lt_succ_of_lt hr) (Nat.ne_of_lt hr))]
      simp
    · rw [zc_one hp hq n (by omega) (fun r hr => hx r (Nat.lt_succ_of_lt hr)), hx n (Nat.lt_succ_self n) (fun z => e z.symm)]
      omega
theorem zc_0 {p : Nat → Bool} : ∀ n, zc p n = 0 → ∀ r, r < n → p r = false
  | 0, _, r, hr => absurd hr (Nat.not_lt_zero r)
  | n + 1, h, r, hr => by
    unfold zc at h
    by_cases a : p n = true
    · rw [if_pos a] at h
      omega
    · rw [if_neg a] at h
      by_cases e : r = n
      · subst e
        simpa using a
      · exact zc_0 n h r (by omega)
theorem zc_z {p : Nat → Bool} : ∀ n, (∀ r, r < n → p r = false) → zc p n = 0
  | 0, _ => rfl
  | n + 1, h => by
    unfold zc
    rw [zc_z n (fun r hr => h r (Nat.lt_succ_of_lt hr)), h n (Nat.lt_succ_self n)]
    rfl
/-- two that share nothing -/
theorem zc_two {p q s : Nat → Bool} : ∀ n, (∀ r, r < n → p r = (q r || s r) ∧ (q r && s r) = false) → zc p n = zc q n + zc s n
  | 0, _ => rfl
  | n + 1, h => by
    have h1 := zc_two n (fun r hr => h r (Nat.lt_succ_of_lt hr))
    obtain ⟨h2, h3⟩ := h n (Nat.lt_succ_self n)
    unfold zc
    rw [h1, h2]
    revert h3
    cases q n <;> cases s n <;> simp <;> omega
theorem zc_or {p q s : Nat → Bool} : ∀ n, (∀ r, r < n → p r = true → q r = true ∨ s r = true) → zc p n ≤ zc q n + zc s n
  | 0, _ => Nat.le_refl 0
  | n + 1, h => by
    have h1 := zc_or n (fun r hr => h r (Nat.lt_succ_of_lt hr))
    have h2 := h n (Nat.lt_succ_self n)
    unfold zc
    revert h2
    cases p n <;> cases q n <;> cases s n <;> simp <;> omega
theorem zc_app (p : Nat → Bool) (a : Nat) : ∀ b, zc p (a + b) = zc p a + zc (fun r => p (a + r)) b
  | 0 => rfl
  | b + 1 => by
    have h := zc_app p a b
    show zc p (a + b) + (if p (a + b) = true then 1 else 0) = zc p a + (zc (fun r => p (a + r)) b + (if p (a + b) = true then 1 else 0))
    rw [h, Nat.add_assoc]
theorem nI_if (k : Nat) (c : Bool) : nI (k + (if c = true then 1 else 0)) = nI k + (if c = true then 1 else 0) := by
  cases c
  · simp [nI]
  · exact (nI_1 k).symm
theorem zcnt_c (T : zI) : ∀ n, zcnt T n = nI (zc (fun r => !decide (T r = 0)) n)
  | 0 => rfl
  | n + 1 => by
    unfold zc
    rw [nI_if, ← zcnt_c T n, zcnt]
    by_cases h : T n = 0 <;> simp [h]
theorem zcow_c (T W : zI) (w : Int32) : ∀ n, zcow T W w n = nI (zc (fun r => !decide (T r = 0) && decide (W r = w)) n)
  | 0 => rfl
  | n + 1 => by
    unfold zc
    rw [nI_if, ← zcow_c T W w n, zcow]
    by_cases h : T n = 0 <;> by_cases g : W n = w <;> simp [h, g]
theorem zcu_c (T W V S T' W' V' S' : zI) : ∀ n, zcu T W V S T' W' V' S' n = nI (zc (fun r => decide (zlike T W V S T' W' V' S' r = 0)) n)
  | 0 => rfl
  | n + 1 => by
    unfold zc
    rw [nI_if, ← zcu_c T W V S T' W' V' S' n, zcu]
    by_cases h : zlike T W V S T' W' V' S' n = 0 <;> simp [h]
/-- what a record is in the law: value, work, stamp -/
def zenN (a b t : Nat) : Int32 := nI (a + 1024 * b + 16384 * t)
def zso (v : Int32) : Int32 := if -1 ≤ v then v >>> 14 else -2 - v
def zrc (N : Nat) (T V W S z : Int32) : Prop := (T = 0 ∧ z = -1) ∨ (T = 1 ∧ ∃ a b t : Nat, a ≤ 1000 ∧ b ≤ 9 ∧ t ≤ N ∧ V = nI a ∧ W = nI b ∧ S = nI t ∧ z = zenN a b t)
def zfr (N w : Nat) (fT fV fW fS iT tS rD y d : Int32) : Prop :=
  (fT = 0 ∧ iT = 0 ∧ y = -1) ∨ (fT = 0 ∧ iT = 1 ∧ ∃ t q : Nat, t ≤ N ∧ q ≤ N ∧ tS = nI t ∧ y = -2 - nI t ∧ rD = nI q ∧ d = nI q ∧ ¬ w = 2 ∧ (w = 1 → N < q + 10)) ∨
  (fT = 1 ∧ iT = 0 ∧ ∃ a b t : Nat, a ≤ 1000 ∧ b ≤ 9 ∧ t ≤ N ∧ fV = nI a ∧ fW = nI b ∧ fS = nI t ∧ y = zenN a b t)
theorem zen_p {a b t : Nat} (ha : a ≤ 1000) (hb : b ≤ 9) (ht : t ≤ 5000) : ¬ zenN a b t < 0 ∧ -1 ≤ zenN a b t ∧ ¬ zenN a b t = -1 ∧ 0 ≤ zenN a b t := by
  have h1 : (zenN a b t).toInt = ((a + 1024 * b + 16384 * t : Nat) : Int) := nI_toInt (by omega)
  have e0 : (0 : Int32).toInt = 0 := by decide
  have e1 : (-1 : Int32).toInt = -1 := by decide
  refine ⟨fun h => ?_, ?_, fun h => ?_, ?_⟩
  · rw [Int32.lt_iff_toInt_lt, h1, e0] at h
    omega
  · rw [Int32.le_iff_toInt_le, h1, e1]
    omega
  · rw [h, e1] at h1
    omega
  · rw [Int32.le_iff_toInt_le, h1, e0]
    omega
theorem zen_v {a b t : Nat} (ha : a ≤ 1000) (hb : b ≤ 9) (ht : t ≤ 5000) : zenN a b t &&& 1023 = nI a := by
  unfold zenN
  rw [pk_andN (n := a + 1024 * b + 16384 * t) (by omega) (m := 1023) 10 (by decide)]
  congr 1
  omega
theorem zen_w {a b t : Nat} (ha : a ≤ 1000) (hb : b ≤ 9) (ht : t ≤ 5000) : (zenN a b t >>> 10) &&& 15 = nI b := by
  unfold zenN
  rw [pk_shrN (n := a + 1024 * b + 16384 * t) (by omega) 10 10 (by decide), pk_andN (by omega) (m := 15) 4 (by decide)]
  congr 1
  omega
theorem zen_s {a b t : Nat} (ha : a ≤ 1000) (hb : b ≤ 9) (ht : t ≤ 5000) : zso (zenN a b t) = nI t := by
  unfold zso
  rw [if_pos (zen_p ha hb ht).2.1]
  unfold zenN
  rw [pk_shrN (n := a + 1024 * b + 16384 * t) (by omega) 14 14 (by decide)]
  congr 1
  omega
theorem zen_i {a b t a' b' t' : Nat} (ha : a ≤ 1000) (hb : b ≤ 9) (ht : t ≤ 5000) (ha' : a' ≤ 1000) (hb' : b' ≤ 9) (ht' : t' ≤ 5000) : zenN a b t = zenN a' b' t' ↔ a = a' ∧ b = b' ∧ t = t' := by
  unfold zenN
  rw [nI_eq (by omega) (by omega)]
  omega
/-- how the law makes it -/
theorem zen_m {a b t : Nat} (ha : a ≤ 1000) (hb : b ≤ 9) (ht : t ≤ 5000) : (nI a ||| nI b <<< 10) ||| nI t <<< 14 = zenN a b t := by
  rw [pk_shlN (n := b) 10 10 (by decide) (by omega), pk_shlN (n := t) 14 14 (by decide) (by omega)]
  have h1 : nI a ||| nI (b * 2 ^ 10) = nI (a + 1024 * b) := by
    apply Int32.toBitVec_inj.mp
    rw [Int32.toBitVec_or]
    apply BitVec.eq_of_toNat_eq
    rw [BitVec.toNat_or, pk_tn (by omega), pk_tn (by omega), pk_tn (by omega)]
    have := Nat.two_pow_add_eq_or_of_lt (i := 10) (b := a) (by omega) b
    rw [Nat.or_comm, Nat.mul_comm b, ← this]
    omega
  rw [h1]
  apply Int32.toBitVec_inj.mp
  rw [Int32.toBitVec_or]
  apply BitVec.eq_of_toNat_eq
  unfold zenN
  rw [BitVec.toNat_or, pk_tn (by omega), pk_tn (by omega), pk_tn (by omega)]
  have := Nat.two_pow_add_eq_or_of_lt (i := 14) (b := a + 1024 * b) (by omega) t
  rw [Nat.or_comm, Nat.mul_comm t, ← this]
  omega
theorem ztd_toInt {t : Nat} (ht : t ≤ 5000) : (-2 - nI t).toInt = -2 - (t : Int) := by
  have h := nI_toInt (n := t) (by omega)
  have e2 : (-2 : Int32).toInt = -2 := by decide
  rw [Int32.toInt_sub, h, e2]
  exact Int.bmod_eq_of_le (by omega) (by omega)
theorem ztd_p {t : Nat} (ht : t ≤ 5000) : (-2 - nI t) < 0 ∧ ¬ -1 ≤ (-2 - nI t) ∧ ¬ (-2 - nI t) = -1 ∧ zso (-2 - nI t) = nI t := by
  have h := ztd_toInt ht
  have e0 : (0 : Int32).toInt = 0 := by decide
  have e1 : (-1 : Int32).toInt = -1 := by decide
  have e2 : (-2 : Int32).toInt = -2 := by decide
  have h2 : ¬ -1 ≤ (-2 - nI t) := by
    rw [Int32.le_iff_toInt_le, h, e1]
    omega
  refine ⟨?_, h2, fun q => ?_, ?_⟩
  · rw [Int32.lt_iff_toInt_lt, h, e0]
    omega
  · rw [q, e1] at h
    omega
  · unfold zso
    rw [if_neg h2]
    apply Int32.toInt_inj.mp
    rw [Int32.toInt_sub, h, e2, nI_toInt (by omega), show (-2 - (-2 - (t : Int))) = t by omega]
    exact Int.bmod_eq_of_le (by omega) (by omega)
theorem zm1_p : (-1 : Int32) < 0 ∧ (-1 : Int32) ≤ -1 ∧ ¬ (0 : Int32) ≤ -1 := by decide
theorem nlt_le {x : Int32} (h : x < 0) : ¬ 0 ≤ x := fun q => by
  rw [Int32.lt_iff_toInt_lt] at h
  rw [Int32.le_iff_toInt_le] at q
  omega
/-- what the law reads off a place of its far numbers -/
theorem zfr_y {N w : Nat} {fT fV fW fS iT tS rD y d : Int32} (h : zfr N w fT fV fW fS iT tS rD y d) (hN : N ≤ 5000) : (y < 0 ↔ fT = 0) ∧ (0 ≤ y ↔ ¬ fT = 0) ∧ (-1 ≤ y ↔ iT = 0) ∧ (y = -1 ↔ fT = 0 ∧ iT = 0) ∧ (fT = 0 ∨ fT = 1) ∧ (iT = 0 ∨ iT = 1) ∧ (fT = 0 ∨ (y &&& 1023 = fV ∧ zso y = fS ∧ iT = 0)) ∧ (iT = 0 ∨ (zso y = tS ∧ fT = 0)) := by
  rcases h with ⟨rfl, rfl, rfl⟩ | ⟨rfl, rfl, t, q, ht, hq, rfl, rfl, rfl, rfl, -⟩ | ⟨rfl, rfl, a, b, t, ha, hb, ht, rfl, rfl, rfl, rfl⟩
  · refine ⟨by decide, by decide, by decide, by decide, Or.inl rfl, Or.inl rfl, Or.inl rfl, Or.inl rfl⟩
  · obtain ⟨h1, h2, h3, h4⟩ := ztd_p (t := t) (by omega)
    exact ⟨⟨fun _ => rfl, fun _ => h1⟩, ⟨fun k => absurd k (nlt_le h1), fun k => absurd rfl k⟩, ⟨fun k => absurd k h2, fun k => absurd k (by decide)⟩, ⟨fun k => absurd k h3, fun k => absurd k.2 (by decide)⟩, Or.inl rfl, Or.inr rfl, Or.inl rfl, Or.inr ⟨h4, rfl⟩⟩
  · obtain ⟨h1, h2, h3, h4⟩ := zen_p (a := a) (b := b) (t := t) ha hb (by omega)
    exact ⟨⟨fun k => absurd k h1, fun k => absurd k (by decide)⟩, ⟨fun _ => by decide, fun _ => h4⟩, ⟨fun _ => rfl, fun _ => h2⟩, ⟨fun k => absurd k h3, fun k => absurd k.1 (by decide)⟩, Or.inr rfl, Or.inl rfl, Or.inr ⟨zen_v ha hb (by omega), zen_s ha hb (by omega), rfl⟩, Or.inl rfl⟩
theorem zrc_z {N : Nat} {T V W S z : Int32} (h : zrc N T V W S z) (hN : N ≤ 5000) : (z < 0 ↔ T = 0) ∧ (0 ≤ z ↔ ¬ T = 0) ∧ (T = 0 ∨ T = 1) ∧ (T = 0 ∨ (z &&& 1023 = V ∧ (z >>> 10) &&& 15 = W ∧ zso z = S)) ∧ (T = 0 → z = -1) := by
  rcases h with ⟨rfl, rfl⟩ | ⟨rfl, a, b, t, ha, hb, ht, rfl, rfl, rfl, rfl⟩
  · exact ⟨by decide, by decide, Or.inl rfl, Or.inl rfl, fun _ => rfl⟩
  · obtain ⟨h1, h2, h3, h4⟩ := zen_p (a := a) (b := b) (t := t) ha hb (by omega)
    exact ⟨⟨fun k => absurd k h1, fun k => absurd k (by decide)⟩, ⟨fun _ => by decide, fun _ => h4⟩, Or.inr rfl, Or.inr ⟨zen_v ha hb (by omega), zen_w ha hb (by omega), zen_s ha hb (by omega)⟩, fun k => absurd k (by decide)⟩
/-- the two hold the same -/
theorem zrc_fr {N w : Nat} {fT fV fW fS iT tS rD y d T V W S z : Int32} (h : zfr N w fT fV fW fS iT tS rD y d) (g : zrc N T V W S z) (hN : N ≤ 5000) (hf : ¬ fT = 0) : y = z ↔ (¬ T = 0 ∧ W = fW ∧ V = fV ∧ S = fS) := by
  rcases h with ⟨rfl, -⟩ | ⟨rfl, -⟩ | ⟨rfl, rfl, a, b, t, ha, hb, ht, rfl, rfl, rfl, rfl⟩
  · exact absurd rfl hf
  · exact absurd rfl hf
  · rcases g with ⟨rfl, rfl⟩ | ⟨rfl, a', b', t', ha', hb', ht', rfl, rfl, rfl, rfl⟩
    · exact ⟨fun k => absurd k (zen_p ha hb (by omega)).2.2.1, fun k => absurd rfl k.1⟩
    · rw [zen_i ha hb (by omega) ha' hb' (by omega), nI_eq (by omega) (by omega), nI_eq (by omega) (by omega), nI_eq (by omega) (by omega)]
      constructor
      · rintro ⟨rfl, rfl, rfl⟩
        exact ⟨by decide, rfl, rfl, rfl⟩
      · rintro ⟨-, h1, h2, h3⟩
        exact ⟨h2.symm, h1.symm, h3.symm⟩
end PU
