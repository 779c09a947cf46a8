def zin (v a b : Int32) : Int32 := if v < a ∨ b < v then 0 else 1
theorem zin_nl (v a b : Int32) : narrow .boolean (.int (zin v a b)) = .int (zin v a b) := by unfold zin; split <;> rfl
theorem zin_c : ∀ n, n < 4 → zin (nI n) 0 3 = 1 := by decide +kernel
theorem zin_r : ∀ n, n < 20 → zin (nI n) 0 19 = 1 := by decide +kernel
theorem zin_01 (v a b : Int32) : zin v a b = 0 ∨ zin v a b = 1 := by unfold zin; split <;> simp
theorem zin_n1 {v a b : Int32} (h : ¬ zin v a b = 0) : zin v a b = 1 := (zin_01 v a b).resolve_left h
theorem z_sb {b i : Nat} : nI (b + i) - nI b = nI i := by
  have h := pk_sub (a := b + i) (b := b) (Nat.le_add_right _ _)
  rw [h]
  congr 1
  omega
theorem z_ge20 {i ca : Nat} (hi : i ≤ 20) (hca : ca < 4) (c : nI (20 * (ca + 1)) ≤ nI (20 * ca + i)) : i = 20 := by
  have := (nI_leI (by omega) (by omega)).mp c
  omega
theorem z_lt20 {i ca : Nat} (hi : i ≤ 20) (hca : ca < 4) (c : ¬ nI (20 * (ca + 1)) ≤ nI (20 * ca + i)) : i < 20 := by
  rcases Nat.lt_or_ge i 20 with h | h
  · exact h
  · exact absurd (nI_le (by omega) (by omega)) c
theorem z_ge20b {i ca : Nat} (hi : i ≤ 20) (hca : ca < 4) (c : nI (20 * ca + 20) ≤ nI (20 * ca + i)) : i = 20 := by
  have := (nI_leI (by omega) (by omega)).mp c
  omega
theorem z_lt20b {i ca : Nat} (hi : i ≤ 20) (hca : ca < 4) (c : ¬ nI (20 * ca + 20) ≤ nI (20 * ca + i)) : i < 20 := by
  rcases Nat.lt_or_ge i 20 with h | h
  · exact h
  · exact absurd (nI_le (by omega) (by omega)) c
