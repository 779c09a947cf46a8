/-! ===== what the methods of the reference compute ===== -/
def zin (v a b : Int32) : Int32 := if v < a ∨ b < v then 0 else 1
theorem zin_nl (v a b : Int32) : narrow .boolean (.int (zin v a b)) = .int (zin v a b) := by unfold zin; split <;> rfl
theorem zin_c : ∀ n, n < 4 → zin (nI n) 0 3 = 1 := by decide +kernel
theorem zin_r : ∀ n, n < 20 → zin (nI n) 0 19 = 1 := by decide +kernel
theorem zin_01 (v a b : Int32) : zin v a b = 0 ∨ zin v a b = 1 := by unfold zin; split <;> simp
theorem zin_n1 {v a b : Int32} (h : ¬ zin v a b = 0) : zin v a b = 1 := (zin_01 v a b).resolve_left h
theorem z_sb {b i : Nat} : nI (b + i) - nI b = nI i := by
  have h := pk_sub (a := b + i) (b := b) (Nat.le_add_right _ _)
  rw [h]
  congr 1
  omega
theorem z_ge20 {i ca : Nat} (hi : i ≤ 20) (hca : ca < 4) (c : nI (20 * (ca + 1)) ≤ nI (20 * ca + i)) : i = 20 := by
  have := (nI_leI (by omega) (by omega)).mp c
  omega
theorem z_lt20 {i ca : Nat} (hi : i ≤ 20) (hca : ca < 4) (c : ¬ nI (20 * (ca + 1)) ≤ nI (20 * ca + i)) : i < 20 := by
  rcases Nat.lt_or_ge i 20 with h | h
  · exact h
  · exact absurd (nI_le (by omega) (by omega)) c
theorem z_ge20b {i ca : Nat} (hi : i ≤ 20) (hca : ca < 4) (c : nI (20 * ca + 20) ≤ nI (20 * ca + i)) : i = 20 := by
  have := (nI_leI (by omega) (by omega)).mp c
  omega
theorem z_lt20b {i ca : Nat} (hi : i ≤ 20) (hca : ca < 4) (c : ¬ nI (20 * ca + 20) ≤ nI (20 * ca + i)) : i < 20 := by
  rcases Nat.lt_or_ge i 20 with h | h
  · exact h
  · exact absurd (nI_le (by omega) (by omega)) c
def yst (un day : Int32) : Int32 := day - (day - day / un * un)
/-- told deletes that go, from place b on -/
def yclr (uK uR : zI) (way now : Int32) (b n : Nat) : zI := fun j => if b ≤ j ∧ j < b + n ∧ uK j = 2 ∧ (way = 2 ∨ (way = 1 ∧ ¬ now - uR j < 10)) then 0 else uK j
theorem yclr_0 {uK uR : zI} {way now : Int32} {b : Nat} : uK = yclr uK uR way now b 0 := by
  funext j
  unfold yclr
  rw [if_neg (fun q => by omega)]
theorem yclr_at {uK uR : zI} {way now : Int32} {b n : Nat} : yclr uK uR way now b n (b + n) = uK (b + n) := by
  unfold yclr
  rw [if_neg (fun q => by omega)]
theorem yclr_s {uK uR : zI} {way now : Int32} {b n : Nat} : upd (yclr uK uR way now b n) (b + n) (if uK (b + n) = 2 ∧ (way = 2 ∨ (way = 1 ∧ ¬ now - uR (b + n) < 10)) then 0 else uK (b + n)) = yclr uK uR way now b (n + 1) := by
  funext j
  unfold upd yclr
  by_cases hj : j = b + n
  · subst hj
    rw [if_pos rfl]
    by_cases h : uK (b + n) = 2 ∧ (way = 2 ∨ (way = 1 ∧ ¬ now - uR (b + n) < 10))
    · rw [if_pos h, if_pos ⟨by omega, by omega, h⟩]
    · rw [if_neg h, if_neg (fun q => h q.2.2)]
  · rw [if_neg hj]
    have : (j < b + (n + 1)) = (j < b + n) := propext ⟨fun q => by omega, fun q => by omega⟩
    simp only [this]
def ycnt (f : zI) (k : Int32) (b : Nat) : Nat → Int32
  | 0 => 0
  | n + 1 => ycnt f k b n + (if f (b + n) = k then 1 else 0)
def yhld (f : zI) (b : Nat) : Nat → Int32
  | 0 => 0
  | n + 1 => yhld f b n + (if f (b + n) = 0 then 0 else 1)
def ysee (f : zI) (b n : Nat) : zI := fun j => if b ≤ j ∧ j < b + n then 0 else f j
theorem ysee_0 {f : zI} {b : Nat} : f = ysee f b 0 := by
  funext j
  unfold ysee
  rw [if_neg (fun q => by omega)]
theorem ysee_s {f : zI} {b n : Nat} : upd (ysee f b n) (b + n) 0 = ysee f b (n + 1) := by
  funext j
  unfold upd ysee
  by_cases hj : j = b + n
  · subst hj
    rw [if_pos rfl, if_pos ⟨by omega, by omega⟩]
  · rw [if_neg hj]
    have : (j < b + (n + 1)) = (j < b + n) := propext ⟨fun q => by omega, fun q => by omega⟩
    simp only [this]
def ynx (uK uS : zI) (frm ps pr : Int32) (b : Nat) : Nat → Int32
  | 0 => -1
  | n + 1 => if (uK (b + n) ≠ 0 ∧ ¬ uS (b + n) < frm ∧ (ps < uS (b + n) ∨ (uS (b + n) = ps ∧ ¬ nI n ≤ pr))) ∧ (ynx uK uS frm ps pr b n = -1 ∨ ¬ uS (ynx uK uS frm ps pr b n).toNatClampNeg ≤ uS (b + n)) then nI (b + n) else ynx uK uS frm ps pr b n
theorem ynx_in (uK uS : zI) (frm ps pr : Int32) (b : Nat) : ∀ n, ynx uK uS frm ps pr b n = -1 ∨ ∃ r, r < n ∧ ynx uK uS frm ps pr b n = nI (b + r)
  | 0 => Or.inl rfl
  | n + 1 => by
    rcases ynx_in uK uS frm ps pr b n with h | ⟨r, h1, h2⟩
    · unfold ynx
      split
      · exact Or.inr ⟨n, Nat.lt_succ_self n, rfl⟩
      · exact Or.inl h
    · unfold ynx
      split
      · exact Or.inr ⟨n, Nat.lt_succ_self n, rfl⟩
      · exact Or.inr ⟨r, Nat.lt_succ_of_lt h1, h2⟩
theorem ynx_ne {uK uS : zI} {frm ps pr : Int32} {b n : Nat} (h : ¬ ynx uK uS frm ps pr b n = -1) : ∃ r, r < n ∧ ynx uK uS frm ps pr b n = nI (b + r) := (ynx_in uK uS frm ps pr b n).resolve_left h
theorem ynx_ix {uK uS : zI} {frm ps pr : Int32} {b n : Nat} (h : ¬ ynx uK uS frm ps pr b n = -1) (hb : b + n ≤ 80) : zix (ynx uK uS frm ps pr b n) 80 (ynx uK uS frm ps pr b n).toNatClampNeg := by
  obtain ⟨r, h1, h2⟩ := ynx_ne h
  rw [h2]
  have h3 := zix_nI (j := b + r) (n := 80) (by omega) (by decide)
  exact ⟨h3.1, rfl⟩
def yali (uH xW xV xS uW uV uS : zI) (k : Nat) : Int32 := if uH k ≠ 0 ∧ xW k = uW k ∧ xV k = uV k ∧ xS k = uS k then 1 else 0
def ywr (uK uH xW xV xS uW uV uS : zI) (b : Nat) : Nat → Int32
  | 0 => 0
  | n + 1 => ywr uK uH xW xV xS uW uV uS b n + (if (uK (b + n) = 1 ∧ yali uH xW xV xS uW uV uS (b + n) = 0) ∨ (¬ uK (b + n) = 1 ∧ ¬ uH (b + n) = 0) then 1 else 0)
def ycop (uH xW : zI) (w : Int32) : Nat → Int32
  | 0 => 0
  | n + 1 => ycop uH xW w n + (if ¬ uH n = 0 ∧ xW n = w then 1 else 0)
def ybst (uH xW xS : zI) (w : Int32) : Nat → Int32
  | 0 => -1
  | n + 1 => if (¬ uH n = 0 ∧ xW n = w) ∧ (ybst uH xW xS w n = -1 ∨ ¬ xS n ≤ xS (ybst uH xW xS w n).toNatClampNeg) then nI n else ybst uH xW xS w n
theorem ybst_in (uH xW xS : zI) (w : Int32) : ∀ n, ybst uH xW xS w n = -1 ∨ ∃ r, r < n ∧ ybst uH xW xS w n = nI r
  | 0 => Or.inl rfl
  | n + 1 => by
    rcases ybst_in uH xW xS w n with h | ⟨r, h1, h2⟩
    · unfold ybst
      split
      · exact Or.inr ⟨n, Nat.lt_succ_self n, rfl⟩
      · exact Or.inl h
    · unfold ybst
      split
      · exact Or.inr ⟨n, Nat.lt_succ_self n, rfl⟩
      · exact Or.inr ⟨r, Nat.lt_succ_of_lt h1, h2⟩
theorem ybst_ix {uH xW xS : zI} {w : Int32} {n : Nat} (h : ¬ ybst uH xW xS w n = -1) (hb : n ≤ 80) : zix (ybst uH xW xS w n) 80 (ybst uH xW xS w n).toNatClampNeg := by
  obtain ⟨r, h1, h2⟩ := (ybst_in uH xW xS w n).resolve_left h
  rw [h2]
  have h3 := zix_nI (j := r) (n := 80) (by omega) (by decide)
  exact ⟨h3.1, rfl⟩
def yfin (uH uN : zI) (full : Int32) (b n : Nat) : zI := fun j => if b ≤ j ∧ j < b + n then (if ¬ uH j = 0 ∧ (¬ uN j = 0 ∨ full = 0) then 1 else 0) else uH j
theorem yfin_0 {uH uN : zI} {full : Int32} {b : Nat} : uH = yfin uH uN full b 0 := by
  funext j
  unfold yfin
  rw [if_neg (fun q => by omega)]
theorem yfin_at {uH uN : zI} {full : Int32} {b n : Nat} : yfin uH uN full b n (b + n) = uH (b + n) := by
  unfold yfin
  rw [if_neg (fun q => by omega)]
theorem yfin_s {uH uN : zI} {full : Int32} {b n : Nat} : upd (yfin uH uN full b n) (b + n) (if ¬ uH (b + n) = 0 ∧ (¬ uN (b + n) = 0 ∨ full = 0) then 1 else 0) = yfin uH uN full b (n + 1) := by
  funext j
  unfold upd yfin
  by_cases hj : j = b + n
  · subst hj
    rw [if_pos rfl]
    exact (if_pos ⟨by omega, by omega⟩).symm
  · rw [if_neg hj]
    have : (j < b + (n + 1)) = (j < b + n) := propext ⟨fun q => by omega, fun q => by omega⟩
    simp only [this]
/-! a page: (placeStamps, placeRecords, isHeld, its three, wasSeen) -/
abbrev yPg : Type := zI × zI × zI × zI × zI × zI × zI
def ytk (uK uW uV uS : zI) (ca : Nat) (x : yPg) (r : Nat) : yPg :=
  (upd x.1 ca (uS (20 * ca + r)), upd x.2.1 ca (nI r), upd x.2.2.1 (20 * ca + r) (if uK (20 * ca + r) = 1 then 1 else 0), upd x.2.2.2.1 (20 * ca + r) (uW (20 * ca + r)), upd x.2.2.2.2.1 (20 * ca + r) (uV (20 * ca + r)), upd x.2.2.2.2.2.1 (20 * ca + r) (uS (20 * ca + r)), upd x.2.2.2.2.2.2 (20 * ca + r) 1)
def ypg (uK uW uV uS : zI) (frm : Int32) (ca : Nat) : Nat → yPg → Int32 → yPg × Int32
  | 0, x, c => (x, c)
  | k + 1, x, c => if ynx uK uS frm (x.1 ca) (x.2.1 ca) (20 * ca) 20 = -1 then (x, c) else ypg uK uW uV uS frm ca k (ytk uK uW uV uS ca x ((ynx uK uS frm (x.1 ca) (x.2.1 ca) (20 * ca) 20).toNatClampNeg - 20 * ca)) (c + 1)
def yte (uK uS : zI) (frm : Int32) (ca : Nat) (uU uO uM uF uE : zI) (y : yPg × Int32) : Int32 × zI × zI × zI × yPg :=
  if ynx uK uS frm (y.1.1 ca) (y.1.2.1 ca) (20 * ca) 20 = -1 then (y.2, upd uO ca 0, upd uM ca (yst (uU ca) (uE ca)), uE, y.1.1, y.1.2.1, yfin y.1.2.2.1 y.1.2.2.2.2.2.2 (uF ca) (20 * ca) 20, y.1.2.2.2)
  else (y.2, uO, uM, uE, y.1)
/-- read: (count, isOpen, marks, openedOn, the page) -/
def ytp (uK uW uV uS : zI) (ca : Nat) (now : Int32) (uU uO uM uF uG uE uD : zI) (x : yPg) : Int32 × zI × zI × zI × yPg :=
  if now - uD ca ≤ 5 then yte uK uS (uG ca) ca uU uO uM uF uE (ypg uK uW uV uS (uG ca) ca 3 x 0)
  else yte uK uS (uG ca) ca uU uO uM uF (upd uE ca now) (ypg uK uW uV uS (uG ca) ca 3 (upd x.1 ca (-1), upd x.2.1 ca (-1), x.2.2.1, x.2.2.2.1, x.2.2.2.2.1, x.2.2.2.2.2.1, ysee x.2.2.2.2.2.2 (20 * ca) 20) 0)
theorem ypg_e {uK uW uV uS : zI} {frm : Int32} {ca n : Nat} {x : yPg} {c : Int32} (h : ynx uK uS frm (x.1 ca) (x.2.1 ca) (20 * ca) 20 = -1) : ypg uK uW uV uS frm ca n x c = (x, c) := by
  cases n with
  | zero => rfl
  | succ n => rw [ypg, if_pos h]
theorem ypg_s {uK uW uV uS : zI} {frm : Int32} {ca k r : Nat} {x : yPg} (h : ¬ ynx uK uS frm (x.1 ca) (x.2.1 ca) (20 * ca) 20 = -1) (hr : ynx uK uS frm (x.1 ca) (x.2.1 ca) (20 * ca) 20 = nI (20 * ca + r)) (h20 : r < 20) (hca : ca < 4) (hk : k < 3) : ypg uK uW uV uS frm ca (3 - k) x (nI k) = ypg uK uW uV uS frm ca (3 - (k + 1)) (ytk uK uW uV uS ca x r) (nI (k + 1)) := by
  have h3 : 3 - k = (3 - (k + 1)) + 1 := by omega
  rw [h3, ypg, if_neg h, hr, nI_clamp (by omega), nI_1, Nat.add_sub_cancel_left]
def yclrA (uK uR uY : zI) (now : Int32) : Nat → zI
  | 0 => uK
  | n + 1 => yclr (yclrA uK uR uY now n) uR (uY n) now (20 * n) 20
def ybres (f : Int32) : Int32 := if f = -1 then -1 else 100 * (f / 20) + (f - f / 20 * 20)
