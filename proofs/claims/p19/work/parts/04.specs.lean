/-! ===== what the methods of the class compute, over numbers and functions ===== -/
/-- how many places below n hold something -/
def zcnt (T : zI) : Nat → Int32
  | 0 => 0
  | n + 1 => if T n = 0 then zcnt T n else zcnt T n + 1
def zcow (T W : zI) (w : Int32) : Nat → Int32
  | 0 => 0
  | n + 1 => if T n = 0 then zcow T W w n else if W n = w then zcow T W w n + 1 else zcow T W w n
def zlike (T W V S T' W' V' S' : zI) (r : Nat) : Int32 :=
  if T r = 0 ∨ T' r = 0 then (if T r = T' r then 1 else 0) else if W r = W' r ∧ V r = V' r ∧ S r = S' r then 1 else 0
def zcu (T W V S T' W' V' S' : zI) : Nat → Int32
  | 0 => 0
  | n + 1 => if zlike T W V S T' W' V' S' n = 0 then zcu T W V S T' W' V' S' n + 1 else zcu T W V S T' W' V' S' n
def zlat (T W S : zI) (w : Int32) : Nat → Int32 × Int32
  | 0 => (-1, -1)
  | n + 1 => if T n = 0 then zlat T W S w n else if W n = w then (if S n ≤ (zlat T W S w n).2 then zlat T W S w n else (nI n, S n)) else zlat T W S w n
/-- a stamp by a clock -/
def zst (un day : Int32) : Int32 := if un ≤ 1 then day else day - (day - day / un * un)
/-- told deletes that go -/
def zfg (iT rD : zI) (de today : Int32) (n : Nat) : zI := fun j => if j < n ∧ (de = 2 ∨ (de = 1 ∧ ¬ today - rD j < 10)) then 0 else iT j
theorem zfg_y {iT rD : zI} {de today : Int32} {n : Nat} (h : de = 2 ∨ (de = 1 ∧ ¬ today - rD n < 10)) : upd (zfg iT rD de today n) n 0 = zfg iT rD de today (n + 1) := by
  funext j
  unfold upd zfg
  by_cases hj : j = n
  · subst hj
    rw [if_pos rfl, if_pos ⟨Nat.lt_succ_self _, h⟩]
  · rw [if_neg hj]
    have : (j < n + 1) = (j < n) := propext ⟨fun q => by omega, fun q => by omega⟩
    simp only [this]
theorem zfg_n {iT rD : zI} {de today : Int32} {n : Nat} (h : ¬ (de = 2 ∨ (de = 1 ∧ ¬ today - rD n < 10))) : zfg iT rD de today n = zfg iT rD de today (n + 1) := by
  funext j
  unfold zfg
  by_cases hj : j = n
  · subst hj
    rw [if_neg (fun q => h q.2), if_neg (fun q => h q.2)]
  · have : (j < n + 1) = (j < n) := propext ⟨fun q => by omega, fun q => by omega⟩
    simp only [this]
theorem zfg_0 {iT rD : zI} {de today : Int32} : iT = zfg iT rD de today 0 := by
  funext j
  unfold zfg
  rw [if_neg (fun q => Nat.not_lt_zero _ q.1)]
def zls (fT fS iT tS : zI) (r : Nat) : Int32 := if fT r = 0 then (if iT r = 0 then -1 else tS r) else fS r
/-- the next one of a list: (number, stamp) -/
def znx (f : zI) (first ps pr : Int32) : Nat → Int32 × Int32
  | 0 => (-1, -1)
  | n + 1 => if f n ≠ -1 ∧ ¬ f n < first ∧ (ps < f n ∨ (f n = ps ∧ ¬ nI n ≤ pr)) ∧ ((znx f first ps pr n).1 = -1 ∨ ¬ (znx f first ps pr n).2 ≤ f n) then (nI n, f n) else znx f first ps pr n
theorem znx_in (f : zI) (first ps pr : Int32) : ∀ n, (znx f first ps pr n).1 = -1 ∨ ∃ r, r < n ∧ (znx f first ps pr n).1 = nI r
  | 0 => Or.inl rfl
  | n + 1 => by
    rcases znx_in f first ps pr n with h | ⟨r, h1, h2⟩
    · unfold znx
      split
      · exact Or.inr ⟨n, Nat.lt_succ_self n, rfl⟩
      · exact Or.inl h
    · unfold znx
      split
      · exact Or.inr ⟨n, Nat.lt_succ_self n, rfl⟩
      · exact Or.inr ⟨r, Nat.lt_succ_of_lt h1, h2⟩
theorem znx_ne {f : zI} {first ps pr : Int32} {n : Nat} (h : ¬ (znx f first ps pr n).1 = -1) : ∃ r, r < n ∧ (znx f first ps pr n).1 = nI r := (znx_in f first ps pr n).resolve_left h
def zclr (t : zI) (n : Nat) : zI := fun j => if j < n then 0 else t j
theorem zclr_0 {t : zI} : t = zclr t 0 := rfl
theorem zclr_s {t : zI} {n : Nat} : upd (zclr t n) n 0 = zclr t (n + 1) := by
  funext j
  unfold upd zclr
  by_cases hj : j = n
  · subst hj
    rw [if_pos rfl, if_pos (Nat.lt_succ_self _)]
  · rw [if_neg hj]
    have : (j < n + 1) = (j < n) := propext ⟨fun q => by omega, fun q => by omega⟩
    simp only [this]
def zdrp (sT tk : zI) (n : Nat) : zI := fun j => if j < n ∧ tk j = 0 then 0 else sT j
theorem zdrp_0 {sT tk : zI} : sT = zdrp sT tk 0 := by
  funext j
  unfold zdrp
  rw [if_neg (fun q => Nat.not_lt_zero _ q.1)]
theorem zdrp_y {sT tk : zI} {n : Nat} (h : tk n = 0) : upd (zdrp sT tk n) n 0 = zdrp sT tk (n + 1) := by
  funext j
  unfold upd zdrp
  by_cases hj : j = n
  · subst hj
    rw [if_pos rfl, if_pos ⟨Nat.lt_succ_self _, h⟩]
  · rw [if_neg hj]
    have : (j < n + 1) = (j < n) := propext ⟨fun q => by omega, fun q => by omega⟩
    simp only [this]
theorem zdrp_n {sT tk : zI} {n : Nat} (h : ¬ tk n = 0) : zdrp sT tk n = zdrp sT tk (n + 1) := by
  funext j
  unfold zdrp
  by_cases hj : j = n
  · subst hj
    rw [if_neg (fun q => h q.2), if_neg (fun q => h q.2)]
  · have : (j < n + 1) = (j < n) := propext ⟨fun q => by omega, fun q => by omega⟩
    simp only [this]
theorem z_nf {v : Int32} (h : v = 0 ∨ v = 1) : narrow .boolean (.int v) = .int v := by rcases h with rfl | rfl <;> rfl
theorem z_vf {v : Int32} (h : v = 0 ∨ v = 1) : vp_nar .boolean v = v := by rcases h with rfl | rfl <;> rfl
theorem z_un {un : Int32} (h : ¬ un ≤ 1) : ¬ un = 0 := fun q => h (by rw [q]; decide)
/-! a page: (placeStamp, placeRecord, store's four, taken over) -/
abbrev zPg : Type := Int32 × Int32 × zI × zI × zI × zI × zI
def ztk (fT fW fV fS z : zI) (x : zPg) (r : Nat) : zPg :=
  (z r, nI r, upd x.2.2.1 r (if fT r = 0 then 0 else 1), (if fT r = 0 then x.2.2.2.1 else upd x.2.2.2.1 r (fW r)), (if fT r = 0 then x.2.2.2.2.1 else upd x.2.2.2.2.1 r (fV r)), (if fT r = 0 then x.2.2.2.2.2.1 else upd x.2.2.2.2.2.1 r (fS r)), (if fT r = 0 then x.2.2.2.2.2.2 else upd x.2.2.2.2.2.2 r 1))
def zpg (fT fW fV fS z : zI) (first : Int32) : Nat → zPg → Int32 → zPg × Int32
  | 0, x, c => (x, c)
  | k + 1, x, c => if (znx z first x.1 x.2.1 20).1 = -1 then (x, c) else zpg fT fW fV fS z first k (ztk fT fW fV fS z x (znx z first x.1 x.2.1 20).1.toNatClampNeg) (c + 1)
/-- a page's end -/
def zte (z : zI) (first un mk ho fl od : Int32) (y : zPg × Int32) : Int32 × Int32 × Int32 × Int32 × zPg :=
  if (znx z first y.1.1 y.1.2.1 20).1 = -1 then (y.2, zst un od, 0, od, y.1.1, y.1.2.1, (if fl = 0 then y.1.2.2.1 else zdrp y.1.2.2.1 y.1.2.2.2.2.2.2 20), y.1.2.2.2)
  else (y.2, mk, ho, od, y.1)
/-- a whole page: (count, mark, hasOpenList, openingDay, the rest) out of mark, isFullList, openingDay, tokenDay -/
def ztp (fT fW fV fS z : zI) (un today mk ho fl od td : Int32) (x : zPg) : Int32 × Int32 × Int32 × Int32 × zPg :=
  if today - td ≤ 5 then zte z (if fl = 0 then mk else 0) un mk ho fl od (zpg fT fW fV fS z (if fl = 0 then mk else 0) 3 x 0)
  else zte z (if fl = 0 then mk else 0) un mk 1 fl today (zpg fT fW fV fS z (if fl = 0 then mk else 0) 3 (-1, -1, x.2.2.1, x.2.2.2.1, x.2.2.2.2.1, x.2.2.2.2.2.1, zclr x.2.2.2.2.2.2 20) 0)
theorem zpg_e {fT fW fV fS z : zI} {first : Int32} {n : Nat} {x : zPg} {c : Int32} (h : (znx z first x.1 x.2.1 20).1 = -1) : zpg fT fW fV fS z first n x c = (x, c) := by
  cases n with
  | zero => rfl
  | succ n => rw [zpg, if_pos h]
theorem zpg_s {fT fW fV fS z : zI} {first : Int32} {k r : Nat} {x : zPg} (h : ¬ (znx z first x.1 x.2.1 20).1 = -1) (hr : (znx z first x.1 x.2.1 20).1 = nI r) (h20 : r < 20) (hk : k < 3) : zpg fT fW fV fS z first (3 - k) x (nI k) = zpg fT fW fV fS z first (3 - (k + 1)) (ztk fT fW fV fS z x r) (nI (k + 1)) := by
  have h3 : 3 - k = (3 - (k + 1)) + 1 := by omega
  rw [h3, zpg, if_neg h, hr, nI_clamp (by omega), nI_1]
theorem z_ff {v : Int32} (h : v = 0 ∨ v = 1) : fits .boolean (.int v) = true := by rcases h with rfl | rfl <;> rfl
