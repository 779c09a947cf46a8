/-! ===== what the methods of the class compute, over numbers and functions ===== -/
/-- how many places below n hold something -/
def zcnt (T : zI) : Nat → Int32
  | 0 => 0
  | n + 1 => if T n = 0 then zcnt T n else zcnt T n + 1
def zcow (T W : zI) (w : Int32) : Nat → Int32
  | 0 => 0
  | n + 1 => if T n = 0 then zcow T W w n else if W n = w then zcow T W w n + 1 else zcow T W w n
def zlike (T W V S T' W' V' S' : zI) (r : Nat) : Int32 :=
  if T r = 0 ∨ T' r = 0 then (if T r = T' r then 1 else 0) else if W r = W' r ∧ V r = V' r ∧ S r = S' r then 1 else 0
def zcu (T W V S T' W' V' S' : zI) : Nat → Int32
  | 0 => 0
  | n + 1 => if zlike T W V S T' W' V' S' n = 0 then zcu T W V S T' W' V' S' n + 1 else zcu T W V S T' W' V' S' n
def zlat (T W S : zI) (w : Int32) : Nat → Int32 × Int32
  | 0 => (-1, -1)
  | n + 1 => if T n = 0 then zlat T W S w n else if W n = w then (if S n ≤ (zlat T W S w n).2 then zlat T W S w n else (nI n, S n)) else zlat T W S w n
/-- a stamp by a clock -/
def zst (un day : Int32) : Int32 := if 1 < un then day - (day - day / un * un) else day
/-- told deletes that go -/
def zfg (iT rD : zI) (de today : Int32) (n : Nat) : zI := fun j => if j < n ∧ (de = 2 ∨ (de = 1 ∧ 10 ≤ today - rD j)) then 0 else iT j
def zls (T S iT tS : zI) (r : Nat) : Int32 := if T r = 0 then (if iT r = 0 then -1 else tS r) else S r
/-- the next one of a list: (number, stamp) -/
def znx (f : zI) (first ps pr : Int32) : Nat → Int32 × Int32
  | 0 => (-1, -1)
  | n + 1 => if f n ≠ -1 ∧ first ≤ f n ∧ (ps < f n ∨ (f n = ps ∧ pr < nI n)) ∧ ((znx f first ps pr n).1 = -1 ∨ f n < (znx f first ps pr n).2) then (nI n, f n) else znx f first ps pr n
def zclr (t : zI) (n : Nat) : zI := fun j => if j < n then 0 else t j
def zdrp (sT tk : zI) (n : Nat) : zI := fun j => if j < n ∧ tk j = 0 then 0 else sT j
