/-! THE CLAIM OUT OF ONE WALK OF THE LAW'S BODY. Your part is whole_start (and what it stands on); all else here is the same for every law, but numbers. -/
def R_law : String := "CatalogueHarvesterLaw"
def lw_P (b : Addr) (xs : List Int32) (args : Array Value) (s : State) : Prop := args = #[.ref b] ∧ s.IntsAt b xs ∧ xs.length ≤ 260 ∧ (Jvm.Cond.and given_1 narrow_1).before args s = true
def lw_Q (_ : Array Value) (s : State) (o : Outcome) (t : State) : Prop := o = .returned (some (.int 1)) ∧ Framed s o t [] 600104 7301314
def lw_Z (below : List Frame) (a : Array Value) (s : State) : State → Prop := fun t => ∃ o, t.status = .running ∧ Ended t below o ∧ lw_Q a s o t
/-- the law's own end, with 1 on the stack, nothing written that was there before, its room as the claim has it -/
theorem lw_ret {p : Program} {l : Launch} {e : Env} {s : State} {m : MethodId} {below : List Frame} {meth : Method} {c : Code} {b : Nat} (hx : p.tables.exec = Jvm.exec) (hb : c.code = code) (hr : meth.sig.returnType = ret) (hlocks : meth.locks = false) {pc : Nat} {H : Heap} {ls : Array Slot} (hdg : decode code pc = .ok (.ireturn, 1)) : W p l e room_1 s m #[Value.ref b] below meth c H [] 600104 7301314 (lw_Z below #[Value.ref b] s) (F0 m pc ls [.int 1]) := by
  intro T hT X
  obtain ⟨fs, hret, hrun, hended, hW, hframe⟩ := X.leave (v := some (.int 1)) (hlocks := hlocks) (fun h => by rw [hr] at h; cases h)
  have hmeth' : T.vm.method? m = some meth := X.method'
  refine ⟨T.setFrames fs, ?_, .returned (some (.int 1)), hrun, hended, rfl, ⟨_, rfl⟩, hW, hframe⟩
  jvm_step X.here [X.here.top, hx, hb, hdg, hmeth', hr, ret, narrow_b1]
  (try refine ⟨rfl, ?_⟩); (try refine ⟨rfl, ?_⟩)
  first | (intro acts; rw [hret _ acts rfl rfl rfl]) | rw [hret _ _ rfl rfl rfl]
  exact Steps.refl _
/-- what holds at the law's entry: the machine, the code, the tables' words (any of lw_tbl by 'hts w (by decide +kernel)'), the script of L ints xs at the cell b, what the Statement gives of the start (any of its parts by flat_of_before) -/
def lw_At (p : Program) (s : State) (m : MethodId) (meth : Method) (c : Code) (b L : Nat) (xs : Nat → Int32) : Prop :=
  p.tables.exec = Jvm.exec ∧ c.code = code ∧ meth.sig.returnType = ret ∧ c.maxLocals = 17 ∧ s.vm.findClass R_law = some m.cls ∧ (∀ w ∈ lw_tbl, w.before #[Value.ref b] s = true) ∧ va_X b L xs s s.heap ∧ b < s.heap.size ∧ meth.locks = false ∧ (Jvm.Cond.and given_1 narrow_1).before #[Value.ref b] s = true
/-! ===== the law's own state ===== -/
def LInv (dC : Nat → ClassId) (dI : Nat → Nat → Nat) (cI cZ cH cJ : ClassId) (A : Nat → Prop) (s : State) (x0 xq : Nat) (xg : Nat → Option Nat) (had : Nat → Nat → Nat) (ay az ad ag : Nat) (H : Heap) (locs : List Loc) : Prop :=
  ∃ (N : Nat) (σ : Nat → zHS) (fy fz fd fg : zI), zInv N σ fy fz fd fg ∧ va_P (dC, dI) vwCl ([(ay, .inl (cI, 60, .inl fy)), (az, .inl (cI, 60, .inl fz)), (ad, .inl (cI, 60, .inl fd)), (ag, .inl (cI, 12, .inl fg))] ++ zOb cI cZ cH x0 xq xg had (nI N) σ) H ∧ va_D A ([(ay, .inl (cI, 60, .inl fy)), (az, .inl (cI, 60, .inl fz)), (ad, .inl (cI, 60, .inl fd)), (ag, .inl (cI, 12, .inl fg))] ++ zOb cI cZ cH x0 xq xg had (nI N) σ) ∧ va_S A s.heap H locs
def LFix (p : Program) (l : Launch) (s : State) (m : MethodId) (meth : Method) (c : Code) (b L : Nat) (xs : Nat → Int32) (dC : Nat → ClassId) (dI : Nat → Nat → Nat) (cI cZ cH cJ : ClassId) (A : Nat → Prop) (xg : Nat → Option Nat) (had : Nat → Nat → Nat) : Prop :=
  lw_At p s m meth c b L xs ∧ l.stackTraces = false ∧ (∀ q : Nat, s.heap.size ≤ q → A q) ∧ ¬ A b ∧ va_K (dC, dI) vwCl (zTy cI cZ cH cJ) s ∧ vx_Zq Bundle.tN "UNASSIGNED_STACK" Bundle.steD A s s.heap ∧ vx_Zq Bundle.tN "SUPPRESSED_SENTINEL" Bundle.listD A s s.heap ∧ (∀ w ∈ zBad, va_Nw w s) ∧ zStrs s ∧ zN s ∧ (∀ i, i < 4 → xg i = some (had i 0)) ∧ L ≤ 260
theorem zin_u {k : Nat} (h1 : 1 ≤ k) (h2 : k ≤ 30) : zin (nI k) 1 30 = 1 := by
  unfold zin
  rw [if_neg]
  rintro (q | q)
  · exact nI_nlt (a := k) (b := 1) h1 (by omega) q
  · exact nI_nlt (a := 30) (b := k) h2 (by decide) q
theorem zin_w {k : Nat} (h2 : k ≤ 2) : zin (nI k) 0 2 = 1 := by
  unfold zin
  rw [if_neg]
  rintro (q | q)
  · exact nI_pos (by omega) q
  · exact nI_nlt (a := 2) (b := k) h2 (by decide) q
theorem zin_d {k : Nat} (h1 : 1 ≤ k) (h2 : k ≤ 100) : zin (nI k) 1 100 = 1 := by
  unfold zin
  rw [if_neg]
  rintro (q | q)
  · exact nI_nlt (a := k) (b := 1) h1 (by omega) q
  · exact nI_nlt (a := 100) (b := k) h2 (by decide) q
theorem zpass {k : Nat} (h : ¬ 5000 < nI k) (hk : k ≤ 6000 := by omega) : k ≤ 5000 := by
  rcases Nat.lt_or_ge 5000 k with g | g
  · exact absurd (nI_lt (a := 5000) g (by omega)) h
  · exact g
theorem r_putZ {c N r0 : Nat} {x : zHS} {z : zI} {w v now : Int32} (h : zCZ c N x z) : zCZ c N (hPut x r0 w v now) z := fun r hr => by
  rw [hPut_sT, hPut_sV, hPut_sW, hPut_sS]
  exact h r hr
theorem r_putH (x : zHS) (r0 : Nat) (w v now : Int32) : hHo (hPut x r0 w v now) = hHo x := hPut_ho x r0 w v now
