/-! THE CLAIM OUT OF ONE WALK OF THE LAW'S BODY. Your part is whole_start (and what it stands on); all else here is the same for every law, but numbers. -/
def R_law : String := "CatalogueHarvesterLaw"
def lw_P (b : Addr) (xs : List Int32) (args : Array Value) (s : State) : Prop := args = #[.ref b] ∧ s.IntsAt b xs ∧ xs.length ≤ 2560 ∧ (Jvm.Cond.and given_1 narrow_1).before args s = true
def lw_Q (_ : Array Value) (s : State) (o : Outcome) (t : State) : Prop := o = .returned (some (.int 1)) ∧ Framed s o t [] 601024 7293034
def lw_Z (below : List Frame) (a : Array Value) (s : State) : State → Prop := fun t => ∃ o, t.status = .running ∧ Ended t below o ∧ lw_Q a s o t
/-- the law's own end, with 1 on the stack, nothing written that was there before, its room as the claim has it -/
theorem lw_ret {p : Program} {l : Launch} {e : Env} {s : State} {m : MethodId} {below : List Frame} {meth : Method} {c : Code} {b : Nat} (hx : p.tables.exec = Jvm.exec) (hb : c.code = code) (hr : meth.sig.returnType = ret) (hlocks : meth.locks = false) {pc : Nat} {H : Heap} {ls : Array Slot} (hdg : decode code pc = .ok (.ireturn, 1)) : W p l e room_1 s m #[Value.ref b] below meth c H [] 601024 7293034 (lw_Z below #[Value.ref b] s) (F0 m pc ls [.int 1]) := by
  intro T hT X
  obtain ⟨fs, hret, hrun, hended, hW, hframe⟩ := X.leave (v := some (.int 1)) (hlocks := hlocks) (fun h => by rw [hr] at h; cases h)
  have hmeth' : T.vm.method? m = some meth := X.method'
  refine ⟨T.setFrames fs, ?_, .returned (some (.int 1)), hrun, hended, rfl, ⟨_, rfl⟩, hW, hframe⟩
  jvm_step X.here [X.here.top, hx, hb, hdg, hmeth', hr, ret, narrow_b1]
  (try refine ⟨rfl, ?_⟩); (try refine ⟨rfl, ?_⟩)
  first | (intro acts; rw [hret _ acts rfl rfl rfl]) | rw [hret _ _ rfl rfl rfl]
  exact Steps.refl _
/-- what holds at the law's entry: the machine, the code, the tables' words (any of lw_tbl by 'hts w (by decide +kernel)'), the script of L ints xs at the cell b, what the Statement gives of the start (any of its parts by flat_of_before) -/
def lw_At (p : Program) (s : State) (m : MethodId) (meth : Method) (c : Code) (b L : Nat) (xs : Nat → Int32) : Prop :=
  p.tables.exec = Jvm.exec ∧ c.code = code ∧ meth.sig.returnType = ret ∧ c.maxLocals = 7 ∧ s.vm.findClass R_law = some m.cls ∧ (∀ w ∈ lw_tbl, w.before #[Value.ref b] s = true) ∧ va_X b L xs s s.heap ∧ b < s.heap.size ∧ meth.locks = false ∧ (Jvm.Cond.and given_1 narrow_1).before #[Value.ref b] s = true
/-! ===== the law's state: the class's cells and the reference's, side by side ===== -/
section LS
abbrev zHS : Type := Int32 × Int32 × Int32 × Int32 × Int32 × Int32 × Int32 × Int32 × Int32 × zI × zI × zI × zI × zI × zI × zI × zI × zI × zI × zI × zI
/-- the sixteen cells of a harvest -/
def hvL (cI cZ : ClassId) (a : Nat → Nat) : zHS → va_W
  | (mk1, ho, fl, od, td, ps, pr, un, de, tk, iT, tS, rD, sT, sW, sV, sS, fT, fW, fV, fS) => [(a 0, .inr (1, [.ref (a 1), .ref (a 2), .int mk1, .int ho, .int fl, .int od, .int td, .int ps, .int pr, .ref (a 3)])), (a 1, .inr (0, [.ref (a 4), .ref (a 5), .ref (a 6), .ref (a 7), .int un, .int de])), (a 2, .inr (2, [.ref (a 8), .ref (a 9), .ref (a 10), .ref (a 11)])), (a 3, .inl (cZ, 20, .inl tk)), (a 4, .inr (2, [.ref (a 12), .ref (a 13), .ref (a 14), .ref (a 15)])), (a 5, .inl (cZ, 20, .inl iT)), (a 6, .inl (cI, 20, .inl tS)), (a 7, .inl (cI, 20, .inl rD)), (a 8, .inl (cZ, 20, .inl sT)), (a 9, .inl (cI, 20, .inl sW)), (a 10, .inl (cI, 20, .inl sV)), (a 11, .inl (cI, 20, .inl sS)), (a 12, .inl (cZ, 20, .inl fT)), (a 13, .inl (cI, 20, .inl fW)), (a 14, .inl (cI, 20, .inl fV)), (a 15, .inl (cI, 20, .inl fS))]
/-- all other cells -/
def zF (cI cZ cH cJ : ClassId) (x0 xq o : Nat) (xg : Nat → Option Nat) (ma : Nat → Nat) (now th : Int32) (fo : Nat → Int64) (uU uY uK uW uV uS uR uM uO uF uG uE uD uP uQ uH xW xV xS uN : zI) : va_W := [(x0, .inr (3, [.ref xq, .int now])), (xq, .inl (cH, 4, .inr (.inr (.inr (.inr xg))))), (o, .inl (cJ, 1, .inr (.inl fo))), (ma 0, .inr (4, [.int now, .ref (ma 1), .ref (ma 2), .ref (ma 3), .ref (ma 4), .ref (ma 5), .ref (ma 6), .ref (ma 7), .ref (ma 8), .ref (ma 9), .ref (ma 10), .ref (ma 11), .ref (ma 12), .ref (ma 13), .ref (ma 14), .ref (ma 15), .ref (ma 16), .ref (ma 17), .ref (ma 18), .ref (ma 19), .ref (ma 20), .int th])), (ma 1, .inl (cI, 4, .inl uU)), (ma 2, .inl (cI, 4, .inl uY)), (ma 3, .inl (cI, 80, .inl uK)), (ma 4, .inl (cI, 80, .inl uW)), (ma 5, .inl (cI, 80, .inl uV)), (ma 6, .inl (cI, 80, .inl uS)), (ma 7, .inl (cI, 80, .inl uR)), (ma 8, .inl (cI, 4, .inl uM)), (ma 9, .inl (cZ, 4, .inl uO)), (ma 10, .inl (cZ, 4, .inl uF)), (ma 11, .inl (cI, 4, .inl uG)), (ma 12, .inl (cI, 4, .inl uE)), (ma 13, .inl (cI, 4, .inl uD)), (ma 14, .inl (cI, 4, .inl uP)), (ma 15, .inl (cI, 4, .inl uQ)), (ma 16, .inl (cZ, 80, .inl uH)), (ma 17, .inl (cI, 80, .inl xW)), (ma 18, .inl (cI, 80, .inl xV)), (ma 19, .inl (cI, 80, .inl xS)), (ma 20, .inl (cZ, 80, .inl uN))]
def zT4 (cI cZ : ClassId) (had : Nat → Nat → Nat) (σ : Nat → zHS) : va_W := hvL cI cZ (had 0) (σ 0) ++ (hvL cI cZ (had 1) (σ 1) ++ (hvL cI cZ (had 2) (σ 2) ++ hvL cI cZ (had 3) (σ 3)))
def zRelT (ca : Nat) : zHS → zI → zI → zI → zI → zI → zI → zI → zI → zI → zI → zI → zI → zI → zI → zI → zI → zI → zI → zI → zI → Prop
  | (mk1, ho, fl, od, td, ps, pr, un, de, tk, iT, tS, rD, sT, sW, sV, sS, fT, fW, fV, fS), uU, uY, uK, uW, uV, uS, uR, uM, uO, uF, uG, uE, uD, uP, uQ, uH, xW, xV, xS, uN => zRel ca mk1 ho fl od td ps pr un de tk iT tS rD sT sW sV sS fT fW fV fS uU uY uK uW uV uS uR uM uO uF uG uE uD uP uQ uH xW xV xS uN
def zup (σ : Nat → zHS) (ca : Nat) (x : zHS) : Nat → zHS := fun j => if j = ca then x else σ j
theorem zup_s {σ : Nat → zHS} {ca : Nat} {x : zHS} : zup σ ca x ca = x := if_pos rfl
theorem zup_n {σ : Nat → zHS} {ca j : Nat} {x : zHS} (h : ¬ j = ca) : zup σ ca x j = σ j := if_neg h
def zs4 (t0 t1 t2 t3 : zHS) : Nat → zHS
  | 0 => t0
  | 1 => t1
  | 2 => t2
  | _ => t3
/-- worlds of the same cells -/
def zND : va_W → Prop
  | [] => True
  | q :: t => (∀ r ∈ t, ¬ r.1 = q.1) ∧ zND t
theorem zND_app : ∀ (a b : va_W), zND (a ++ b) ↔ zND a ∧ zND b ∧ ∀ q ∈ a, ∀ r ∈ b, ¬ r.1 = q.1
  | [], b => by simp [zND]
  | q :: t, b => by
    rw [List.cons_append, zND, zND, zND_app t b]
    simp only [List.mem_append, List.mem_cons]
    grind
theorem zD_nd {A : Nat → Prop} : ∀ (ws : va_W), va_D A ws → zND ws
  | [], _ => trivial
  | q :: t, h => by
    refine ⟨fun r hr e => ?_, zD_nd t ⟨fun i j p r hi hj hpr => ?_, fun k r hk => h.2 (k + 1) r hk⟩⟩
    · obtain ⟨i, hi⟩ := List.getElem?_of_mem hr
      have h1 := h.1 (i + 1) 0 r q hi rfl e
      omega
    · have h1 := h.1 (i + 1) (j + 1) p r hi hj hpr
      omega
theorem zD_of {A : Nat → Prop} : ∀ (ws : va_W), zND ws → (∀ q ∈ ws, A q.1) → va_D A ws
  | [], _, _ => ⟨fun i j p q hi => by simp at hi, fun k q hk => by simp at hk⟩
  | c :: t, h, hA => by
    have ih := zD_of t h.2 (fun q hq => hA q (List.mem_cons_of_mem _ hq))
    refine ⟨fun i j p r hi hj hpr => ?_, fun k q hk => hA q (List.mem_of_getElem? hk)⟩
    match i, j, hi, hj with
    | 0, 0, _, _ => rfl
    | 0, j + 1, hi, hj =>
      cases hi
      exact absurd hpr.symm (h.1 r (List.mem_of_getElem? hj))
    | i + 1, 0, hi, hj =>
      cases hj
      exact absurd hpr (h.1 p (List.mem_of_getElem? hi))
    | i + 1, j + 1, hi, hj => exact congrArg (· + 1) (ih.1 i j p r hi hj hpr)
def zeq (v w : va_W) : Prop := (∀ q, q ∈ v ↔ q ∈ w) ∧ (zND v ↔ zND w)
theorem zeq.P {D : va_G} {cl : List vw_C} {v w : va_W} {H : Heap} (h : zeq v w) (hP : va_P D cl v H) : va_P D cl w H := fun k q hk => by
  obtain ⟨i, hi⟩ := List.getElem?_of_mem ((h.1 q).mpr (List.mem_of_getElem? hk))
  exact hP i q hi
theorem zeq.D {A : Nat → Prop} {v w : va_W} (h : zeq v w) (hD : va_D A v) : va_D A w := zD_of w (h.2.mp (zD_nd v hD)) (fun q hq => by
  obtain ⟨i, hi⟩ := List.getElem?_of_mem ((h.1 q).mpr hq)
  exact hD.2 i q hi)
theorem zeq1 (F a b c d : va_W) : zeq (F ++ (a ++ (b ++ (c ++ d)))) (F ++ (b ++ (a ++ (c ++ d)))) := by
  constructor
  · intro q
    simp only [List.mem_append]
    grind
  · simp only [zND_app, List.mem_append]
    grind
theorem zeq2 (F a b c d : va_W) : zeq (F ++ (a ++ (b ++ (c ++ d)))) (F ++ (c ++ (a ++ (b ++ d)))) := by
  constructor
  · intro q
    simp only [List.mem_append]
    grind
  · simp only [zND_app, List.mem_append]
    grind
theorem zeq3 (F a b c d : va_W) : zeq (F ++ (a ++ (b ++ (c ++ d)))) (F ++ (d ++ (a ++ (b ++ c)))) := by
  constructor
  · intro q
    simp only [List.mem_append]
    grind
  · simp only [zND_app, List.mem_append]
    grind
theorem zeq.sy {v w : va_W} (h : zeq v w) : zeq w v := ⟨fun q => (h.1 q).symm, h.2.symm⟩
/-- one harvest's cells brought to the front, and back -/
theorem zopen (cI cZ : ClassId) (had : Nat → Nat → Nat) (σ : Nat → zHS) {ca : Nat} (h : ca < 4) : ∃ wr : va_W, (∀ F : va_W, zeq (F ++ zT4 cI cZ had σ) (F ++ (hvL cI cZ (had ca) (σ ca) ++ wr))) ∧ ∀ (F : va_W) (x : zHS), zeq (F ++ (hvL cI cZ (had ca) x ++ wr)) (F ++ zT4 cI cZ had (zup σ ca x)) := by
  match ca, h with
  | 0, _ => exact ⟨hvL cI cZ (had 1) (σ 1) ++ (hvL cI cZ (had 2) (σ 2) ++ hvL cI cZ (had 3) (σ 3)), fun F => ⟨fun _ => Iff.rfl, Iff.rfl⟩, fun F x => ⟨fun _ => Iff.rfl, Iff.rfl⟩⟩
  | 1, _ => exact ⟨hvL cI cZ (had 0) (σ 0) ++ (hvL cI cZ (had 2) (σ 2) ++ hvL cI cZ (had 3) (σ 3)), fun F => zeq1 F _ _ _ _, fun F x => (zeq1 F (hvL cI cZ (had 0) (σ 0)) (hvL cI cZ (had 1) x) (hvL cI cZ (had 2) (σ 2)) (hvL cI cZ (had 3) (σ 3))).sy⟩
  | 2, _ => exact ⟨hvL cI cZ (had 0) (σ 0) ++ (hvL cI cZ (had 1) (σ 1) ++ hvL cI cZ (had 3) (σ 3)), fun F => zeq2 F _ _ _ _, fun F x => (zeq2 F (hvL cI cZ (had 0) (σ 0)) (hvL cI cZ (had 1) (σ 1)) (hvL cI cZ (had 2) x) (hvL cI cZ (had 3) (σ 3))).sy⟩
  | 3, _ => exact ⟨hvL cI cZ (had 0) (σ 0) ++ (hvL cI cZ (had 1) (σ 1) ++ hvL cI cZ (had 2) (σ 2)), fun F => zeq3 F _ _ _ _, fun F x => (zeq3 F (hvL cI cZ (had 0) (σ 0)) (hvL cI cZ (had 1) (σ 1)) (hvL cI cZ (had 2) (σ 2)) (hvL cI cZ (had 3) x)).sy⟩
theorem r_all {ca : Nat} {σ : Nat → zHS} {x : zHS} {uU uY uK uW uV uS uR uM uO uF uG uE uD uP uQ uH xW xV xS uN uU' uY' uK' uW' uV' uS' uR' uM' uO' uF' uG' uE' uD' uP' uQ' uH' xW' xV' xS' uN' : zI} (hR : ∀ j, j < 4 → zRelT j (σ j) uU uY uK uW uV uS uR uM uO uF uG uE uD uP uQ uH xW xV xS uN) (ho : zRelT ca x uU' uY' uK' uW' uV' uS' uR' uM' uO' uF' uG' uE' uD' uP' uQ' uH' xW' xV' xS' uN') (h4 : ∀ j, ¬ j = ca → uU' j = uU j ∧ uY' j = uY j ∧ uM' j = uM j ∧ uO' j = uO j ∧ uF' j = uF j ∧ uG' j = uG j ∧ uE' j = uE j ∧ uD' j = uD j ∧ uP' j = uP j ∧ uQ' j = uQ j) (h80 : ∀ j r, ¬ j = ca → r < 20 → uK' (20 * j + r) = uK (20 * j + r) ∧ uW' (20 * j + r) = uW (20 * j + r) ∧ uV' (20 * j + r) = uV (20 * j + r) ∧ uS' (20 * j + r) = uS (20 * j + r) ∧ uR' (20 * j + r) = uR (20 * j + r) ∧ uH' (20 * j + r) = uH (20 * j + r) ∧ xW' (20 * j + r) = xW (20 * j + r) ∧ xV' (20 * j + r) = xV (20 * j + r) ∧ xS' (20 * j + r) = xS (20 * j + r) ∧ uN' (20 * j + r) = uN (20 * j + r)) : ∀ j, j < 4 → zRelT j (zup σ ca x j) uU' uY' uK' uW' uV' uS' uR' uM' uO' uF' uG' uE' uD' uP' uQ' uH' xW' xV' xS' uN' := fun j hj => by
  by_cases q : j = ca
  · subst q
    rw [zup_s]
    exact ho
  · rw [zup_n q]
    have h := hR j hj
    revert h
    generalize σ j = y
    obtain ⟨mk, ho, fl, od, td, ps, pr, un, de, tk, iT, tS, rD, sT, sW, sV, sS, fT, fW, fV, fS⟩ := y
    intro h
    have g4 := h4 j q
    exact zRel_fr h g4.1 g4.2.1 g4.2.2.1 g4.2.2.2.1 g4.2.2.2.2.1 g4.2.2.2.2.2.1 g4.2.2.2.2.2.2.1 g4.2.2.2.2.2.2.2.1 g4.2.2.2.2.2.2.2.2.1 g4.2.2.2.2.2.2.2.2.2 (fun r hr => (h80 j r q hr).1) (fun r hr => (h80 j r q hr).2.1) (fun r hr => (h80 j r q hr).2.2.1) (fun r hr => (h80 j r q hr).2.2.2.1) (fun r hr => (h80 j r q hr).2.2.2.2.1) (fun r hr => (h80 j r q hr).2.2.2.2.2.1) (fun r hr => (h80 j r q hr).2.2.2.2.2.2.1) (fun r hr => (h80 j r q hr).2.2.2.2.2.2.2.1) (fun r hr => (h80 j r q hr).2.2.2.2.2.2.2.2.1) (fun r hr => (h80 j r q hr).2.2.2.2.2.2.2.2.2)
theorem zs4_all {t0 t1 t2 t3 : zHS} {uU uY uK uW uV uS uR uM uO uF uG uE uD uP uQ uH xW xV xS uN : zI} (h0 : zRelT 0 t0 uU uY uK uW uV uS uR uM uO uF uG uE uD uP uQ uH xW xV xS uN) (h1 : zRelT 1 t1 uU uY uK uW uV uS uR uM uO uF uG uE uD uP uQ uH xW xV xS uN) (h2 : zRelT 2 t2 uU uY uK uW uV uS uR uM uO uF uG uE uD uP uQ uH xW xV xS uN) (h3 : zRelT 3 t3 uU uY uK uW uV uS uR uM uO uF uG uE uD uP uQ uH xW xV xS uN) : ∀ j, j < 4 → zRelT j (zs4 t0 t1 t2 t3 j) uU uY uK uW uV uS uR uM uO uF uG uE uD uP uQ uH xW xV xS uN := fun j hj => by
  match j, hj with
  | 0, _ => exact h0
  | 1, _ => exact h1
  | 2, _ => exact h2
  | 3, _ => exact h3
theorem r_cop4 {w : Int32} {mk0 ho0 fl0 od0 td0 ps0 pr0 un0 de0 mk1 ho1 fl1 od1 td1 ps1 pr1 un1 de1 mk2 ho2 fl2 od2 td2 ps2 pr2 un2 de2 mk3 ho3 fl3 od3 td3 ps3 pr3 un3 de3 : Int32} {tk0 iT0 tS0 rD0 sT0 sW0 sV0 sS0 fT0 fW0 fV0 fS0 tk1 iT1 tS1 rD1 sT1 sW1 sV1 sS1 fT1 fW1 fV1 fS1 tk2 iT2 tS2 rD2 sT2 sW2 sV2 sS2 fT2 fW2 fV2 fS2 tk3 iT3 tS3 rD3 sT3 sW3 sV3 sS3 fT3 fW3 fV3 fS3 uU uY uK uW uV uS uR uM uO uF uG uE uD uP uQ uH xW xV xS uN : zI} (h0 : zRel 0 mk0 ho0 fl0 od0 td0 ps0 pr0 un0 de0 tk0 iT0 tS0 rD0 sT0 sW0 sV0 sS0 fT0 fW0 fV0 fS0 uU uY uK uW uV uS uR uM uO uF uG uE uD uP uQ uH xW xV xS uN) (h1 : zRel 1 mk1 ho1 fl1 od1 td1 ps1 pr1 un1 de1 tk1 iT1 tS1 rD1 sT1 sW1 sV1 sS1 fT1 fW1 fV1 fS1 uU uY uK uW uV uS uR uM uO uF uG uE uD uP uQ uH xW xV xS uN) (h2 : zRel 2 mk2 ho2 fl2 od2 td2 ps2 pr2 un2 de2 tk2 iT2 tS2 rD2 sT2 sW2 sV2 sS2 fT2 fW2 fV2 fS2 uU uY uK uW uV uS uR uM uO uF uG uE uD uP uQ uH xW xV xS uN) (h3 : zRel 3 mk3 ho3 fl3 od3 td3 ps3 pr3 un3 de3 tk3 iT3 tS3 rD3 sT3 sW3 sV3 sS3 fT3 fW3 fV3 fS3 uU uY uK uW uV uS uR uM uO uF uG uE uD uP uQ uH xW xV xS uN) : 0 + zcow sT0 sW0 w 20 + zcow sT1 sW1 w 20 + zcow sT2 sW2 w 20 + zcow sT3 sW3 w 20 = ycop uH xW w 80 := by
  have k0 : ycop uH xW w 20 = ycop uH xW w 0 + zcow sT0 sW0 w 20 := r_cop h0 20 (Nat.le_refl _)
  have k1 : ycop uH xW w 40 = ycop uH xW w 20 + zcow sT1 sW1 w 20 := r_cop h1 20 (Nat.le_refl _)
  have k2 : ycop uH xW w 60 = ycop uH xW w 40 + zcow sT2 sW2 w 20 := r_cop h2 20 (Nat.le_refl _)
  have k3 : ycop uH xW w 80 = ycop uH xW w 60 + zcow sT3 sW3 w 20 := r_cop h3 20 (Nat.le_refl _)
  rw [k3, k2, k1, k0]
  rfl
theorem r_best4 {w : Int32} {mk0 ho0 fl0 od0 td0 ps0 pr0 un0 de0 mk1 ho1 fl1 od1 td1 ps1 pr1 un1 de1 mk2 ho2 fl2 od2 td2 ps2 pr2 un2 de2 mk3 ho3 fl3 od3 td3 ps3 pr3 un3 de3 : Int32} {tk0 iT0 tS0 rD0 sT0 sW0 sV0 sS0 fT0 fW0 fV0 fS0 tk1 iT1 tS1 rD1 sT1 sW1 sV1 sS1 fT1 fW1 fV1 fS1 tk2 iT2 tS2 rD2 sT2 sW2 sV2 sS2 fT2 fW2 fV2 fS2 tk3 iT3 tS3 rD3 sT3 sW3 sV3 sS3 fT3 fW3 fV3 fS3 uU uY uK uW uV uS uR uM uO uF uG uE uD uP uQ uH xW xV xS uN : zI} (h0 : zRel 0 mk0 ho0 fl0 od0 td0 ps0 pr0 un0 de0 tk0 iT0 tS0 rD0 sT0 sW0 sV0 sS0 fT0 fW0 fV0 fS0 uU uY uK uW uV uS uR uM uO uF uG uE uD uP uQ uH xW xV xS uN) (h1 : zRel 1 mk1 ho1 fl1 od1 td1 ps1 pr1 un1 de1 tk1 iT1 tS1 rD1 sT1 sW1 sV1 sS1 fT1 fW1 fV1 fS1 uU uY uK uW uV uS uR uM uO uF uG uE uD uP uQ uH xW xV xS uN) (h2 : zRel 2 mk2 ho2 fl2 od2 td2 ps2 pr2 un2 de2 tk2 iT2 tS2 rD2 sT2 sW2 sV2 sS2 fT2 fW2 fV2 fS2 uU uY uK uW uV uS uR uM uO uF uG uE uD uP uQ uH xW xV xS uN) (h3 : zRel 3 mk3 ho3 fl3 od3 td3 ps3 pr3 un3 de3 tk3 iT3 tS3 rD3 sT3 sW3 sV3 sS3 fT3 fW3 fV3 fS3 uU uY uK uW uV uS uR uM uO uF uG uE uD uP uQ uH xW xV xS uN) : (zbs (zbs (zbs (zbs (-1, -1) (zlat sT0 sW0 sS0 w 20) sS0 0) (zlat sT1 sW1 sS1 w 20) sS1 1) (zlat sT2 sW2 sS2 w 20) sS2 2) (zlat sT3 sW3 sS3 w 20) sS3 3).1 = ybres (ybst uH xW xS w 80) := by
  have b1 : zBR xS (zbs (-1, -1) (zlat sT0 sW0 sS0 w 20) sS0 0) (ybst uH xW xS w 20) := r_bs h0 (by decide) (Or.inl ⟨rfl, rfl⟩)
  have b2 : zBR xS (zbs (zbs (-1, -1) (zlat sT0 sW0 sS0 w 20) sS0 0) (zlat sT1 sW1 sS1 w 20) sS1 1) (ybst uH xW xS w 40) := r_bs h1 (by decide) b1
  have b3 : zBR xS (zbs (zbs (zbs (-1, -1) (zlat sT0 sW0 sS0 w 20) sS0 0) (zlat sT1 sW1 sS1 w 20) sS1 1) (zlat sT2 sW2 sS2 w 20) sS2 2) (ybst uH xW xS w 60) := r_bs h2 (by decide) b2
  exact r_bres (r_bs h3 (by decide) b3)
theorem zP_l {D : va_G} {cl : List vw_C} {ws tl : va_W} {H : Heap} (hP : va_P D cl (ws ++ tl) H) : va_P D cl ws H := fun k q hk => by
  obtain ⟨i, hi⟩ := List.getElem?_of_mem (List.mem_append_left tl (List.mem_of_getElem? hk))
  exact hP i q hi
theorem zP_r {D : va_G} {cl : List vw_C} {ws tl : va_W} {H : Heap} (hP : va_P D cl (ws ++ tl) H) : va_P D cl tl H := fun k q hk => by
  obtain ⟨i, hi⟩ := List.getElem?_of_mem (List.mem_append_right ws (List.mem_of_getElem? hk))
  exact hP i q hi
theorem zP_a {D : va_G} {cl : List vw_C} {ws tl : va_W} {H : Heap} (h1 : va_P D cl ws H) (h2 : va_P D cl tl H) : va_P D cl (ws ++ tl) H := fun k q hk => by
  rcases List.mem_append.mp (List.mem_of_getElem? hk) with h | h
  · obtain ⟨i, hi⟩ := List.getElem?_of_mem h
    exact h1 i q hi
  · obtain ⟨i, hi⟩ := List.getElem?_of_mem h
    exact h2 i q hi
theorem zD_m {A : Nat → Prop} {ws : va_W} (hD : va_D A ws) : ∀ q ∈ ws, A q.1 := fun q hq => by
  obtain ⟨i, hi⟩ := List.getElem?_of_mem hq
  exact hD.2 i q hi
theorem zD_l {A : Nat → Prop} {ws tl : va_W} (hD : va_D A (ws ++ tl)) : va_D A ws := zD_of ws ((zND_app ws tl).mp (zD_nd _ hD)).1 (fun q hq => zD_m hD q (List.mem_append_left tl hq))
theorem zD_a {A : Nat → Prop} {ws tl : va_W} (h1 : va_D A ws) (h2 : ∀ q ∈ tl, A q.1) (h3 : zND tl) (h4 : ∀ q ∈ ws, ∀ r ∈ tl, ¬ r.1 = q.1) : va_D A (ws ++ tl) := zD_of _ ((zND_app ws tl).mpr ⟨zD_nd ws h1, h3, h4⟩) (fun q hq => (List.mem_append.mp hq).elim (zD_m h1 q) (h2 q))
theorem zsub_m {ws wc : va_W} {is : List Nat} (hC : is.map (fun i => ws[i]?) = wc.map some) : ∀ q ∈ wc, q ∈ ws := fun q hq => by
  obtain ⟨k, hk⟩ := List.getElem?_of_mem hq
  obtain ⟨i, -, h2⟩ := zat2 hC k q hk
  exact List.mem_of_getElem? h2
theorem zP_t {D : va_G} {cl : List vw_C} {ws w1 tl : va_W} {H : Heap} {is : List Nat} (hP : va_P D cl (ws ++ tl) H) (hC : is.map (fun i => ws[i]?) = w1.map some) : va_P D cl (w1 ++ tl) H := zP_a (zP_sub (zP_l hP) hC) (zP_r hP)
theorem zD_t {A : Nat → Prop} {ws w1 tl : va_W} {is : List Nat} (hD : va_D A (ws ++ tl)) (hn : va_nd is = true) (hC : is.map (fun i => ws[i]?) = w1.map some) : va_D A (w1 ++ tl) := by
  obtain ⟨h1, h2, h3⟩ := (zND_app ws tl).mp (zD_nd _ hD)
  exact zD_a ((zD_l hD).sub is hn hC) (fun q hq => zD_m hD q (List.mem_append_right ws hq)) h2 (fun q hq => h3 q (zsub_m hC q hq))
section MJ
variable {p : Program} {l : Launch} {e : Env} {R : Room} {s : State} {m : MethodId} {args : Array Value} {below : List Frame} {meth : Method} {c : Code} {H : Heap} {locs : List Loc} {cells slots : Nat} {Q : State → Prop}
variable {pc : Nat} {ls : Array Slot} {rest st0 : List Value} {A0 : Nat → Prop} {ws wc w1 wr tl : va_W} {H0 : Heap} {a : Array Value} {dC : Nat → ClassId} {dI : Nat → Nat → Nat} {isC isR : List Nat} {mc ms : Nat} {v : Int32}
/-- a call that changes its world; the called method's cells come to the end of those that are told -/
theorem z_cMj (hr : va_Run p l e R s m args below meth c H locs cells slots mc ms (F0 m pc ls st0) rest (zQi dC dI v w1 (va_A wc H.size) a) (va_A wc H.size)) (hP : va_P (dC, dI) vwCl (ws ++ tl) H) (hD : va_D A0 (ws ++ tl)) (hS : va_S A0 H0 H locs) (hA : ∀ q, H0.size ≤ q → A0 q) (hC : isC.map (fun i => ws[i]?) = wc.map some) (hR : isR.map (fun i => ws[i]?) = wr.map some) (hn : va_nd isR = true) (hdis : ∀ i ∈ isR, i ∉ isC)
    (kk : ∀ (H1 : Heap) (locs1 : List Loc), va_P (dC, dI) vwCl ((wr ++ w1) ++ tl) H1 → va_D A0 ((wr ++ w1) ++ tl) → va_S A0 H0 H1 locs1 → W p l e R s m args below meth c H1 locs1 (cells + mc) (slots + ms) Q (F0 m (pc + 3) ls (.int v :: rest))) : W p l e R s m args below meth c H locs cells slots Q (F0 m pc ls st0) := by
  have hFc : ∀ q, va_A wc H.size q → A0 q := va_free (zD_l hD) hS hA isC hC
  obtain ⟨n1, n2, n3⟩ := (zND_app ws tl).mp (zD_nd _ hD)
  refine va_calli (A1 := va_A wc H.size) (post := fun (r : Int32) (_ : Unit) => r = v) (B := fun _ t => va_P (dC, dI) vwCl w1 t.heap ∧ va_D (va_A wc H.size) w1) (a := a) (mc := mc) (ms := ms) (free := va_A wc H.size) (rest := rest) ?_ hS (fun q _ h => hFc q h) hFc (fun r u t H1 locs1 ht hvm hw hB hz1 hk1 hS1 => ?_)
  · intro T hT X
    obtain ⟨vv, st₀, t, T', L, h0, X', hL, e1, e2, ⟨hv, hB, hF⟩, st⟩ := hr T hT X
    exact ⟨vv, st₀, t, T', L, h0, X', hL, e1, e2, ⟨⟨v, (), hv, rfl, hB⟩, hF⟩, st⟩
  · subst hw
    obtain ⟨hP1, hD1⟩ := hB
    rw [ht] at hP1
    obtain ⟨hP2, hD2⟩ := va_join (zP_l hP) (zD_l hD) isC isR hC hR hn hdis hk1 hFc hP1 hD1
    have lt : ∀ r ∈ tl, r.1 < H.size := fun r hr => by
      obtain ⟨i, hi⟩ := List.getElem?_of_mem hr
      exact (zP_r hP i r hi).lt
    have ap : ∀ r ∈ tl, ¬ va_A wc H.size r.1 := fun r hr h => by
      rcases h with ⟨k2, e, h⟩ | h
      · exact n3 (r.1, e) (zsub_m hC _ (List.mem_of_getElem? h)) r hr rfl
      · exact absurd (lt r hr) (Nat.not_lt.mpr h)
    refine kk H1 locs1 (zP_a hP2 (fun k q hk => ?_)) (zD_a hD2 (fun q hq => zD_m hD q (List.mem_append_right ws hq)) n2 (fun q hq r hr e => ?_)) hS1
    · exact (zP_r hP k q hk).kept (hk1 q.1 (lt q (List.mem_of_getElem? hk)) (ap q (List.mem_of_getElem? hk)))
    · rcases List.mem_append.mp hq with h | h
      · exact n3 q (zsub_m hR q h) r hr e
      · exact ap r hr (by rw [e]; exact zD_m hD1 q h)
end MJ
/-- what holds at the loop's head -/
def LInv (dC : Nat → ClassId) (dI : Nat → Nat → Nat) (cI cZ cH cJ : ClassId) (A : Nat → Prop) (s : State) (x0 xq o : Nat) (xg : Nat → Option Nat) (had : Nat → Nat → Nat) (ma : Nat → Nat) (H : Heap) (locs : List Loc) : Prop :=
  ∃ (now th : Int32) (σ : Nat → zHS) (uU uY uK uW uV uS uR uM uO uF uG uE uD uP uQ uH xW xV xS uN : zI) (fo : Nat → Int64), zsm now ∧ (∀ j, j < 4 → zRelT j (σ j) uU uY uK uW uV uS uR uM uO uF uG uE uD uP uQ uH xW xV xS uN) ∧ va_P (dC, dI) vwCl (zF cI cZ cH cJ x0 xq o xg ma now th fo uU uY uK uW uV uS uR uM uO uF uG uE uD uP uQ uH xW xV xS uN ++ zT4 cI cZ had σ) H ∧ va_D A (zF cI cZ cH cJ x0 xq o xg ma now th fo uU uY uK uW uV uS uR uM uO uF uG uE uD uP uQ uH xW xV xS uN ++ zT4 cI cZ had σ) ∧ va_S A s.heap H locs
theorem LInv_mk {dC : Nat → ClassId} {dI : Nat → Nat → Nat} {cI cZ cH cJ : ClassId} {A : Nat → Prop} {s : State} {x0 xq o : Nat} {xg : Nat → Option Nat} {had : Nat → Nat → Nat} {ma : Nat → Nat} {H : Heap} {locs : List Loc} (now th : Int32) (σ : Nat → zHS) (uU uY uK uW uV uS uR uM uO uF uG uE uD uP uQ uH xW xV xS uN : zI) (fo : Nat → Int64) (hn : zsm now) (hR : ∀ j, j < 4 → zRelT j (σ j) uU uY uK uW uV uS uR uM uO uF uG uE uD uP uQ uH xW xV xS uN) (hP : va_P (dC, dI) vwCl (zF cI cZ cH cJ x0 xq o xg ma now th fo uU uY uK uW uV uS uR uM uO uF uG uE uD uP uQ uH xW xV xS uN ++ zT4 cI cZ had σ) H) (hD : va_D A (zF cI cZ cH cJ x0 xq o xg ma now th fo uU uY uK uW uV uS uR uM uO uF uG uE uD uP uQ uH xW xV xS uN ++ zT4 cI cZ had σ)) (hS : va_S A s.heap H locs) : LInv dC dI cI cZ cH cJ A s x0 xq o xg had ma H locs := ⟨now, th, σ, uU, uY, uK, uW, uV, uS, uR, uM, uO, uF, uG, uE, uD, uP, uQ, uH, xW, xV, xS, uN, fo, hn, hR, hP, hD, hS⟩
/-- what stands all the while -/
def LFix (p : Program) (l : Launch) (s : State) (m : MethodId) (meth : Method) (c : Code) (b L : Nat) (xs : Nat → Int32) (dC : Nat → ClassId) (dI : Nat → Nat → Nat) (cI cZ cH cJ : ClassId) (A : Nat → Prop) (xg : Nat → Option Nat) (had : Nat → Nat → Nat) : Prop :=
  lw_At p s m meth c b L xs ∧ l.stackTraces = false ∧ (∀ q : Nat, s.heap.size ≤ q → A q) ∧ ¬ A b ∧ va_K (dC, dI) vwCl (zTy cI cZ cH cJ) s ∧ vx_Zq Bundle.tN "UNASSIGNED_STACK" Bundle.steD A s s.heap ∧ vx_Zq Bundle.tN "SUPPRESSED_SENTINEL" Bundle.listD A s s.heap ∧ (∀ w ∈ zBad, va_Nw w s) ∧ zStrs s ∧ zN s ∧ (∀ i, i < 4 → xg i = some (had i 0)) ∧ L ≤ 2560
end LS
