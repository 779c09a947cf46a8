/-! ===== the whole object as one world ===== -/
section ZS
abbrev zHS : Type := Int32 × Int32 × Int32 × Int32 × Int32 × Int32 × Int32 × Int32 × Int32 × zI × zI × zI × zI × zI × zI × zI × zI × zI × zI × zI × zI
/-- the sixteen cells of a harvest -/
def hvL (cI cZ : ClassId) (a : Nat → Nat) : zHS → va_W
  | (mk1, ho, fl, od, td, ps, pr, un, de, tk, iT, tS, rD, sT, sW, sV, sS, fT, fW, fV, fS) => [(a 0, .inr (1, [.ref (a 1), .ref (a 2), .int mk1, .int ho, .int fl, .int od, .int td, .int ps, .int pr, .ref (a 3)])), (a 1, .inr (0, [.ref (a 4), .ref (a 5), .ref (a 6), .ref (a 7), .int un, .int de])), (a 2, .inr (2, [.ref (a 8), .ref (a 9), .ref (a 10), .ref (a 11)])), (a 3, .inl (cZ, 20, .inl tk)), (a 4, .inr (2, [.ref (a 12), .ref (a 13), .ref (a 14), .ref (a 15)])), (a 5, .inl (cZ, 20, .inl iT)), (a 6, .inl (cI, 20, .inl tS)), (a 7, .inl (cI, 20, .inl rD)), (a 8, .inl (cZ, 20, .inl sT)), (a 9, .inl (cI, 20, .inl sW)), (a 10, .inl (cI, 20, .inl sV)), (a 11, .inl (cI, 20, .inl sS)), (a 12, .inl (cZ, 20, .inl fT)), (a 13, .inl (cI, 20, .inl fW)), (a 14, .inl (cI, 20, .inl fV)), (a 15, .inl (cI, 20, .inl fS))]
def zT4 (cI cZ : ClassId) (had : Nat → Nat → Nat) (σ : Nat → zHS) : va_W := hvL cI cZ (had 0) (σ 0) ++ (hvL cI cZ (had 1) (σ 1) ++ (hvL cI cZ (had 2) (σ 2) ++ hvL cI cZ (had 3) (σ 3)))
def zup (σ : Nat → zHS) (ca : Nat) (x : zHS) : Nat → zHS := fun j => if j = ca then x else σ j
theorem zup_s {σ : Nat → zHS} {ca : Nat} {x : zHS} : zup σ ca x ca = x := if_pos rfl
theorem zup_n {σ : Nat → zHS} {ca j : Nat} {x : zHS} (h : ¬ j = ca) : zup σ ca x j = σ j := if_neg h
/-- worlds of the same cells -/
def zND : va_W → Prop
  | [] => True
  | q :: t => (∀ r ∈ t, ¬ r.1 = q.1) ∧ zND t
theorem zND_app : ∀ (a b : va_W), zND (a ++ b) ↔ zND a ∧ zND b ∧ ∀ q ∈ a, ∀ r ∈ b, ¬ r.1 = q.1
  | [], b => by simp [zND]
  | q :: t, b => by
    rw [List.cons_append, zND, zND, zND_app t b]
    simp only [List.mem_append, List.mem_cons]
    grind
theorem zD_nd {A : Nat → Prop} : ∀ (ws : va_W), va_D A ws → zND ws
  | [], _ => trivial
  | q :: t, h => by
    refine ⟨fun r hr e => ?_, zD_nd t ⟨fun i j p r hi hj hpr => ?_, fun k r hk => h.2 (k + 1) r hk⟩⟩
    · obtain ⟨i, hi⟩ := List.getElem?_of_mem hr
      have h1 := h.1 (i + 1) 0 r q hi rfl e
      omega
    · have h1 := h.1 (i + 1) (j + 1) p r hi hj hpr
      omega
theorem zD_of {A : Nat → Prop} : ∀ (ws : va_W), zND ws → (∀ q ∈ ws, A q.1) → va_D A ws
  | [], _, _ => ⟨fun i j p q hi => by simp at hi, fun k q hk => by simp at hk⟩
  | c :: t, h, hA => by
    have ih := zD_of t h.2 (fun q hq => hA q (List.mem_cons_of_mem _ hq))
    refine ⟨fun i j p r hi hj hpr => ?_, fun k q hk => hA q (List.mem_of_getElem? hk)⟩
    match i, j, hi, hj with
    | 0, 0, _, _ => rfl
    | 0, j + 1, hi, hj =>
      cases hi
      exact absurd hpr.symm (h.1 r (List.mem_of_getElem? hj))
    | i + 1, 0, hi, hj =>
      cases hj
      exact absurd hpr (h.1 p (List.mem_of_getElem? hi))
    | i + 1, j + 1, hi, hj => exact congrArg (· + 1) (ih.1 i j p r hi hj hpr)
def zeq (v w : va_W) : Prop := (∀ q, q ∈ v ↔ q ∈ w) ∧ (zND v ↔ zND w)
theorem zeq.P {D : va_G} {cl : List vw_C} {v w : va_W} {H : Heap} (h : zeq v w) (hP : va_P D cl v H) : va_P D cl w H := fun k q hk => by
  obtain ⟨i, hi⟩ := List.getElem?_of_mem ((h.1 q).mpr (List.mem_of_getElem? hk))
  exact hP i q hi
theorem zeq.D {A : Nat → Prop} {v w : va_W} (h : zeq v w) (hD : va_D A v) : va_D A w := zD_of w (h.2.mp (zD_nd v hD)) (fun q hq => by
  obtain ⟨i, hi⟩ := List.getElem?_of_mem ((h.1 q).mpr hq)
  exact hD.2 i q hi)
theorem zeq1 (F a b c d : va_W) : zeq (F ++ (a ++ (b ++ (c ++ d)))) (F ++ (b ++ (a ++ (c ++ d)))) := by
  constructor
  · intro q
    simp only [List.mem_append]
    grind
  · simp only [zND_app, List.mem_append]
    grind
theorem zeq2 (F a b c d : va_W) : zeq (F ++ (a ++ (b ++ (c ++ d)))) (F ++ (c ++ (a ++ (b ++ d)))) := by
  constructor
  · intro q
    simp only [List.mem_append]
    grind
  · simp only [zND_app, List.mem_append]
    grind
theorem zeq3 (F a b c d : va_W) : zeq (F ++ (a ++ (b ++ (c ++ d)))) (F ++ (d ++ (a ++ (b ++ c)))) := by
  constructor
  · intro q
    simp only [List.mem_append]
    grind
  · simp only [zND_app, List.mem_append]
    grind
theorem zeq.sy {v w : va_W} (h : zeq v w) : zeq w v := ⟨fun q => (h.1 q).symm, h.2.symm⟩
/-- one harvest's cells brought to the front, and back -/
theorem zopen (cI cZ : ClassId) (had : Nat → Nat → Nat) (σ : Nat → zHS) {ca : Nat} (h : ca < 4) : ∃ wr : va_W, (∀ F : va_W, zeq (F ++ zT4 cI cZ had σ) (F ++ (hvL cI cZ (had ca) (σ ca) ++ wr))) ∧ ∀ (F : va_W) (x : zHS), zeq (F ++ (hvL cI cZ (had ca) x ++ wr)) (F ++ zT4 cI cZ had (zup σ ca x)) := by
  match ca, h with
  | 0, _ => exact ⟨hvL cI cZ (had 1) (σ 1) ++ (hvL cI cZ (had 2) (σ 2) ++ hvL cI cZ (had 3) (σ 3)), fun F => ⟨fun _ => Iff.rfl, Iff.rfl⟩, fun F x => ⟨fun _ => Iff.rfl, Iff.rfl⟩⟩
  | 1, _ => exact ⟨hvL cI cZ (had 0) (σ 0) ++ (hvL cI cZ (had 2) (σ 2) ++ hvL cI cZ (had 3) (σ 3)), fun F => zeq1 F _ _ _ _, fun F x => (zeq1 F (hvL cI cZ (had 0) (σ 0)) (hvL cI cZ (had 1) x) (hvL cI cZ (had 2) (σ 2)) (hvL cI cZ (had 3) (σ 3))).sy⟩
  | 2, _ => exact ⟨hvL cI cZ (had 0) (σ 0) ++ (hvL cI cZ (had 1) (σ 1) ++ hvL cI cZ (had 3) (σ 3)), fun F => zeq2 F _ _ _ _, fun F x => (zeq2 F (hvL cI cZ (had 0) (σ 0)) (hvL cI cZ (had 1) (σ 1)) (hvL cI cZ (had 2) x) (hvL cI cZ (had 3) (σ 3))).sy⟩
  | 3, _ => exact ⟨hvL cI cZ (had 0) (σ 0) ++ (hvL cI cZ (had 1) (σ 1) ++ hvL cI cZ (had 2) (σ 2)), fun F => zeq3 F _ _ _ _, fun F x => (zeq3 F (hvL cI cZ (had 0) (σ 0)) (hvL cI cZ (had 1) (σ 1)) (hvL cI cZ (had 2) (σ 2)) (hvL cI cZ (had 3) x)).sy⟩
theorem zP_l {D : va_G} {cl : List vw_C} {ws tl : va_W} {H : Heap} (hP : va_P D cl (ws ++ tl) H) : va_P D cl ws H := fun k q hk => by
  obtain ⟨i, hi⟩ := List.getElem?_of_mem (List.mem_append_left tl (List.mem_of_getElem? hk))
  exact hP i q hi
theorem zP_r {D : va_G} {cl : List vw_C} {ws tl : va_W} {H : Heap} (hP : va_P D cl (ws ++ tl) H) : va_P D cl tl H := fun k q hk => by
  obtain ⟨i, hi⟩ := List.getElem?_of_mem (List.mem_append_right ws (List.mem_of_getElem? hk))
  exact hP i q hi
theorem zP_a {D : va_G} {cl : List vw_C} {ws tl : va_W} {H : Heap} (h1 : va_P D cl ws H) (h2 : va_P D cl tl H) : va_P D cl (ws ++ tl) H := fun k q hk => by
  rcases List.mem_append.mp (List.mem_of_getElem? hk) with h | h
  · obtain ⟨i, hi⟩ := List.getElem?_of_mem h
    exact h1 i q hi
  · obtain ⟨i, hi⟩ := List.getElem?_of_mem h
    exact h2 i q hi
theorem zD_m {A : Nat → Prop} {ws : va_W} (hD : va_D A ws) : ∀ q ∈ ws, A q.1 := fun q hq => by
  obtain ⟨i, hi⟩ := List.getElem?_of_mem hq
  exact hD.2 i q hi
theorem zD_l {A : Nat → Prop} {ws tl : va_W} (hD : va_D A (ws ++ tl)) : va_D A ws := zD_of ws ((zND_app ws tl).mp (zD_nd _ hD)).1 (fun q hq => zD_m hD q (List.mem_append_left tl hq))
theorem zD_a {A : Nat → Prop} {ws tl : va_W} (h1 : va_D A ws) (h2 : ∀ q ∈ tl, A q.1) (h3 : zND tl) (h4 : ∀ q ∈ ws, ∀ r ∈ tl, ¬ r.1 = q.1) : va_D A (ws ++ tl) := zD_of _ ((zND_app ws tl).mpr ⟨zD_nd ws h1, h3, h4⟩) (fun q hq => (List.mem_append.mp hq).elim (zD_m h1 q) (h2 q))
theorem zsub_m {ws wc : va_W} {is : List Nat} (hC : is.map (fun i => ws[i]?) = wc.map some) : ∀ q ∈ wc, q ∈ ws := fun q hq => by
  obtain ⟨k, hk⟩ := List.getElem?_of_mem hq
  obtain ⟨i, -, h2⟩ := zat2 hC k q hk
  exact List.mem_of_getElem? h2
theorem zeq.rf (v : va_W) : zeq v v := ⟨fun _ => Iff.rfl, Iff.rfl⟩
theorem zeq.tr {u v w : va_W} (h : zeq u v) (k : zeq v w) : zeq u w := ⟨fun q => (h.1 q).trans (k.1 q), h.2.trans k.2⟩
theorem zeq_app {u v : va_W} (h : zeq u v) (t : va_W) : zeq (u ++ t) (v ++ t) := by
  refine ⟨fun q => ?_, ?_⟩
  · rw [List.mem_append, List.mem_append, h.1 q]
  · rw [zND_app, zND_app, h.2]
    exact and_congr_right (fun _ => and_congr_right (fun _ => ⟨fun g q hq => g q ((h.1 q).mpr hq), fun g q hq => g q ((h.1 q).mp hq)⟩))
theorem zeq_comm (u v : va_W) : zeq (u ++ v) (v ++ u) := by
  constructor
  · intro q
    simp only [List.mem_append]
    grind
  · simp only [zND_app]
    grind
theorem zeq_sw (a b c : va_W) : zeq ((a ++ b) ++ c) ((a ++ c) ++ b) := by
  constructor
  · intro q
    simp only [List.mem_append]
    grind
  · simp only [zND_app, List.mem_append]
    grind
/-- the same cells, by their places -/
theorem zeI {ws wc : va_W} (is js : List Nat) (h1 : is.map (fun i => ws[i]?) = wc.map some) (h2 : js.map (fun i => wc[i]?) = ws.map some) (n1 : va_nd is = true) (n2 : va_nd js = true) : zeq ws wc := by
  refine ⟨fun q => ⟨fun h => zsub_m h2 q h, fun h => zsub_m h1 q h⟩, fun h => ?_, fun h => ?_⟩
  · exact zD_nd (A := fun _ => True) _ ((zD_of ws h (fun _ _ => trivial)).sub is n1 h1)
  · exact zD_nd (A := fun _ => True) _ ((zD_of wc h (fun _ _ => trivial)).sub js n2 h2)
/-- some explicit cells and a tail ahead, the others behind -/
theorem zeT {ws wc wr tl : va_W} (is js : List Nat) (h1 : is.map (fun i => ws[i]?) = (wc ++ wr).map some) (h2 : js.map (fun i => (wc ++ wr)[i]?) = ws.map some) (n1 : va_nd is = true) (n2 : va_nd js = true) : zeq (ws ++ tl) ((wc ++ tl) ++ wr) := (zeq_app (zeI is js h1 h2 n1 n2) tl).tr (zeq_sw wc wr tl)
theorem zP_m {D : va_G} {cl : List vw_C} {ws wc : va_W} {H : Heap} (hP : va_P D cl ws H) (h : ∀ q ∈ wc, q ∈ ws) : va_P D cl wc H := fun k q hk => by
  obtain ⟨i, hi⟩ := List.getElem?_of_mem (h q (List.mem_of_getElem? hk))
  exact hP i q hi
/-- a contract over a larger world -/
theorem zwrapM {l : Launch} {y : MethodName} {ws : List Cond} {rm : Room} {dC : Nat → ClassId} {dI : Nat → Nat → Nat} {tys : List (ClassId × FieldType)} {av : List Value} {sz : Nat} {big big1 wc w1 wr : va_W} {v : Int32} {mc ms : Nat} (h : Met l y ws rm (zPc dC dI tys av sz wc) (zQi dC dI v w1 (va_A wc sz)) mc ms (va_A wc sz)) (e0 : zeq big (wc ++ wr)) (e1 : zeq (w1 ++ wr) big1) : Met l y ws rm (zPc dC dI tys av sz big) (zQi dC dI v big1 (va_A big sz)) mc ms (va_A big sz) := by
  have hA : ∀ q, va_A wc sz q → va_A big sz q := fun q h => by
    rcases h with ⟨k, e, h⟩ | h
    · obtain ⟨i, hi⟩ := List.getElem?_of_mem ((e0.1 (q, e)).mpr (List.mem_append_left wr (List.mem_of_getElem? h)))
      exact Or.inl ⟨i, e, hi⟩
    · exact Or.inr h
  refine MetFree.mono h (fun a U q => ?_) (fun _ _ _ _ _ _ => trivial) (fun a st o t q0 q => ?_)
  · obtain ⟨q1, q2, qP, qK, qD⟩ := q
    exact ⟨q1, q2, zP_l (e0.P qP), qK, zD_l (e0.D qD)⟩
  · obtain ⟨q1, q2, qP, qK, qD⟩ := q0
    obtain ⟨⟨r1, ⟨rP, rD⟩, rF⟩, L, hFE, hL⟩ := q
    have hPb := zP_r (e0.P qP)
    obtain ⟨n1, n2, n3⟩ := (zND_app wc wr).mp (zD_nd _ (e0.D qD))
    have lt : ∀ r ∈ wr, r.1 < st.heap.size := fun r hr => by
      obtain ⟨i, hi⟩ := List.getElem?_of_mem hr
      exact (hPb i r hi).lt
    have ap : ∀ r ∈ wr, ¬ va_A wc sz r.1 := fun r hr h => by
      rcases h with ⟨k2, e, h⟩ | h
      · exact n3 (r.1, e) (List.mem_of_getElem? h) r hr rfl
      · exact absurd (lt r hr) (Nat.not_lt.mpr (by rw [q2]; exact h))
    refine ⟨⟨r1, ⟨e1.P (zP_a rP (fun k q hk => ?_)), e1.D (zD_a (rD.weaken (fun _ _ _ h => hA _ h)) (fun q hq => ?_) n2 (fun q hq r hr e => ?_))⟩, ⟨rF.1, fun q h1 h2 => rF.2 q h1 (fun h => h2 (hA q h))⟩⟩, L, hFE, fun q hq => hA _ (hL q hq)⟩
    · exact (hPb k q hk).kept (rF.2 q.1 (lt q (List.mem_of_getElem? hk)) (ap q (List.mem_of_getElem? hk)))
    · obtain ⟨i, hi⟩ := List.getElem?_of_mem ((e0.1 q).mpr (List.mem_append_right wc hq))
      exact Or.inl ⟨i, q.2, hi⟩
    · exact ap r hr (by rw [e]; exact zD_m rD q hq)
theorem zwrapR {l : Launch} {y : MethodName} {ws : List Cond} {rm : Room} {dC : Nat → ClassId} {dI : Nat → Nat → Nat} {tys : List (ClassId × FieldType)} {av : List Value} {big wc : va_W} {Qc : Array Value → State → Outcome → State → Prop} {mc ms : Nat} {F : Nat → Prop} (h : Met l y ws rm (zRc dC dI tys av wc) Qc mc ms F) (e : ∀ q ∈ wc, q ∈ big) : Met l y ws rm (zRc dC dI tys av big) Qc mc ms F :=
  MetFree.mono h (fun a U q => ⟨q.1, zP_m q.2.1 e, q.2.2⟩) (fun _ _ _ _ _ _ => trivial) (fun _ _ _ _ _ q => q)
theorem zwrapX {l : Launch} {y : MethodName} {ws : List Cond} {rm : Room} {dC : Nat → ClassId} {dI : Nat → Nat → Nat} {tys : List (ClassId × FieldType)} {av : List Value} {big wc : va_W} {Qc : Array Value → State → Outcome → State → Prop} {XC : String → State → State → Prop} {mc ms : Nat} {F : Nat → Prop} (h : vx_Met l y ws rm (zXc dC dI tys av wc) Qc XC mc ms F) (e : ∀ q ∈ wc, q ∈ big) : vx_Met l y ws rm (zXc dC dI tys av big) Qc XC mc ms F :=
  MetFree.mono h (fun a U q => ⟨q.1, q.2.1, zP_m q.2.2.1 e, q.2.2.2⟩) (fun _ _ _ _ _ _ => trivial) (fun _ _ _ _ _ q => q)
/-- the class's object with all that it holds -/
def zOb (cI cZ cH : ClassId) (x0 xq : Nat) (xg : Nat → Option Nat) (had : Nat → Nat → Nat) (now : Int32) (σ : Nat → zHS) : va_W := (x0, .inr (3, [.ref xq, .int now])) :: (xq, .inl (cH, 4, .inr (.inr (.inr (.inr xg))))) :: zT4 cI cZ had σ
def hMk (x : zHS) : Int32 := x.1
def hHo (x : zHS) : Int32 := x.2.1
def hFl (x : zHS) : Int32 := x.2.2.1
def hOd (x : zHS) : Int32 := x.2.2.2.1
def hTd (x : zHS) : Int32 := x.2.2.2.2.1
def hPs (x : zHS) : Int32 := x.2.2.2.2.2.1
def hPr (x : zHS) : Int32 := x.2.2.2.2.2.2.1
def hUn (x : zHS) : Int32 := x.2.2.2.2.2.2.2.1
def hDe (x : zHS) : Int32 := x.2.2.2.2.2.2.2.2.1
def hTk (x : zHS) : zI := x.2.2.2.2.2.2.2.2.2.1
def hIT (x : zHS) : zI := x.2.2.2.2.2.2.2.2.2.2.1
def hTS (x : zHS) : zI := x.2.2.2.2.2.2.2.2.2.2.2.1
def hRD (x : zHS) : zI := x.2.2.2.2.2.2.2.2.2.2.2.2.1
def hST (x : zHS) : zI := x.2.2.2.2.2.2.2.2.2.2.2.2.2.1
def hSW (x : zHS) : zI := x.2.2.2.2.2.2.2.2.2.2.2.2.2.2.1
def hSV (x : zHS) : zI := x.2.2.2.2.2.2.2.2.2.2.2.2.2.2.2.1
def hSS (x : zHS) : zI := x.2.2.2.2.2.2.2.2.2.2.2.2.2.2.2.2.1
def hFT (x : zHS) : zI := x.2.2.2.2.2.2.2.2.2.2.2.2.2.2.2.2.2.1
def hFW (x : zHS) : zI := x.2.2.2.2.2.2.2.2.2.2.2.2.2.2.2.2.2.2.1
def hFV (x : zHS) : zI := x.2.2.2.2.2.2.2.2.2.2.2.2.2.2.2.2.2.2.2.1
def hFS (x : zHS) : zI := x.2.2.2.2.2.2.2.2.2.2.2.2.2.2.2.2.2.2.2.2
end ZS
