/-! ===== the law's helpers: what they compute ===== -/
def zall (now : Int32) (σ : Nat → zHS) : Nat → Int64
  | 0 => now.toInt64
  | n + 1 => ((((((1000003 * zall now σ n) + (zcnt (hFT (σ n)) 20).toInt64) + (31 * (zcnt (hIT (σ n)) 20).toInt64)) + (1009 * (zcnt (hST (σ n)) 20).toInt64)) + (65537 * (zcu (hST (σ n)) (hSW (σ n)) (hSV (σ n)) (hSS (σ n)) (hFT (σ n)) (hFW (σ n)) (hFV (σ n)) (hFS (σ n)) 20).toInt64)) + (7 * (hMk (σ n)).toInt64)) + (if hHo (σ n) = 0 then 0 else 3)
def zcl (y d : zI) (way today : Int32) (b n : Nat) : zI := fun j => if b ≤ j ∧ j < b + n ∧ ¬ -1 ≤ y j ∧ (way = 2 ∨ (way = 1 ∧ d j + 10 ≤ today)) then -1 else y j
theorem zcl_0 {y d : zI} {way today : Int32} {b : Nat} : y = zcl y d way today b 0 := by
  funext j
  unfold zcl
  rw [if_neg (fun q => by omega)]
theorem zcl_at {y d : zI} {way today : Int32} {b n : Nat} : zcl y d way today b n (b + n) = y (b + n) := by
  unfold zcl
  rw [if_neg (fun q => by omega)]
theorem zcl_s {y d : zI} {way today : Int32} {b n : Nat} : upd (zcl y d way today b n) (b + n) (if ¬ -1 ≤ y (b + n) ∧ (way = 2 ∨ (way = 1 ∧ d (b + n) + 10 ≤ today)) then -1 else y (b + n)) = zcl y d way today b (n + 1) := by
  funext j
  unfold upd zcl
  by_cases hj : j = b + n
  · subst hj
    rw [if_pos rfl]
    by_cases h : ¬ -1 ≤ y (b + n) ∧ (way = 2 ∨ (way = 1 ∧ d (b + n) + 10 ≤ today))
    · rw [if_pos h, if_pos ⟨by omega, by omega, h⟩]
    · rw [if_neg h, if_neg (fun q => h q.2.2)]
  · rw [if_neg hj]
    have : (j < b + (n + 1)) = (j < b + n) := propext ⟨fun q => by omega, fun q => by omega⟩
    simp only [this]
theorem z_l2 {c : Prop} [Decidable c] {x : Int64} (h : c) : x = if c then x else 3 := (if_pos h).symm
theorem z_l3 {c : Prop} [Decidable c] {x : Int64} (h : ¬ c) : x = if c then 0 else x := (if_neg h).symm
set_option maxHeartbeats 8000000 in
set_option maxRecDepth 100000 in
/-- stampOf -/
theorem kL_stampOf (l : Launch) (v : Int32) : Met l yL_stampOf wsL_stampOf ({ frames := 0, cells := 0, slots := 0, locals := 0 }) (zSc [.int v]) (zSi (zso v)) 0 0 (fun _ => False) := by
  refine Met.ofW (cc := cL_stampOf) (maxL := 1) (ret := (some .int)) (by decide) rfl ?_
  intro p e s m args below meth c s₁ B hml hv0
  obtain ⟨rfl, -⟩ := hv0
  have hx := B.exec
  have hb := B.bytes
  have hr := B.returns
  have hts := atoms_spec (ws := wsL_stampOf) B.pre
  have hown : s.vm.findClass RL = some m.cls := findClass_of_methodNamed B.named
  have hlocks := B.notSynchronized
  have hl := lv_entry ([.int v]) (n := 1) (Nat.le_of_ble_eq_true rfl)
  rw [lg_entry_eq]
  generalize (lg_sl ([.int v]) ++ List.replicate (1 - (lg_sl ([.int v])).length) Slot.unset).toArray = ls at hl ⊢
  have hl : lv_has ls 1 [(0, .int v)] := hl
  refine lv_iload_n hx hb dL_stampOf_0 rfl (lv_at hl 0 rfl) ?_
  refine lv_iconst (v := (-1)) hx hb dL_stampOf_1 (by decide) ?_
  refine lv_icmp_ge (tgt := 12) hx hb dL_stampOf_2 (by decide) (fun c_2 => ?_) (fun c_2 => ?_)
  · skip
    refine lv_iload_n hx hb dL_stampOf_12 rfl (lv_at hl 0 rfl) ?_
    refine lv_bipush (v := 14) hx hb dL_stampOf_13 (by decide) ?_
    refine lv_ishr hx hb dL_stampOf_15 ?_
    refine z_tv (v := v >>> 14) (congrArg (fun z => v >>> z) (show (14 : Int32) &&& 31 = 14 by decide)) ?_
    refine z_tv (v := zso v) (by simp [zso, c_2]) ?_
    exact W.iret hx hb hr (fun t ht hW => ⟨rfl, ht⟩) (fun _ h => nomatch h) dL_stampOf_16
  · skip
    refine lv_bipush (v := (-2)) hx hb dL_stampOf_5 (by decide) ?_
    refine lv_iload_n hx hb dL_stampOf_7 rfl (lv_at hl 0 rfl) ?_
    refine lv_isub hx hb dL_stampOf_8 ?_
    refine lv_goto (tgt := 16) hx hb dL_stampOf_9 (by decide) ?_
    refine z_tv (v := zso v) (by simp [zso, c_2]) ?_
    exact W.iret hx hb hr (fun t ht hW => ⟨rfl, ht⟩) (fun _ h => nomatch h) dL_stampOf_16
set_option maxHeartbeats 8000000 in
set_option maxRecDepth 100000 in
/-- clear -/
theorem kL_clear (l : Launch) (dC : Nat → ClassId) (dI : Nat → Nat → Nat) (cI cZ cH cJ : ClassId) (ay : Nat) (ad : Nat) (ag : Nat) (fy : zI) (fd : zI) (fg : zI) (ca : Nat) (hc3 : ca < 3) (today : Int32) (sz : Nat) : Met l yL_clear wsL_clear ({ frames := 0, cells := 0, slots := 0, locals := 0 }) (zPc dC dI (zTy cI cZ cH cJ) [.ref ay, .ref ad, .ref ag, .int (nI ca), .int today] sz ([(ay, .inl (cI, 60, .inl fy)), (ad, .inl (cI, 60, .inl fd)), (ag, .inl (cI, 12, .inl fg))])) (zQv dC dI ([(ay, .inl (cI, 60, .inl (zcl fy fd (fg (4 * ca + 1)) today (20 * ca) 20))), (ad, .inl (cI, 60, .inl fd)), (ag, .inl (cI, 12, .inl fg))]) (va_A ([(ay, .inl (cI, 60, .inl fy)), (ad, .inl (cI, 60, .inl fd)), (ag, .inl (cI, 12, .inl fg))]) sz)) 0 0 (va_A ([(ay, .inl (cI, 60, .inl fy)), (ad, .inl (cI, 60, .inl fd)), (ag, .inl (cI, 12, .inl fg))]) sz) := by
  refine Met.ofW (cc := cL_clear) (maxL := 7) (ret := none) (by decide) rfl ?_
  intro p e s m args below meth c s₁ B hml hv0
  obtain ⟨rfl, hsz, hP, hK, hD0⟩ := hv0
  have hx := B.exec
  have hb := B.bytes
  have hr := B.returns
  have hts := atoms_spec (ws := wsL_clear) B.pre
  have hown : s.vm.findClass RL = some m.cls := findClass_of_methodNamed B.named
  have hlocks := B.notSynchronized
  subst hsz
  have hD := hD0.self (sz := s.heap.size)
  generalize hAe : va_A ([(ay, .inl (cI, 60, .inl fy)), (ad, .inl (cI, 60, .inl fd)), (ag, .inl (cI, 12, .inl fg))]) s.heap.size = A at hD ⊢
  have hA : ∀ q : Nat, s.heap.size ≤ q → A q := fun q h => by rw [← hAe]; exact Or.inr h
  have hS : va_S A s.heap s.heap [] := va_S.rf
  have hl := lv_entry ([.ref ay, .ref ad, .ref ag, .int (nI ca), .int today]) (n := 7) (Nat.le_of_ble_eq_true rfl)
  rw [lg_entry_eq]
  generalize (lg_sl ([.ref ay, .ref ad, .ref ag, .int (nI ca), .int today]) ++ List.replicate (7 - (lg_sl ([.ref ay, .ref ad, .ref ag, .int (nI ca), .int today])).length) Slot.unset).toArray = ls at hl ⊢
  have hl : lv_has ls 7 [(0, .ref ay), (1, .ref ad), (2, .ref ag), (3, .int (nI ca)), (4, .int today)] := hl
  refine lv_bipush (v := 20) hx hb dL_clear_0 (by decide) ?_
  refine lv_iload_n hx hb dL_clear_2 rfl (lv_at hl 3 rfl) ?_
  refine lv_imul hx hb dL_clear_3 ?_
  refine z_tv (v := nI (20 * ca)) (pk_mul 20 ca) ?_
  refine lv_istore (lv' := [(5, .int (nI (20 * ca))), (0, .ref ay), (1, .ref ad), (2, .ref ag), (3, .int (nI ca)), (4, .int today)]) hx hb dL_clear_4 hl (by decide) rfl (fun ls hl => ?_)
  have LOOP1 : ∀ (n1 i : Nat), i ≤ 20 → 20 < i + n1 → ∀ (H : Heap) (locs : List Loc), va_P (dC, dI) vwCl ([(ay, .inl (cI, 60, .inl (zcl fy fd (fg (4 * ca + 1)) today (20 * ca) i))), (ad, .inl (cI, 60, .inl fd)), (ag, .inl (cI, 12, .inl fg))]) H → va_D A ([(ay, .inl (cI, 60, .inl (zcl fy fd (fg (4 * ca + 1)) today (20 * ca) i))), (ad, .inl (cI, 60, .inl fd)), (ag, .inl (cI, 12, .inl fg))]) → va_S A s.heap H locs → ∀ (ls : Array Slot), lv_has ls 7 [(0, .ref ay), (1, .ref ad), (2, .ref ag), (3, .int (nI ca)), (4, .int today), (5, .int (nI (20 * ca + i)))] → W p l e (headSpec wsL_clear ({ frames := 0, cells := 0, slots := 0, locals := 0 })).room s m ([.ref ay, .ref ad, .ref ag, .int (nI ca), .int today] : List Value).toArray below meth c H locs (0) (0) (MQ below (zQv dC dI ([(ay, .inl (cI, 60, .inl (zcl fy fd (fg (4 * ca + 1)) today (20 * ca) 20))), (ad, .inl (cI, 60, .inl fd)), (ag, .inl (cI, 12, .inl fg))]) A) ([.ref ay, .ref ad, .ref ag, .int (nI ca), .int today] : List Value).toArray s 0 0 A) (F0 m 6 ls []) := by
    intro n1
    induction n1 with
    | zero => intro i h1 h2; exact absurd h2 (by omega)
    | succ n1 ih1 =>
      intro i hi hin  H locs hP hD hS ls hl
      refine lv_iload hx hb dL_clear_6 (lv_at hl 5 rfl) ?_
      refine lv_bipush (v := 20) hx hb dL_clear_8 (by decide) ?_
      refine lv_iload_n hx hb dL_clear_10 rfl (lv_at hl 3 rfl) ?_
      refine lv_imul hx hb dL_clear_11 ?_
      refine z_tv (v := nI (20 * ca)) (pk_mul 20 ca) ?_
      refine lv_bipush (v := 20) hx hb dL_clear_12 (by decide) ?_
      refine lv_iadd hx hb dL_clear_14 ?_
      refine z_tv (v := nI (20 * ca + 20)) (nI_add (20 * ca) 20) ?_
      refine lv_icmp_ge (tgt := 90) hx hb dL_clear_15 (by decide) (fun c_15 => ?_) (fun c_15 => ?_)
      · skip
        have e20 : i = 20 := z_ge20b hi (by omega) c_15
        subst e20
        exact W.vret hx hb hr (fun t ht hW => ⟨rfl, ⟨by rw [ht]; exact hP, hD⟩, hS.F ht⟩) hS.2.2 dL_clear_90
      · skip
        have hlt : i < 20 := z_lt20b hi (by omega) c_15
        have J57_2 : ∀ (ls : Array Slot), lv_has ls 7 [(0, .ref ay), (1, .ref ad), (2, .ref ag), (3, .int (nI ca)), (4, .int today), (5, .int (nI (20 * ca + i)))] → W p l e (headSpec wsL_clear ({ frames := 0, cells := 0, slots := 0, locals := 0 })).room s m ([.ref ay, .ref ad, .ref ag, .int (nI ca), .int today] : List Value).toArray below meth c H locs 0 0 (MQ below (zQv dC dI ([(ay, .inl (cI, 60, .inl (zcl fy fd (fg (4 * ca + 1)) today (20 * ca) 20))), (ad, .inl (cI, 60, .inl fd)), (ag, .inl (cI, 12, .inl fg))]) A) ([.ref ay, .ref ad, .ref ag, .int (nI ca), .int today] : List Value).toArray s 0 0 A) (F0 m 57 ls [.int (if fg (4 * ca + 1) = 2 ∨ (fg (4 * ca + 1) = 1 ∧ fd (20 * ca + i) + 10 ≤ today) then (1 : Int32) else 0)]) := by
          intro ls hl
          refine lv_istore (lv' := [(6, .int (if fg (4 * ca + 1) = 2 ∨ (fg (4 * ca + 1) = 1 ∧ fd (20 * ca + i) + 10 ≤ today) then (1 : Int32) else 0)), (0, .ref ay), (1, .ref ad), (2, .ref ag), (3, .int (nI ca)), (4, .int today), (5, .int (nI (20 * ca + i)))]) hx hb dL_clear_57 hl (by decide) rfl (fun ls hl => ?_)
          refine lv_aload_n hx hb dL_clear_59 rfl (lv_at hl 1 rfl) ?_
          refine lv_iload hx hb dL_clear_60 (lv_at hl 6 rfl) ?_
          have J83_3 : ∀ (ls : Array Slot), lv_has ls 7 [(6, .int (if fg (4 * ca + 1) = 2 ∨ (fg (4 * ca + 1) = 1 ∧ fd (20 * ca + i) + 10 ≤ today) then (1 : Int32) else 0)), (0, .ref ay), (1, .ref ad), (2, .ref ag), (3, .int (nI ca)), (4, .int today), (5, .int (nI (20 * ca + i)))] → W p l e (headSpec wsL_clear ({ frames := 0, cells := 0, slots := 0, locals := 0 })).room s m ([.ref ay, .ref ad, .ref ag, .int (nI ca), .int today] : List Value).toArray below meth c H locs 0 0 (MQ below (zQv dC dI ([(ay, .inl (cI, 60, .inl (zcl fy fd (fg (4 * ca + 1)) today (20 * ca) 20))), (ad, .inl (cI, 60, .inl fd)), (ag, .inl (cI, 12, .inl fg))]) A) ([.ref ay, .ref ad, .ref ag, .int (nI ca), .int today] : List Value).toArray s 0 0 A) (F0 m 83 ls [.int (if ¬ -1 ≤ fy (20 * ca + i) ∧ (fg (4 * ca + 1) = 2 ∨ (fg (4 * ca + 1) = 1 ∧ fd (20 * ca + i) + 10 ≤ today)) then -1 else fy (20 * ca + i)), .int (nI (20 * ca + i)), .ref ay]) := by
            intro ls hl
            refine z_iast hx hb hK hP hD hS 0 rfl (zix_nI (by first | assumption | omega) (by decide)) dL_clear_83 (fun H locs hP hD hS => ?_)
            have hP : va_P (dC, dI) vwCl ([(ay, .inl (cI, 60, .inl (upd (zcl fy fd (fg (4 * ca + 1)) today (20 * ca) i) (20 * ca + i) (if ¬ -1 ≤ fy (20 * ca + i) ∧ (fg (4 * ca + 1) = 2 ∨ (fg (4 * ca + 1) = 1 ∧ fd (20 * ca + i) + 10 ≤ today)) then -1 else fy (20 * ca + i))))), (ad, .inl (cI, 60, .inl fd)), (ag, .inl (cI, 12, .inl fg))]) H := hP
            have hD : va_D A ([(ay, .inl (cI, 60, .inl (upd (zcl fy fd (fg (4 * ca + 1)) today (20 * ca) i) (20 * ca + i) (if ¬ -1 ≤ fy (20 * ca + i) ∧ (fg (4 * ca + 1) = 2 ∨ (fg (4 * ca + 1) = 1 ∧ fd (20 * ca + i) + 10 ≤ today)) then -1 else fy (20 * ca + i))))), (ad, .inl (cI, 60, .inl fd)), (ag, .inl (cI, 12, .inl fg))]) := hD
            refine lv_iinc (v := nI (20 * ca + (i + 1))) (lv' := [(5, .int (nI (20 * ca + (i + 1)))), (6, .int (if fg (4 * ca + 1) = 2 ∨ (fg (4 * ca + 1) = 1 ∧ fd (20 * ca + i) + 10 ≤ today) then (1 : Int32) else 0)), (0, .ref ay), (1, .ref ad), (2, .ref ag), (3, .int (nI ca)), (4, .int today)]) hx hb dL_clear_84 hl (k := 6) rfl (z_1) (by decide) rfl (fun ls hl => ?_)
            refine lv_goto (tgt := 6) hx hb dL_clear_87 (by decide) ?_
            exact ih1 (i + 1) (by omega) (by omega)  _ _ (zP_eq hP (zw_a (zcl_s) (zw_k (zw_k (rfl))))) (zD_eq hD (zw_a (zcl_s) (zw_k (zw_k (rfl))))) hS _ (lv_sub hl [2, 3, 4, 5, 6, 0] rfl)
          refine lv_aload_n hx hb dL_clear_62 rfl (lv_at hl 1 rfl) ?_
          refine lv_iload hx hb dL_clear_63 (lv_at hl 6 rfl) ?_
          refine z_iald hx hb hK hP 0 rfl (zix_nI (by first | assumption | omega) (by decide)) dL_clear_65 ?_
          refine z_tv (v := (zcl fy fd (fg (4 * ca + 1)) today (20 * ca) i) (20 * ca + i)) (rfl) ?_
          refine z_tv (v := fy (20 * ca + i)) (zcl_at) ?_
          refine lv_iconst (v := (-1)) hx hb dL_clear_66 (by decide) ?_
          refine lv_icmp_ge (tgt := 79) hx hb dL_clear_67 (by decide) (fun c_67 => ?_) (fun c_67 => ?_)
          · skip
            refine lv_aload_n hx hb dL_clear_79 rfl (lv_at hl 1 rfl) ?_
            refine lv_iload hx hb dL_clear_80 (lv_at hl 6 rfl) ?_
            refine z_iald hx hb hK hP 0 rfl (zix_nI (by first | assumption | omega) (by decide)) dL_clear_82 ?_
            refine z_tv (v := (zcl fy fd (fg (4 * ca + 1)) today (20 * ca) i) (20 * ca + i)) (rfl) ?_
            refine z_tv (v := fy (20 * ca + i)) (zcl_at) ?_
            refine z_tv (v := if ¬ -1 ≤ fy (20 * ca + i) ∧ (fg (4 * ca + 1) = 2 ∨ (fg (4 * ca + 1) = 1 ∧ fd (20 * ca + i) + 10 ≤ today)) then -1 else fy (20 * ca + i)) (by grind) ?_
            exact J83_3 _ (lv_sub hl [0, 1, 2, 3, 4, 5, 6] rfl)
          · skip
            refine lv_iload hx hb dL_clear_70 (lv_at hl 0 rfl) ?_
            refine lv_if_eq (tgt := 79) hx hb dL_clear_72 (by decide) (fun c_72 => ?_) (fun c_72 => ?_)
            · skip
              refine lv_aload_n hx hb dL_clear_79 rfl (lv_at hl 1 rfl) ?_
              refine lv_iload hx hb dL_clear_80 (lv_at hl 6 rfl) ?_
              refine z_iald hx hb hK hP 0 rfl (zix_nI (by first | assumption | omega) (by decide)) dL_clear_82 ?_
              refine z_tv (v := (zcl fy fd (fg (4 * ca + 1)) today (20 * ca) i) (20 * ca + i)) (rfl) ?_
              refine z_tv (v := fy (20 * ca + i)) (zcl_at) ?_
              refine z_tv (v := if ¬ -1 ≤ fy (20 * ca + i) ∧ (fg (4 * ca + 1) = 2 ∨ (fg (4 * ca + 1) = 1 ∧ fd (20 * ca + i) + 10 ≤ today)) then -1 else fy (20 * ca + i)) (by grind) ?_
              exact J83_3 _ (lv_sub hl [0, 1, 2, 3, 4, 5, 6] rfl)
            · skip
              refine lv_iconst (v := (-1)) hx hb dL_clear_75 (by decide) ?_
              refine lv_goto (tgt := 83) hx hb dL_clear_76 (by decide) ?_
              refine z_tv (v := if ¬ -1 ≤ fy (20 * ca + i) ∧ (fg (4 * ca + 1) = 2 ∨ (fg (4 * ca + 1) = 1 ∧ fd (20 * ca + i) + 10 ≤ today)) then -1 else fy (20 * ca + i)) (by grind) ?_
              exact J83_3 _ (lv_sub hl [0, 1, 2, 3, 4, 5, 6] rfl)
        refine lv_aload_n hx hb dL_clear_18 rfl (lv_at hl 2 rfl) ?_
        refine lv_iconst (v := 4) hx hb dL_clear_19 (by decide) ?_
        refine lv_iload_n hx hb dL_clear_20 rfl (lv_at hl 3 rfl) ?_
        refine lv_imul hx hb dL_clear_21 ?_
        refine z_tv (v := nI (4 * ca)) (pk_mul 4 ca) ?_
        refine lv_iconst (v := 1) hx hb dL_clear_22 (by decide) ?_
        refine lv_iadd hx hb dL_clear_23 ?_
        refine z_tv (v := nI ((4 * ca) + 1)) (nI_1 (4 * ca)) ?_
        refine z_iald hx hb hK hP 2 rfl (zix_nI (by first | assumption | omega) (by decide)) dL_clear_24 ?_
        refine z_tv (v := fg ((4 * ca) + 1)) (rfl) ?_
        refine lv_iconst (v := 2) hx hb dL_clear_25 (by decide) ?_
        refine lv_icmp_eq (tgt := 52) hx hb dL_clear_26 (by decide) (fun c_26 => ?_) (fun c_26 => ?_)
        · skip
          refine lv_iconst (v := 1) hx hb dL_clear_52 (by decide) ?_
          refine lv_goto (tgt := 57) hx hb dL_clear_53 (by decide) ?_
          refine z_tv (v := if fg (4 * ca + 1) = 2 ∨ (fg (4 * ca + 1) = 1 ∧ fd (20 * ca + i) + 10 ≤ today) then (1 : Int32) else 0) (by grind) ?_
          exact J57_2 _ (lv_sub hl [0, 1, 2, 3, 4, 5] rfl)
        · skip
          refine lv_aload_n hx hb dL_clear_29 rfl (lv_at hl 2 rfl) ?_
          refine lv_iconst (v := 4) hx hb dL_clear_30 (by decide) ?_
          refine lv_iload_n hx hb dL_clear_31 rfl (lv_at hl 3 rfl) ?_
          refine lv_imul hx hb dL_clear_32 ?_
          refine z_tv (v := nI (4 * ca)) (pk_mul 4 ca) ?_
          refine lv_iconst (v := 1) hx hb dL_clear_33 (by decide) ?_
          refine lv_iadd hx hb dL_clear_34 ?_
          refine z_tv (v := nI ((4 * ca) + 1)) (nI_1 (4 * ca)) ?_
          refine z_iald hx hb hK hP 2 rfl (zix_nI (by first | assumption | omega) (by decide)) dL_clear_35 ?_
          refine z_tv (v := fg ((4 * ca) + 1)) (rfl) ?_
          refine lv_iconst (v := 1) hx hb dL_clear_36 (by decide) ?_
          refine lv_icmp_ne (tgt := 56) hx hb dL_clear_37 (by decide) (fun c_37 => ?_) (fun c_37 => ?_)
          · skip
            refine lv_iconst (v := 0) hx hb dL_clear_56 (by decide) ?_
            refine z_tv (v := if fg (4 * ca + 1) = 2 ∨ (fg (4 * ca + 1) = 1 ∧ fd (20 * ca + i) + 10 ≤ today) then (1 : Int32) else 0) (by grind) ?_
            exact J57_2 _ (lv_sub hl [0, 1, 2, 3, 4, 5] rfl)
          · skip
            refine lv_aload_n hx hb dL_clear_40 rfl (lv_at hl 1 rfl) ?_
            refine lv_iload hx hb dL_clear_41 (lv_at hl 5 rfl) ?_
            refine z_iald hx hb hK hP 1 rfl (zix_nI (by first | assumption | omega) (by decide)) dL_clear_43 ?_
            refine z_tv (v := fd (20 * ca + i)) (rfl) ?_
            refine lv_bipush (v := 10) hx hb dL_clear_44 (by decide) ?_
            refine lv_iadd hx hb dL_clear_46 ?_
            refine lv_iload hx hb dL_clear_47 (lv_at hl 4 rfl) ?_
            refine lv_icmp_gt (tgt := 56) hx hb dL_clear_49 (by decide) (fun c_49 => ?_) (fun c_49 => ?_)
            · skip
              refine lv_iconst (v := 0) hx hb dL_clear_56 (by decide) ?_
              refine z_tv (v := if fg (4 * ca + 1) = 2 ∨ (fg (4 * ca + 1) = 1 ∧ fd (20 * ca + i) + 10 ≤ today) then (1 : Int32) else 0) (by grind) ?_
              exact J57_2 _ (lv_sub hl [0, 1, 2, 3, 4, 5] rfl)
            · skip
              refine lv_iconst (v := 1) hx hb dL_clear_52 (by decide) ?_
              refine lv_goto (tgt := 57) hx hb dL_clear_53 (by decide) ?_
              refine z_tv (v := if fg (4 * ca + 1) = 2 ∨ (fg (4 * ca + 1) = 1 ∧ fd (20 * ca + i) + 10 ≤ today) then (1 : Int32) else 0) (by grind) ?_
              exact J57_2 _ (lv_sub hl [0, 1, 2, 3, 4, 5] rfl)
  exact LOOP1 (20 + 1) 0 (by omega) (by omega)  _ _ (zP_eq hP (zw_a (zcl_0) (zw_k (zw_k (rfl))))) (zD_eq hD (zw_a (zcl_0) (zw_k (zw_k (rfl))))) hS _ (lv_cg (lv_sub (l' := [(0, .ref ay), (1, .ref ad), (2, .ref ag), (3, .int (nI ca)), (4, .int today), (5, .int (nI (20 * ca)))]) hl [1, 2, 3, 4, 5, 0] rfl) (zl_k (zl_k (zl_k (zl_k (zl_k (zl_c (rfl) (rfl))))))))
set_option maxHeartbeats 8000000 in
set_option maxRecDepth 100000 in
/-- all -/
theorem kL_all (l : Launch) (dC : Nat → ClassId) (dI : Nat → Nat → Nat) (cI cZ cH cJ : ClassId) (x0 : Nat) (xq : Nat) (now : Int32) (xg : Nat → Option Nat) (had : Nat → Nat → Nat) (hg : ∀ i, i < 4 → xg i = some (had i 0)) (σ : Nat → zHS) (hho : ∀ c, c < 4 → hHo (σ c) = 0 ∨ hHo (σ c) = 1) : Met l yL_all wsL_all ({ frames := 3, cells := 0, slots := 0, locals := 67 }) (zRc dC dI (zTy cI cZ cH cJ) [.ref x0] (zOb cI cZ cH x0 xq xg had now σ)) (zSl (zall now σ 4)) 0 0 (fun _ => False) := by
  refine Met.ofW (cc := cL_all) (maxL := 4) (ret := (some .long)) (by decide) rfl ?_
  intro p e s m args below meth c s₁ B hml hv0
  obtain ⟨rfl, hP, hK⟩ := hv0
  have hx := B.exec
  have hb := B.bytes
  have hr := B.returns
  have hts := atoms_spec (ws := wsL_all) B.pre
  have hown : s.vm.findClass RL = some m.cls := findClass_of_methodNamed B.named
  have hlocks := B.notSynchronized
  have hl := lv_entry ([.ref x0]) (n := 4) (Nat.le_of_ble_eq_true rfl)
  rw [lg_entry_eq]
  generalize (lg_sl ([.ref x0]) ++ List.replicate (4 - (lg_sl ([.ref x0])).length) Slot.unset).toArray = ls at hl ⊢
  have hl : lv_has ls 4 [(0, .ref x0)] := hl
  refine lv_aload_n hx hb dL_all_0 rfl (lv_at hl 0 rfl) ?_
  refine z_cRi (va_runV (As := []) (rest := []) ⟨hx, hb, hml, hown, hts⟩ (c_today l dC dI cI cZ cH cJ x0 xq now xg had hg σ) (cwV 0 hts gL_all_X3_today rfl rfl rfl (by decide +kernel) ⟨Nat.le_of_ble_eq_true rfl, Nat.le_of_ble_eq_true rfl⟩) (zPreR1 hK hP (zrecv hK hP)) rfl rfl hl.1 rfl (lv_room (Nat.le_of_ble_eq_true rfl)) dL_all_1 ⟨Nat.le_of_ble_eq_true rfl, Nat.le_of_ble_eq_true rfl⟩) ?_
  refine z_tv (v := now) rfl ?_
  refine lv_i2l (v := (now).toInt64) hx hb dL_all_4 rfl ?_
  refine lv_lstore_n (lv' := [(1, .long ((now).toInt64)), (0, .ref x0)]) hx hb dL_all_5 rfl hl (by decide) rfl (fun ls hl => ?_)
  refine lv_iconst (v := 0) hx hb dL_all_6 (by decide) ?_
  refine lv_istore_n (lv' := [(3, .int 0), (1, .long ((now).toInt64)), (0, .ref x0)]) hx hb dL_all_7 rfl hl (by decide) rfl (fun ls hl => ?_)
  have LOOP1 : ∀ (n1 i : Nat), i ≤ 4 → 4 < i + n1 → ∀ (ls : Array Slot), lv_has ls 4 [(0, .ref x0), (1, .long (zall now σ i)), (3, .int (nI i))] → W p l e (headSpec wsL_all ({ frames := 3, cells := 0, slots := 0, locals := 67 })).room s m ([.ref x0] : List Value).toArray below meth c s.heap [] (0) (0) (MQ below (zSl (zall now σ 4)) ([.ref x0] : List Value).toArray s 0 0 (fun _ => False)) (F0 m 8 ls []) := by
    intro n1
    induction n1 with
    | zero => intro i h1 h2; exact absurd h2 (by omega)
    | succ n1 ih1 =>
      intro i hi hin   ls hl
      refine lv_iload_n hx hb dL_all_8 rfl (lv_at hl 2 rfl) ?_
      refine lv_iconst (v := 4) hx hb dL_all_9 (by decide) ?_
      refine lv_icmp_ge (tgt := 92) hx hb dL_all_10 (by decide) (fun c_10 => ?_) (fun c_10 => ?_)
      · skip
        have e20 : i = 4 := z_ge (n := 4) hi (by decide) c_10
        subst e20
        refine lv_lload_n hx hb dL_all_92 rfl (lv_at hl 1 rfl) ?_
        exact W.lret hx hb hr (fun t ht hW => ⟨rfl, ht⟩) (fun _ h => nomatch h) dL_all_93
      · skip
        have hlt : i < 4 := z_lt (n := 4) hi (by decide) c_10
        refine lv_ldc2 (v := 1000003) hx hb hown (hts (.constantLong RL 71 (1000003)) (by decide +kernel)) dL_all_13 ?_
        refine lv_lload_n hx hb dL_all_16 rfl (lv_at hl 1 rfl) ?_
        refine lv_lmul hx hb dL_all_17 ?_
        refine lv_aload_n hx hb dL_all_18 rfl (lv_at hl 0 rfl) ?_
        refine lv_iload_n hx hb dL_all_19 rfl (lv_at hl 2 rfl) ?_
        refine z_cRi (va_runV (As := [.int (nI i)]) (rest := [.long (1000003 * (zall now σ i))]) ⟨hx, hb, hml, hown, hts⟩ (c_far l dC dI cI cZ cH cJ x0 xq now xg had hg σ i (by first | assumption | omega)) (cwV 1 hts gL_all_X3_far rfl rfl rfl (by decide +kernel) ⟨Nat.le_of_ble_eq_true rfl, Nat.le_of_ble_eq_true rfl⟩) (zPreR1 hK hP (zrecv hK hP)) rfl rfl hl.1 rfl (lv_room (Nat.le_of_ble_eq_true rfl)) dL_all_20 ⟨Nat.le_of_ble_eq_true rfl, Nat.le_of_ble_eq_true rfl⟩) ?_
        refine z_tv (v := zcnt (hFT (σ i)) 20) rfl ?_
        refine lv_i2l (v := (zcnt (hFT (σ i)) 20).toInt64) hx hb dL_all_23 rfl ?_
        refine lv_ladd hx hb dL_all_24 ?_
        refine lv_ldc2 (v := 31) hx hb hown (hts (.constantLong RL 73 (31)) (by decide +kernel)) dL_all_25 ?_
        refine lv_aload_n hx hb dL_all_28 rfl (lv_at hl 0 rfl) ?_
        refine lv_iload_n hx hb dL_all_29 rfl (lv_at hl 2 rfl) ?_
        refine z_cRi (va_runV (As := [.int (nI i)]) (rest := [.long 31, .long ((1000003 * (zall now σ i)) + ((zcnt (hFT (σ i)) 20).toInt64))]) ⟨hx, hb, hml, hown, hts⟩ (c_told l dC dI cI cZ cH cJ x0 xq now xg had hg σ i (by first | assumption | omega)) (cwV 1 hts gL_all_X3_told rfl rfl rfl (by decide +kernel) ⟨Nat.le_of_ble_eq_true rfl, Nat.le_of_ble_eq_true rfl⟩) (zPreR1 hK hP (zrecv hK hP)) rfl rfl hl.1 rfl (lv_room (Nat.le_of_ble_eq_true rfl)) dL_all_30 ⟨Nat.le_of_ble_eq_true rfl, Nat.le_of_ble_eq_true rfl⟩) ?_
        refine z_tv (v := zcnt (hIT (σ i)) 20) rfl ?_
        refine lv_i2l (v := (zcnt (hIT (σ i)) 20).toInt64) hx hb dL_all_33 rfl ?_
        refine lv_lmul hx hb dL_all_34 ?_
        refine lv_ladd hx hb dL_all_35 ?_
        refine lv_ldc2 (v := 1009) hx hb hown (hts (.constantLong RL 75 (1009)) (by decide +kernel)) dL_all_36 ?_
        refine lv_aload_n hx hb dL_all_39 rfl (lv_at hl 0 rfl) ?_
        refine lv_iload_n hx hb dL_all_40 rfl (lv_at hl 2 rfl) ?_
        refine z_cRi (va_runV (As := [.int (nI i)]) (rest := [.long 1009, .long (((1000003 * (zall now σ i)) + ((zcnt (hFT (σ i)) 20).toInt64)) + (31 * ((zcnt (hIT (σ i)) 20).toInt64)))]) ⟨hx, hb, hml, hown, hts⟩ (c_held l dC dI cI cZ cH cJ x0 xq now xg had hg σ i (by first | assumption | omega)) (cwV 1 hts gL_all_X3_held rfl rfl rfl (by decide +kernel) ⟨Nat.le_of_ble_eq_true rfl, Nat.le_of_ble_eq_true rfl⟩) (zPreR1 hK hP (zrecv hK hP)) rfl rfl hl.1 rfl (lv_room (Nat.le_of_ble_eq_true rfl)) dL_all_41 ⟨Nat.le_of_ble_eq_true rfl, Nat.le_of_ble_eq_true rfl⟩) ?_
        refine z_tv (v := zcnt (hST (σ i)) 20) rfl ?_
        refine lv_i2l (v := (zcnt (hST (σ i)) 20).toInt64) hx hb dL_all_44 rfl ?_
        refine lv_lmul hx hb dL_all_45 ?_
        refine lv_ladd hx hb dL_all_46 ?_
        refine lv_ldc2 (v := 65537) hx hb hown (hts (.constantLong RL 77 (65537)) (by decide +kernel)) dL_all_47 ?_
        refine lv_aload_n hx hb dL_all_50 rfl (lv_at hl 0 rfl) ?_
        refine lv_iload_n hx hb dL_all_51 rfl (lv_at hl 2 rfl) ?_
        refine z_cRi (va_runV (As := [.int (nI i)]) (rest := [.long 65537, .long ((((1000003 * (zall now σ i)) + ((zcnt (hFT (σ i)) 20).toInt64)) + (31 * ((zcnt (hIT (σ i)) 20).toInt64))) + (1009 * ((zcnt (hST (σ i)) 20).toInt64)))]) ⟨hx, hb, hml, hown, hts⟩ (c_wrong l dC dI cI cZ cH cJ x0 xq now xg had hg σ i (by first | assumption | omega)) (cwV 1 hts gL_all_X3_wrong rfl rfl rfl (by decide +kernel) ⟨Nat.le_of_ble_eq_true rfl, Nat.le_of_ble_eq_true rfl⟩) (zPreR1 hK hP (zrecv hK hP)) rfl rfl hl.1 rfl (lv_room (Nat.le_of_ble_eq_true rfl)) dL_all_52 ⟨Nat.le_of_ble_eq_true rfl, Nat.le_of_ble_eq_true rfl⟩) ?_
        refine z_tv (v := zcu (hST (σ i)) (hSW (σ i)) (hSV (σ i)) (hSS (σ i)) (hFT (σ i)) (hFW (σ i)) (hFV (σ i)) (hFS (σ i)) 20) rfl ?_
        refine lv_i2l (v := (zcu (hST (σ i)) (hSW (σ i)) (hSV (σ i)) (hSS (σ i)) (hFT (σ i)) (hFW (σ i)) (hFV (σ i)) (hFS (σ i)) 20).toInt64) hx hb dL_all_55 rfl ?_
        refine lv_lmul hx hb dL_all_56 ?_
        refine lv_ladd hx hb dL_all_57 ?_
        refine lv_ldc2 (v := 7) hx hb hown (hts (.constantLong RL 79 (7)) (by decide +kernel)) dL_all_58 ?_
        refine lv_aload_n hx hb dL_all_61 rfl (lv_at hl 0 rfl) ?_
        refine lv_iload_n hx hb dL_all_62 rfl (lv_at hl 2 rfl) ?_
        refine z_cRi (va_runV (As := [.int (nI i)]) (rest := [.long 7, .long (((((1000003 * (zall now σ i)) + ((zcnt (hFT (σ i)) 20).toInt64)) + (31 * ((zcnt (hIT (σ i)) 20).toInt64))) + (1009 * ((zcnt (hST (σ i)) 20).toInt64))) + (65537 * ((zcu (hST (σ i)) (hSW (σ i)) (hSV (σ i)) (hSS (σ i)) (hFT (σ i)) (hFW (σ i)) (hFV (σ i)) (hFS (σ i)) 20).toInt64)))]) ⟨hx, hb, hml, hown, hts⟩ (c_mark l dC dI cI cZ cH cJ x0 xq now xg had hg σ i (by first | assumption | omega)) (cwV 1 hts gL_all_X3_mark rfl rfl rfl (by decide +kernel) ⟨Nat.le_of_ble_eq_true rfl, Nat.le_of_ble_eq_true rfl⟩) (zPreR1 hK hP (zrecv hK hP)) rfl rfl hl.1 rfl (lv_room (Nat.le_of_ble_eq_true rfl)) dL_all_63 ⟨Nat.le_of_ble_eq_true rfl, Nat.le_of_ble_eq_true rfl⟩) ?_
        refine z_tv (v := hMk (σ i)) rfl ?_
        refine lv_i2l (v := (hMk (σ i)).toInt64) hx hb dL_all_66 rfl ?_
        refine lv_lmul hx hb dL_all_67 ?_
        refine lv_ladd hx hb dL_all_68 ?_
        refine lv_aload_n hx hb dL_all_69 rfl (lv_at hl 0 rfl) ?_
        refine lv_iload_n hx hb dL_all_70 rfl (lv_at hl 2 rfl) ?_
        refine z_cRi (va_runV (As := [.int (nI i)]) (rest := [.long ((((((1000003 * (zall now σ i)) + ((zcnt (hFT (σ i)) 20).toInt64)) + (31 * ((zcnt (hIT (σ i)) 20).toInt64))) + (1009 * ((zcnt (hST (σ i)) 20).toInt64))) + (65537 * ((zcu (hST (σ i)) (hSW (σ i)) (hSV (σ i)) (hSS (σ i)) (hFT (σ i)) (hFW (σ i)) (hFV (σ i)) (hFS (σ i)) 20).toInt64))) + (7 * ((hMk (σ i)).toInt64)))]) ⟨hx, hb, hml, hown, hts⟩ (c_isOpen l dC dI cI cZ cH cJ x0 xq now xg had hg σ i (by first | assumption | omega) (hho i hlt)) (cwV 1 hts gL_all_X3_isOpen rfl rfl rfl (by decide +kernel) ⟨Nat.le_of_ble_eq_true rfl, Nat.le_of_ble_eq_true rfl⟩) (zPreR1 hK hP (zrecv hK hP)) rfl rfl hl.1 rfl (lv_room (Nat.le_of_ble_eq_true rfl)) dL_all_71 ⟨Nat.le_of_ble_eq_true rfl, Nat.le_of_ble_eq_true rfl⟩) ?_
        refine z_tv (v := hHo (σ i)) rfl ?_
        have J84 : W p l e (headSpec wsL_all ({ frames := 3, cells := 0, slots := 0, locals := 67 })).room s m ([.ref x0] : List Value).toArray below meth c s.heap [] 0 0 (MQ below (zSl (zall now σ 4)) ([.ref x0] : List Value).toArray s 0 0 (fun _ => False)) (F0 m 84 ls [.long (if hHo (σ i) = 0 then 0 else 3), .long ((((((1000003 * (zall now σ i)) + ((zcnt (hFT (σ i)) 20).toInt64)) + (31 * ((zcnt (hIT (σ i)) 20).toInt64))) + (1009 * ((zcnt (hST (σ i)) 20).toInt64))) + (65537 * ((zcu (hST (σ i)) (hSW (σ i)) (hSV (σ i)) (hSS (σ i)) (hFT (σ i)) (hFW (σ i)) (hFV (σ i)) (hFS (σ i)) 20).toInt64))) + (7 * ((hMk (σ i)).toInt64)))]) := by
          refine lv_ladd hx hb dL_all_84 ?_
          refine lv_lstore_n (lv' := [(1, .long (((((((1000003 * (zall now σ i)) + ((zcnt (hFT (σ i)) 20).toInt64)) + (31 * ((zcnt (hIT (σ i)) 20).toInt64))) + (1009 * ((zcnt (hST (σ i)) 20).toInt64))) + (65537 * ((zcu (hST (σ i)) (hSW (σ i)) (hSV (σ i)) (hSS (σ i)) (hFT (σ i)) (hFW (σ i)) (hFV (σ i)) (hFS (σ i)) 20).toInt64))) + (7 * ((hMk (σ i)).toInt64))) + (if hHo (σ i) = 0 then 0 else 3))), (0, .ref x0), (3, .int (nI i))]) hx hb dL_all_85 rfl hl (by decide) rfl (fun ls hl => ?_)
          refine lv_iinc (v := nI (i + 1)) (lv' := [(3, .int (nI (i + 1))), (1, .long (((((((1000003 * (zall now σ i)) + ((zcnt (hFT (σ i)) 20).toInt64)) + (31 * ((zcnt (hIT (σ i)) 20).toInt64))) + (1009 * ((zcnt (hST (σ i)) 20).toInt64))) + (65537 * ((zcu (hST (σ i)) (hSW (σ i)) (hSV (σ i)) (hSS (σ i)) (hFT (σ i)) (hFW (σ i)) (hFV (σ i)) (hFS (σ i)) 20).toInt64))) + (7 * ((hMk (σ i)).toInt64))) + (if hHo (σ i) = 0 then 0 else 3))), (0, .ref x0)]) hx hb dL_all_86 hl (k := 2) rfl (z_1) (by decide) rfl (fun ls hl => ?_)
          refine lv_goto (tgt := 8) hx hb dL_all_89 (by decide) ?_
          exact ih1 (i + 1) (by omega) (by omega)  _ (lv_cg (lv_sub (l' := [(0, .ref x0), (1, .long (((((((1000003 * (zall now σ i)) + ((zcnt (hFT (σ i)) 20).toInt64)) + (31 * ((zcnt (hIT (σ i)) 20).toInt64))) + (1009 * ((zcnt (hST (σ i)) 20).toInt64))) + (65537 * ((zcu (hST (σ i)) (hSW (σ i)) (hSV (σ i)) (hSS (σ i)) (hFT (σ i)) (hFW (σ i)) (hFV (σ i)) (hFS (σ i)) 20).toInt64))) + (7 * ((hMk (σ i)).toInt64))) + (if hHo (σ i) = 0 then 0 else 3))), (3, .int (nI (i + 1)))]) hl [2, 1, 0] rfl) (zl_k (zl_cl (rfl) (zl_k (rfl)))))
        refine lv_if_eq (tgt := 83) hx hb dL_all_74 (by decide) (fun c_74 => ?_) (fun c_74 => ?_)
        · skip
          refine lv_lconst (v := 0) hx hb dL_all_83 rfl ?_
          refine z_tvl (v := if hHo (σ i) = 0 then 0 else 3) (z_l2 c_74) ?_
          exact J84
        · skip
          refine lv_ldc2 (v := 3) hx hb hown (hts (.constantLong RL 81 (3)) (by decide +kernel)) dL_all_77 ?_
          refine lv_goto (tgt := 84) hx hb dL_all_80 (by decide) ?_
          refine z_tvl (v := if hHo (σ i) = 0 then 0 else 3) (z_l3 c_74) ?_
          exact J84
  exact LOOP1 (4 + 1) 0 (by omega) (by omega)  _ (lv_cg (lv_sub (l' := [(0, .ref x0), (1, .long ((now).toInt64)), (3, .int 0)]) hl [2, 1, 0] rfl) (zl_k (zl_cl (rfl) (zl_c (rfl) (rfl)))))
