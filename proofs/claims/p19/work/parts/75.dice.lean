def zdice (xs : Nat → Int32) (L k : Nat) : Int32 := (if k < L then xs k else nI (((1955562222 * (k + 163)) + ((565 * k) * k)) + 67)) &&& 2147483647
def zDc (b L : Nat) (xs : Nat → Int32) (av : List Value) : Array Value → State → Prop := va_Pc av (fun U => va_X b L xs U U.heap ∧ b < U.heap.size)
theorem zDc_blind {b L : Nat} {xs : Nat → Int32} {av : List Value} : FrameBlind (zDc b L xs av) := fun a U g mk q => ⟨q.1, va_X.moved (u := U) (U := U.calling g mk a) (Vm.Alike.refl U.vm) q.2.1, q.2.2⟩
theorem zPreD {b L : Nat} {xs : Nat → Int32} {s : State} {H : Heap} {A : Nat → Prop} {locs : List Loc} {As : List Value} (hX : va_X b L xs s s.heap) (hbl : b < s.heap.size) (hbA : ¬ A b) (hS : va_S A s.heap H locs) : PreS s H (zDc b L xs As) As :=
  ⟨zDc_blind, fun U hU hW => ⟨rfl, by rw [hU]; exact va_X.moved hW.alike (hX.kept (hS.2.1 b hbl hbA)), by rw [hU]; exact Nat.lt_of_lt_of_le hbl hS.1⟩⟩
set_option maxHeartbeats 4000000 in
set_option maxRecDepth 100000 in
/-- dice -/
theorem kL_dice (l : Launch) (b L : Nat) (xs : Nat → Int32) (hL : L ≤ 260) (k : Nat) (hk : k < 120) : Met l yL_dice wsL_dice ({ frames := 0, cells := 0, slots := 0, locals := 0 }) (zDc b L xs [.ref b, .int (nI k)]) (zSi (zdice xs L k)) 0 0 (fun _ => False) := by
  refine Met.ofW (cc := cL_dice) (maxL := 2) (ret := (some .int)) (by decide) rfl ?_
  intro p e s m args below meth c s₁ B hml hv0
  obtain ⟨rfl, hX, hbl⟩ := hv0
  have hx := B.exec
  have hb := B.bytes
  have hr := B.returns
  have hts := atoms_spec (ws := wsL_dice) B.pre
  have hown : s.vm.findClass RL = some m.cls := findClass_of_methodNamed B.named
  have hlocks := B.notSynchronized
  have hS : va_S (fun _ : Nat => False) s.heap s.heap [] := va_S.rf
  have hl := lv_entry ([.ref b, .int (nI k)]) (n := 2) (Nat.le_of_ble_eq_true rfl)
  rw [lg_entry_eq]
  generalize (lg_sl ([.ref b, .int (nI k)]) ++ List.replicate (2 - (lg_sl ([.ref b, .int (nI k)])).length) Slot.unset).toArray = ls at hl ⊢
  have hl : lv_has ls 2 [(0, .ref b), (1, .int (nI k))] := hl
  unfold zdice
  refine lv_iload_n hx hb dL_dice_0 rfl (lv_at hl 1 rfl) ?_
  refine lv_aload_n hx hb dL_dice_1 rfl (lv_at hl 0 rfl) ?_
  refine va_slen hx hb hX hbl (fun h => h) hS dL_dice_2 ?_
  refine z_tv (v := nI L) rfl ?_
  refine lv_icmp_ge (tgt := 12) hx hb dL_dice_3 (by decide) (fun c_3 => ?_) (fun c_3 => ?_)
  · skip
    have hkL : ¬ k < L := Nat.not_lt.mpr ((nI_leI (by omega) (by omega)).mp c_3)
    refine lv_ldc (v := 1955562222) hx hb hown (hts (.constant RL 7 (1955562222)) (by decide +kernel)) dL_dice_12 ?_
    refine lv_iload_n hx hb dL_dice_14 rfl (lv_at hl 1 rfl) ?_
    refine lv_sipush (v := 163) hx hb dL_dice_15 (by decide) ?_
    refine lv_iadd hx hb dL_dice_18 ?_
    refine z_tv (v := nI (k + 163)) (nI_add k 163) ?_
    refine lv_imul hx hb dL_dice_19 ?_
    refine z_tv (v := nI (1955562222 * (k + 163))) (pk_mul 1955562222 (k + 163)) ?_
    refine lv_sipush (v := 565) hx hb dL_dice_20 (by decide) ?_
    refine lv_iload_n hx hb dL_dice_23 rfl (lv_at hl 1 rfl) ?_
    refine lv_imul hx hb dL_dice_24 ?_
    refine z_tv (v := nI (565 * k)) (pk_mul 565 k) ?_
    refine lv_iload_n hx hb dL_dice_25 rfl (lv_at hl 1 rfl) ?_
    refine lv_imul hx hb dL_dice_26 ?_
    refine z_tv (v := nI ((565 * k) * k)) (pk_mul (565 * k) k) ?_
    refine lv_iadd hx hb dL_dice_27 ?_
    refine z_tv (v := nI ((1955562222 * (k + 163)) + ((565 * k) * k))) (nI_add (1955562222 * (k + 163)) ((565 * k) * k)) ?_
    refine lv_bipush (v := 67) hx hb dL_dice_28 (by decide) ?_
    refine lv_iadd hx hb dL_dice_30 ?_
    refine z_tv (v := nI (((1955562222 * (k + 163)) + ((565 * k) * k)) + 67)) (nI_add ((1955562222 * (k + 163)) + ((565 * k) * k)) 67) ?_
    refine z_tv (v := if k < L then xs k else nI (((1955562222 * (k + 163)) + ((565 * k) * k)) + 67)) (by first | rw [if_pos hkL] | rw [if_neg hkL]) ?_
    refine lv_ldc (v := 2147483647) hx hb hown (hts (.constant RL 8 (2147483647)) (by decide +kernel)) dL_dice_31 ?_
    refine lv_iand hx hb dL_dice_33 ?_
    exact W.iret hx hb hr (fun t ht hW => ⟨rfl, ht⟩) (fun _ h => nomatch h) dL_dice_34
  · skip
    have hkL : k < L := by
      rcases Nat.lt_or_ge k L with q | q
      · exact q
      · exact absurd (nI_le q (by omega)) c_3
    refine lv_aload_n hx hb dL_dice_6 rfl (lv_at hl 0 rfl) ?_
    refine lv_iload_n hx hb dL_dice_7 rfl (lv_at hl 1 rfl) ?_
    refine va_sld hx hb hX hbl (fun h => h) hS (vp_in_nI hkL (by omega)) dL_dice_8 ?_
    refine z_tv (v := xs k) (congrArg xs (nI_clamp (by omega))) ?_
    refine lv_goto (tgt := 31) hx hb dL_dice_9 (by decide) ?_
    refine z_tv (v := if k < L then xs k else nI (((1955562222 * (k + 163)) + ((565 * k) * k)) + 67)) (by first | rw [if_pos hkL] | rw [if_neg hkL]) ?_
    refine lv_ldc (v := 2147483647) hx hb hown (hts (.constant RL 8 (2147483647)) (by decide +kernel)) dL_dice_31 ?_
    refine lv_iand hx hb dL_dice_33 ?_
    exact W.iret hx hb hr (fun t ht hW => ⟨rfl, ht⟩) (fun _ h => nomatch h) dL_dice_34
