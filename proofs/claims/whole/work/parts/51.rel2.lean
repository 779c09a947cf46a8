theorem r_far {ca : Nat} {mk ho fl od td ps pr un de : Int32} {tk iT tS rD sT sW sV sS fT fW fV fS : zI} {uU uY uK uW uV uS uR uM uO uF uG uE uD uP uQ uH xW xV xS uN : zI} (h : zRel ca mk ho fl od td ps pr un de tk iT tS rD sT sW sV sS fT fW fV fS uU uY uK uW uV uS uR uM uO uF uG uE uD uP uQ uH xW xV xS uN) : ∀ n, n ≤ 20 → zcnt fT n = ycnt uK 1 (20 * ca) n
  | 0, _ => rfl
  | n + 1, hn => by
    have ih := r_far h n (by omega)
    have h4 := h.2.2 n (by omega)
    unfold zRr at h4
    unfold zcnt ycnt
    rw [ih]
    grind
theorem r_told {ca : Nat} {mk ho fl od td ps pr un de : Int32} {tk iT tS rD sT sW sV sS fT fW fV fS : zI} {uU uY uK uW uV uS uR uM uO uF uG uE uD uP uQ uH xW xV xS uN : zI} (h : zRel ca mk ho fl od td ps pr un de tk iT tS rD sT sW sV sS fT fW fV fS uU uY uK uW uV uS uR uM uO uF uG uE uD uP uQ uH xW xV xS uN) : ∀ n, n ≤ 20 → zcnt iT n = ycnt uK 2 (20 * ca) n
  | 0, _ => rfl
  | n + 1, hn => by
    have ih := r_told h n (by omega)
    have h4 := h.2.2 n (by omega)
    unfold zRr at h4
    unfold zcnt ycnt
    rw [ih]
    grind
theorem r_held {ca : Nat} {mk ho fl od td ps pr un de : Int32} {tk iT tS rD sT sW sV sS fT fW fV fS : zI} {uU uY uK uW uV uS uR uM uO uF uG uE uD uP uQ uH xW xV xS uN : zI} (h : zRel ca mk ho fl od td ps pr un de tk iT tS rD sT sW sV sS fT fW fV fS uU uY uK uW uV uS uR uM uO uF uG uE uD uP uQ uH xW xV xS uN) : ∀ n, n ≤ 20 → zcnt sT n = yhld uH (20 * ca) n
  | 0, _ => rfl
  | n + 1, hn => by
    have ih := r_held h n (by omega)
    have h4 := h.2.2 n (by omega)
    unfold zRr at h4
    unfold zcnt yhld
    rw [ih]
    grind
theorem r_wrong {ca : Nat} {mk ho fl od td ps pr un de : Int32} {tk iT tS rD sT sW sV sS fT fW fV fS : zI} {uU uY uK uW uV uS uR uM uO uF uG uE uD uP uQ uH xW xV xS uN : zI} (h : zRel ca mk ho fl od td ps pr un de tk iT tS rD sT sW sV sS fT fW fV fS uU uY uK uW uV uS uR uM uO uF uG uE uD uP uQ uH xW xV xS uN) : ∀ n, n ≤ 20 → zcu sT sW sV sS fT fW fV fS n = ywr uK uH xW xV xS uW uV uS (20 * ca) n
  | 0, _ => rfl
  | n + 1, hn => by
    have ih := r_wrong h n (by omega)
    have h4 := h.2.2 n (by omega)
    unfold zRr at h4
    unfold zcu ywr
    rw [ih]
    unfold zlike yali
    grind
theorem r_stored {r0 : Nat} {ca : Nat} {mk ho fl od td ps pr un de : Int32} {tk iT tS rD sT sW sV sS fT fW fV fS : zI} {uU uY uK uW uV uS uR uM uO uF uG uE uD uP uQ uH xW xV xS uN : zI} (h : zRel ca mk ho fl od td ps pr un de tk iT tS rD sT sW sV sS fT fW fV fS uU uY uK uW uV uS uR uM uO uF uG uE uD uP uQ uH xW xV xS uN) (hr0 : r0 < 20) : (if sT r0 = 0 then (-1 : Int32) else sV r0) = if uH (20 * ca + r0) = 0 then (-1) else xV (20 * ca + r0) := by
  have h4 := h.2.2 r0 hr0
  unfold zRr at h4
  grind
theorem r_isOpen {ca : Nat} {mk ho fl od td ps pr un de : Int32} {tk iT tS rD sT sW sV sS fT fW fV fS : zI} {uU uY uK uW uV uS uR uM uO uF uG uE uD uP uQ uH xW xV xS uN : zI} (h : zRel ca mk ho fl od td ps pr un de tk iT tS rD sT sW sV sS fT fW fV fS uU uY uK uW uV uS uR uM uO uF uG uE uD uP uQ uH xW xV xS uN) : ho = if ¬ uO ca = 0 then (1 : Int32) else 0 := by
  obtain ⟨⟨a1, a2, a3, a4, a5, a6, a7, a8⟩, ⟨b1, b2, b3, b4, b5, b6⟩, h3⟩ := h
  rw [← a4]
  grind
theorem ysee_out {f : zI} {ca j r : Nat} (h : ¬ j = ca) (hr : r < 20) : ysee f (20 * ca) 20 (20 * j + r) = f (20 * j + r) := by
  unfold ysee
  rw [if_neg (zk_out h hr)]
theorem ysee_own {f : zI} {ca r : Nat} (hr : r < 20) : ysee f (20 * ca) 20 (20 * ca + r) = 0 := by
  unfold ysee
  rw [if_pos ⟨by omega, by omega⟩]
theorem zclr_own {f : zI} {r : Nat} (hr : r < 20) : zclr f 20 r = 0 := by
  unfold zclr
  rw [if_pos hr]
theorem r_open {now full : Int32} {ca : Nat} {mk ho fl od td ps pr un de : Int32} {tk iT tS rD sT sW sV sS fT fW fV fS : zI} {uU uY uK uW uV uS uR uM uO uF uG uE uD uP uQ uH xW xV xS uN : zI} (h : zRel ca mk ho fl od td ps pr un de tk iT tS rD sT sW sV sS fT fW fV fS uU uY uK uW uV uS uR uM uO uF uG uE uD uP uQ uH xW xV xS uN) (hn : zsm now) (hf : full = 0 ∨ full = 1) : (if full = 0 then mk else 0) = (if full = 0 then uM ca else 0) ∧ zRel ca mk 1 full now now (-1) (-1) un de (zclr tk 20) iT tS rD sT sW sV sS fT fW fV fS uU uY uK uW uV uS uR uM (upd uO ca 1) (upd uF ca full) (upd uG ca (if full = 0 then uM ca else 0)) (upd uE ca now) (upd uD ca now) (upd uP ca (-1)) (upd uQ ca (-1)) uH xW xV xS (ysee uN (20 * ca) 20) := by
  obtain ⟨⟨a1, a2, a3, a4, a5, a6, a7, a8⟩, ⟨b1, b2, b3, b4, b5, b6⟩, h3⟩ := h
  rw [← a3]
  refine ⟨rfl, ⟨a1, a2, a3, pk_u0.symm, pk_u0.symm, pk_u0.symm, pk_u0.symm, Or.inr ⟨pk_u0.symm, pk_u0.symm⟩⟩, ⟨hn, b2, b3, Or.inr rfl, hf, Or.inr pk_u0⟩, fun r hr => ?_⟩
  have h4 := h3 r hr
  unfold zRr at h4 ⊢
  rw [zclr_own hr, ysee_own hr]
  grind
theorem zsm_add {now d : Int32} (hn : zsm now) (hd : zin d 1 100 = 1) (hle : now + d ≤ 5000) : zsm (now + d) := by
  obtain ⟨a, ha, rfl⟩ := hn
  obtain ⟨h1, h2⟩ := zin_ok hd
  rw [Int32.lt_iff_toInt_lt] at h1
  have e1 : (1 : Int32).toInt = 1 := by decide
  have h0 : ¬ d < 0 := by
    rw [Int32.lt_iff_toInt_lt]
    have e0 : (0 : Int32).toInt = 0 := by decide
    omega
  obtain ⟨j, hj, rfl⟩ := nI_of2 (M := 100) (n := 100) (by decide) h0 h2
  rw [nI_add] at hle ⊢
  have := (nI_leI (a := a + j) (b := 5000) (by omega) (by decide)).mp hle
  exact ⟨a + j, this, rfl⟩
theorem yclrA_out {uK uR uY : zI} {now : Int32} {j r : Nat} (hr : r < 20) : ∀ n, n ≤ j → yclrA uK uR uY now n (20 * j + r) = uK (20 * j + r)
  | 0, _ => rfl
  | n + 1, hn => by
    unfold yclrA
    rw [yclr_out (by omega) hr]
    exact yclrA_out hr n (by omega)
theorem yclrA_own {uK uR uY : zI} {now : Int32} {j r : Nat} (hr : r < 20) : ∀ n, j < n → yclrA uK uR uY now n (20 * j + r) = if uK (20 * j + r) = 2 ∧ (uY j = 2 ∨ (uY j = 1 ∧ ¬ now - uR (20 * j + r) < 10)) then 0 else uK (20 * j + r)
  | 0, h => absurd h (Nat.not_lt_zero _)
  | n + 1, hn => by
    unfold yclrA
    by_cases q : j = n
    · subst q
      rw [yclr_own hr, yclrA_out hr j (Nat.le_refl _)]
    · rw [yclr_out q hr]
      exact yclrA_own hr n (by omega)
theorem r_pass {now' : Int32} {ca : Nat} {mk ho fl od td ps pr un de : Int32} {tk iT tS rD sT sW sV sS fT fW fV fS : zI} {uU uY uK uW uV uS uR uM uO uF uG uE uD uP uQ uH xW xV xS uN : zI} (h : zRel ca mk ho fl od td ps pr un de tk iT tS rD sT sW sV sS fT fW fV fS uU uY uK uW uV uS uR uM uO uF uG uE uD uP uQ uH xW xV xS uN) (hca : ca < 4) : zRel ca mk ho fl od td ps pr un de tk (zfg iT rD de now' 20) tS rD sT sW sV sS fT fW fV fS uU uY (yclrA uK uR uY now' 4) uW uV uS uR uM uO uF uG uE uD uP uQ uH xW xV xS uN := by
  obtain ⟨⟨a1, a2, a3, a4, a5, a6, a7, a8⟩, ⟨b1, b2, b3, b4, b5, b6⟩, h3⟩ := h
  refine ⟨⟨a1, a2, a3, a4, a5, a6, a7, a8⟩, ⟨b1, b2, b3, b4, b5, b6⟩, fun r hr => ?_⟩
  have h4 := h3 r hr
  unfold zRr at h4 ⊢
  rw [yclrA_own hr 4 hca, ← a2]
  have e : zfg iT rD de now' 20 r = if de = 2 ∨ (de = 1 ∧ ¬ now' - rD r < 10) then 0 else iT r := by
    unfold zfg
    by_cases q : de = 2 ∨ (de = 1 ∧ ¬ now' - rD r < 10)
    · rw [if_pos q, if_pos ⟨hr, q⟩]
    · rw [if_neg q, if_neg (fun z => q z.2)]
  rw [e]
  grind
theorem r_cop {w : Int32} {ca : Nat} {mk ho fl od td ps pr un de : Int32} {tk iT tS rD sT sW sV sS fT fW fV fS : zI} {uU uY uK uW uV uS uR uM uO uF uG uE uD uP uQ uH xW xV xS uN : zI} (h : zRel ca mk ho fl od td ps pr un de tk iT tS rD sT sW sV sS fT fW fV fS uU uY uK uW uV uS uR uM uO uF uG uE uD uP uQ uH xW xV xS uN) : ∀ n, n ≤ 20 → ycop uH xW w (20 * ca + n) = ycop uH xW w (20 * ca) + zcow sT sW w n
  | 0, _ => by
    show ycop uH xW w (20 * ca) = ycop uH xW w (20 * ca) + 0
    rw [Int32.add_zero]
  | n + 1, hn => by
    have ih := r_cop (w := w) h n (by omega)
    have h4 := h.2.2 n (by omega)
    unfold zRr at h4
    rw [← Nat.add_assoc, ycop, zcow, ih]
    have e : (¬ uH (20 * ca + n) = 0 ∧ xW (20 * ca + n) = w) ↔ (¬ sT n = 0 ∧ sW n = w) := by grind
    by_cases q1 : sT n = 0
    · rw [if_neg (fun z => (e.mp z).1 q1), if_pos q1, Int32.add_zero]
    · by_cases q2 : sW n = w
      · rw [if_pos (e.mpr ⟨q1, q2⟩), if_neg q1, if_pos q2, Int32.add_assoc]
      · rw [if_neg (fun z => q2 (e.mp z).2), if_neg q1, if_neg q2, Int32.add_zero]
/-- the best so far: of the class (number and stamp), of the reference (place) -/
def zBR (xS : zI) (p : Int32 × Int32) (f : Int32) : Prop := (p = (-1, -1) ∧ f = -1) ∨ ∃ c r : Nat, c < 4 ∧ r < 20 ∧ f = nI (20 * c + r) ∧ p.1 = nI (100 * c + r) ∧ p.2 = xS (20 * c + r) ∧ 0 ≤ p.2
theorem zle_i (a b : Int32) : a ≤ b ↔ a.toInt ≤ b.toInt := Int32.le_iff_toInt_le
theorem r_bst {w : Int32} {p : Int32 × Int32} {ca : Nat} {mk ho fl od td ps pr un de : Int32} {tk iT tS rD sT sW sV sS fT fW fV fS : zI} {uU uY uK uW uV uS uR uM uO uF uG uE uD uP uQ uH xW xV xS uN : zI} (h : zRel ca mk ho fl od td ps pr un de tk iT tS rD sT sW sV sS fT fW fV fS uU uY uK uW uV uS uR uM uO uF uG uE uD uP uQ uH xW xV xS uN) (hca : ca < 4) (hb : zBR xS p (ybst uH xW xS w (20 * ca))) : ∀ n, n ≤ 20 →
    ((zlat sT sW sS w n) = (-1, -1) ∧ ybst uH xW xS w (20 * ca + n) = ybst uH xW xS w (20 * ca)) ∨
    ∃ r, r < n ∧ zlat sT sW sS w n = (nI r, sS r) ∧ xS (20 * ca + r) = sS r ∧ 0 ≤ sS r ∧ ybst uH xW xS w (20 * ca + n) = if sS r ≤ p.2 then ybst uH xW xS w (20 * ca) else nI (20 * ca + r)
  | 0, _ => Or.inl ⟨rfl, rfl⟩
  | n + 1, hn => by
    have ih := r_bst (w := w) (p := p) h hca hb n (by omega)
    have h4 := h.2.2 n (by omega)
    unfold zRr at h4
    have e : (¬ uH (20 * ca + n) = 0 ∧ xW (20 * ca + n) = w) ↔ (¬ sT n = 0 ∧ sW n = w) := by grind
    by_cases q : ¬ sT n = 0 ∧ sW n = w
    · have hs : xS (20 * ca + n) = sS n ∧ 0 ≤ sS n := by grind
      have e0 : (0 : Int32).toInt = 0 := by decide
      have e1 : (-1 : Int32).toInt = -1 := by decide
      have hs0 := hs.2
      rw [zle_i, e0] at hs0
      rw [← Nat.add_assoc, ybst, zlat, if_neg q.1, if_pos q.2, hs.1]
      rcases ih with ⟨i1, i2⟩ | ⟨r, i1, i2, i3, i4, i5⟩
      · rw [i1, i2]
        have g : ¬ sS n ≤ ((-1, -1) : Int32 × Int32).2 := fun z => (z0_neg hs.2).2 z
        rw [if_neg g]
        refine Or.inr ⟨n, Nat.lt_succ_self n, rfl, hs.1, hs.2, ?_⟩
        rcases hb with ⟨c1, c2⟩ | ⟨c, r1, c1, c2, c3, c4, c5, c6⟩
        · rw [if_pos ⟨e.mpr q, Or.inl c2⟩, c1, if_neg (fun z => (z0_neg hs.2).2 z)]
        · have hne : ¬ ybst uH xW xS w (20 * ca) = -1 := by rw [c3]; exact (z0_neg (nI_pos' (by omega))).1
          have hcl : (ybst uH xW xS w (20 * ca)).toNatClampNeg = 20 * c + r1 := by rw [c3, nI_clamp (by omega)]
          rw [hcl, ← c5]
          by_cases z : sS n ≤ p.2
          · rw [if_pos z, if_neg (fun y => y.2.elim hne (fun k => k z))]
          · rw [if_neg z, if_pos ⟨e.mpr q, Or.inr z⟩]
      · rw [i2, i5]
        have hr0 := i4
        rw [zle_i, e0] at hr0
        by_cases z1 : sS n ≤ sS r
        · rw [if_pos (show sS n ≤ (nI r, sS r).2 from z1)]
          refine Or.inr ⟨r, by omega, rfl, i3, i4, ?_⟩
          rw [zle_i] at z1
          by_cases z2 : sS r ≤ p.2
          · rw [if_pos z2]
            rcases hb with ⟨c1, c2⟩ | ⟨c, r1, c1, c2, c3, c4, c5, c6⟩
            · rw [c1] at z2
              exact absurd z2 (z0_neg i4).2
            · have hne : ¬ ybst uH xW xS w (20 * ca) = -1 := by rw [c3]; exact (z0_neg (nI_pos' (by omega))).1
              have hcl : (ybst uH xW xS w (20 * ca)).toNatClampNeg = 20 * c + r1 := by rw [c3, nI_clamp (by omega)]
              rw [hcl, ← c5]
              rw [if_neg (fun y => y.2.elim hne (fun k => k (by rw [zle_i] at z2 ⊢; omega)))]
          · rw [if_neg z2, nI_clamp (by omega), i3]
            rw [if_neg (fun y => y.2.elim (z0_neg (nI_pos' (by omega))).1 (fun k => k (by rw [zle_i]; exact z1)))]
        · rw [if_neg (show ¬ sS n ≤ (nI r, sS r).2 from z1)]
          refine Or.inr ⟨n, Nat.lt_succ_self n, rfl, hs.1, hs.2, ?_⟩
          rw [zle_i] at z1
          by_cases z2 : sS r ≤ p.2
          · rw [if_pos z2]
            rcases hb with ⟨c1, c2⟩ | ⟨c, r1, c1, c2, c3, c4, c5, c6⟩
            · rw [c1] at z2
              exact absurd z2 (z0_neg i4).2
            · have hne : ¬ ybst uH xW xS w (20 * ca) = -1 := by rw [c3]; exact (z0_neg (nI_pos' (by omega))).1
              have hcl : (ybst uH xW xS w (20 * ca)).toNatClampNeg = 20 * c + r1 := by rw [c3, nI_clamp (by omega)]
              rw [hcl, ← c5]
              by_cases z : sS n ≤ p.2
              · rw [if_pos z, if_neg (fun y => y.2.elim hne (fun k => k z))]
              · rw [if_neg z, if_pos ⟨e.mpr q, Or.inr z⟩]
          · rw [if_neg z2, nI_clamp (by omega), i3, if_pos ⟨e.mpr q, Or.inr (by rw [zle_i]; exact z1)⟩]
            rw [zle_i] at z2
            rw [if_neg (by rw [zle_i]; omega)]
    · have hz : zlat sT sW sS w (n + 1) = zlat sT sW sS w n := by
        rw [zlat]
        by_cases q1 : sT n = 0
        · rw [if_pos q1]
        · rw [if_neg q1, if_neg (fun z => q ⟨q1, z⟩)]
      rw [hz, ← Nat.add_assoc, ybst, if_neg (fun y => q (e.mp y.1))]
      rcases ih with i | ⟨r, i1, i2⟩
      · exact Or.inl i
      · exact Or.inr ⟨r, by omega, i2⟩
theorem r_bs {w : Int32} {p : Int32 × Int32} {ca : Nat} {mk ho fl od td ps pr un de : Int32} {tk iT tS rD sT sW sV sS fT fW fV fS : zI} {uU uY uK uW uV uS uR uM uO uF uG uE uD uP uQ uH xW xV xS uN : zI} (h : zRel ca mk ho fl od td ps pr un de tk iT tS rD sT sW sV sS fT fW fV fS uU uY uK uW uV uS uR uM uO uF uG uE uD uP uQ uH xW xV xS uN) (hca : ca < 4) (hb : zBR xS p (ybst uH xW xS w (20 * ca))) : zBR xS (zbs p (zlat sT sW sS w 20) sS (nI ca)) (ybst uH xW xS w (20 * (ca + 1))) := by
  have e := r_bst (w := w) h hca hb 20 (Nat.le_refl _)
  rw [show 20 * (ca + 1) = 20 * ca + 20 by omega]
  unfold zbs
  rcases e with ⟨i1, i2⟩ | ⟨r, i1, i2, i3, i4, i5⟩
  · rw [i2, i1, if_pos rfl]
    exact hb
  · rw [i2, i5, if_neg (z0_neg (nI_pos' (by omega))).1, nI_clamp (by omega)]
    by_cases z : sS r ≤ p.2
    · rw [if_pos z, if_pos z]
      exact hb
    · rw [if_neg z, if_neg z]
      refine Or.inr ⟨ca, r, hca, i1, rfl, ?_, i3.symm, i4⟩
      show 100 * nI ca + nI r = nI (100 * ca + r)
      rw [show (100 : Int32) * nI ca = nI (100 * ca) from pk_mul 100 ca, nI_add]
theorem r_bres {xS : zI} {p : Int32 × Int32} {f : Int32} (h : zBR xS p f) : p.1 = ybres f := by
  rcases h with ⟨h1, h2⟩ | ⟨c, r, h1, h2, h3, h4, h5, h6⟩
  · rw [h1, h2]
    rfl
  · have hne : ¬ f = -1 := by rw [h3]; exact (z0_neg (nI_pos' (by omega))).1
    unfold ybres
    rw [if_neg hne, h3, h4]
    have hd : nI (20 * c + r) / 20 = nI c := by
      have := pk_div (a := 20 * c + r) (d := 20) (by omega) (by decide) (by decide)
      rw [show (20 * c + r) / 20 = c by omega] at this
      exact this
    rw [hd, show nI c * 20 = nI (c * 20) from pk_mul c 20, pk_sub (by omega), show (100 : Int32) * nI c = nI (100 * c) from pk_mul 100 c, nI_add]
    congr 1
    omega
