/-! a page of the class beside a page of the reference -/
def zPgR (ca : Nat) (ps pr : Int32) (sT sW sV sS tk uP uQ uH xW xV xS uN uP0 uQ0 uH0 xW0 xV0 xS0 uN0 : zI) : Prop :=
  (ps = uP ca ∧ pr = uQ ca) ∧
  (∀ r, r < 20 → (sT r = 0 ∨ sT r = 1) ∧ uH (20 * ca + r) = sT r ∧ (sT r = 0 ∨ (xW (20 * ca + r) = sW r ∧ xV (20 * ca + r) = sV r ∧ xS (20 * ca + r) = sS r ∧ 0 ≤ sS r ∧ (tk r = 0 ↔ uN (20 * ca + r) = 0)))) ∧
  (∀ j, ¬ j = ca → uP j = uP0 j ∧ uQ j = uQ0 j) ∧
  ∀ j r, ¬ j = ca → r < 20 → uH (20 * j + r) = uH0 (20 * j + r) ∧ xW (20 * j + r) = xW0 (20 * j + r) ∧ xV (20 * j + r) = xV0 (20 * j + r) ∧ xS (20 * j + r) = xS0 (20 * j + r) ∧ uN (20 * j + r) = uN0 (20 * j + r)
/-- what is fixed while a page is read -/
def zFar (ca : Nat) (fT fW fV fS iT tS uK uW uV uS : zI) : Prop := ∀ r, r < 20 → (fT r = 0 ∨ fT r = 1) ∧ (fT r = 0 ∨ iT r = 0) ∧ uK (20 * ca + r) = (if fT r = 0 then (if iT r = 0 then 0 else 2) else 1) ∧ uW (20 * ca + r) = fW r ∧ uV (20 * ca + r) = fV r ∧ (fT r = 0 ∨ (uS (20 * ca + r) = fS r ∧ 0 ≤ fS r)) ∧ (iT r = 0 ∨ (uS (20 * ca + r) = tS r ∧ 0 ≤ tS r))
theorem zFar_z {ca r : Nat} {fT fW fV fS iT tS uK uW uV uS : zI} (h : zFar ca fT fW fV fS iT tS uK uW uV uS) (hr : r < 20) : (zls fT fS iT tS r = -1 ↔ uK (20 * ca + r) = 0) ∧ (¬ zls fT fS iT tS r = -1 → uS (20 * ca + r) = zls fT fS iT tS r) := by
  obtain ⟨h1, h2, h3, h4, h5, h6, h7⟩ := h r hr
  have g : ∀ x : Int32, 0 ≤ x → ¬ x = -1 := fun x q => (z0_neg q).1
  unfold zls
  rw [h3]
  by_cases a : fT r = 0
  · rw [if_pos a, if_pos a]
    by_cases b : iT r = 0
    · rw [if_pos b, if_pos b]
      exact ⟨⟨fun _ => rfl, fun _ => rfl⟩, fun q => absurd rfl q⟩
    · rw [if_neg b, if_neg b]
      have h8 := h7.resolve_left b
      exact ⟨⟨fun q => absurd q (g _ h8.2), fun q => absurd q (by decide)⟩, fun _ => h8.1⟩
  · rw [if_neg a, if_neg a]
    have h8 := h6.resolve_left a
    exact ⟨⟨fun q => absurd q (g _ h8.2), fun q => absurd q (by decide)⟩, fun _ => h8.1⟩
theorem r_nx {ca : Nat} {frm ps pr : Int32} {fT fW fV fS iT tS uK uW uV uS : zI} (h : zFar ca fT fW fV fS iT tS uK uW uV uS) (hca : ca < 4) : ∀ n, n ≤ 20 →
    (znx (zls fT fS iT tS) frm ps pr n = (-1, -1) ∧ ynx uK uS frm ps pr (20 * ca) n = -1) ∨ ∃ r, r < n ∧ znx (zls fT fS iT tS) frm ps pr n = (nI r, zls fT fS iT tS r) ∧ ynx uK uS frm ps pr (20 * ca) n = nI (20 * ca + r) ∧ uS (20 * ca + r) = zls fT fS iT tS r
  | 0, _ => Or.inl ⟨rfl, rfl⟩
  | n + 1, hn => by
    obtain ⟨z1, z2⟩ := zFar_z h (r := n) (by omega)
    have key : (zls fT fS iT tS n ≠ -1 ∧ ¬ zls fT fS iT tS n < frm ∧ (ps < zls fT fS iT tS n ∨ (zls fT fS iT tS n = ps ∧ ¬ nI n ≤ pr)) ∧ ((znx (zls fT fS iT tS) frm ps pr n).1 = -1 ∨ ¬ (znx (zls fT fS iT tS) frm ps pr n).2 ≤ zls fT fS iT tS n)) ↔
        ((uK (20 * ca + n) ≠ 0 ∧ ¬ uS (20 * ca + n) < frm ∧ (ps < uS (20 * ca + n) ∨ (uS (20 * ca + n) = ps ∧ ¬ nI n ≤ pr))) ∧ (ynx uK uS frm ps pr (20 * ca) n = -1 ∨ ¬ uS (ynx uK uS frm ps pr (20 * ca) n).toNatClampNeg ≤ uS (20 * ca + n))) := by
      by_cases hz : zls fT fS iT tS n = -1
      · exact ⟨fun q => absurd hz q.1, fun q => absurd (z1.mp hz) q.1.1⟩
      · rw [z2 hz]
        have hk : ¬ uK (20 * ca + n) = 0 := fun q => hz (z1.mpr q)
        rcases r_nx (frm := frm) (ps := ps) (pr := pr) h hca n (by omega) with ⟨i1, i2⟩ | ⟨r, i1, i2, i3, i4⟩
        · rw [i1, i2]
          exact ⟨fun q => ⟨⟨hk, q.2.1, q.2.2.1⟩, Or.inl rfl⟩, fun q => ⟨hz, q.1.2.1, q.1.2.2, Or.inl rfl⟩⟩
        · rw [i2, i3, nI_clamp (by omega), i4]
          have n1 : ¬ (nI r, zls fT fS iT tS r).1 = (-1 : Int32) := (z0_neg (nI_pos' (by omega))).1
          have n2 : ¬ nI (20 * ca + r) = -1 := (z0_neg (nI_pos' (by omega))).1
          exact ⟨fun q => ⟨⟨hk, q.2.1, q.2.2.1⟩, Or.inr (q.2.2.2.resolve_left n1)⟩, fun q => ⟨hz, q.1.2.1, q.1.2.2, Or.inr (q.2.resolve_left n2)⟩⟩
    rw [znx, ynx]
    by_cases c : (zls fT fS iT tS n ≠ -1 ∧ ¬ zls fT fS iT tS n < frm ∧ (ps < zls fT fS iT tS n ∨ (zls fT fS iT tS n = ps ∧ ¬ nI n ≤ pr)) ∧ ((znx (zls fT fS iT tS) frm ps pr n).1 = -1 ∨ ¬ (znx (zls fT fS iT tS) frm ps pr n).2 ≤ zls fT fS iT tS n))
    · rw [if_pos c, if_pos (key.mp c)]
      exact Or.inr ⟨n, Nat.lt_succ_self n, rfl, rfl, z2 c.1⟩
    · rw [if_neg c, if_neg (fun q => c (key.mpr q))]
      rcases r_nx (frm := frm) (ps := ps) (pr := pr) h hca n (by omega) with i | ⟨r, i1, i2⟩
      · exact Or.inl i
      · exact Or.inr ⟨r, by omega, i2⟩
theorem r_tk {r0 : Nat} {ca : Nat} {ps pr : Int32} {sT sW sV sS tk uP uQ uH xW xV xS uN uP0 uQ0 uH0 xW0 xV0 xS0 uN0 : zI} {fT fW fV fS iT tS uK uW uV uS : zI} (hf : zFar ca fT fW fV fS iT tS uK uW uV uS) (h : zPgR ca ps pr sT sW sV sS tk uP uQ uH xW xV xS uN uP0 uQ0 uH0 xW0 xV0 xS0 uN0) (hr0 : r0 < 20) (hz : uS (20 * ca + r0) = zls fT fS iT tS r0) :
    zPgR ca (zls fT fS iT tS r0) (nI r0) (upd sT r0 (if fT r0 = 0 then 0 else 1)) (if fT r0 = 0 then sW else upd sW r0 (fW r0)) (if fT r0 = 0 then sV else upd sV r0 (fV r0)) (if fT r0 = 0 then sS else upd sS r0 (fS r0)) (if fT r0 = 0 then tk else upd tk r0 1) (upd uP ca (uS (20 * ca + r0))) (upd uQ ca (nI r0)) (upd uH (20 * ca + r0) (if uK (20 * ca + r0) = 1 then 1 else 0)) (upd xW (20 * ca + r0) (uW (20 * ca + r0))) (upd xV (20 * ca + r0) (uV (20 * ca + r0))) (upd xS (20 * ca + r0) (uS (20 * ca + r0))) (upd uN (20 * ca + r0) 1) uP0 uQ0 uH0 xW0 xV0 xS0 uN0 := by
  obtain ⟨g1, g2, g3, g4, g5, g6, g7⟩ := hf r0 hr0
  obtain ⟨h1, h2, h3, h4⟩ := h
  refine ⟨⟨by rw [pk_u0, hz], pk_u0.symm⟩, fun r hr => ?_, fun j hj => ?_, fun j r hj hr => ?_⟩
  · have h5 := h2 r hr
    by_cases q : r = r0
    · subst q
      simp only [pk_u0]
      by_cases a : fT r = 0
      · simp only [if_pos a] at g3 ⊢
        grind
      · simp only [if_neg a, pk_u0] at g3 ⊢
        have g8 := g6.resolve_left a
        have e10 : ¬ (1 : Int32) = 0 := by decide
        grind
    · have hk : ¬ 20 * ca + r = 20 * ca + r0 := by omega
      simp only [pk_u1 q, pk_u1 hk]
      by_cases a : fT r0 = 0
      · simp only [if_pos a]
        exact h5
      · simp only [if_neg a, pk_u1 q]
        exact h5
  · rw [pk_u1 hj, pk_u1 hj]
    exact h3 j hj
  · have hk : ¬ 20 * j + r = 20 * ca + r0 := by omega
    simp only [pk_u1 hk]
    exact h4 j r hj hr
/-- whole pages -/
def zPgT (ca : Nat) (x : zPg) (y y0 : yPg) : Prop := zPgR ca x.1 x.2.1 x.2.2.1 x.2.2.2.1 x.2.2.2.2.1 x.2.2.2.2.2.1 x.2.2.2.2.2.2 y.1 y.2.1 y.2.2.1 y.2.2.2.1 y.2.2.2.2.1 y.2.2.2.2.2.1 y.2.2.2.2.2.2 y0.1 y0.2.1 y0.2.2.1 y0.2.2.2.1 y0.2.2.2.2.1 y0.2.2.2.2.2.1 y0.2.2.2.2.2.2
theorem r_nxT {ca : Nat} {frm : Int32} {x : zPg} {y y0 : yPg} {fT fW fV fS iT tS uK uW uV uS : zI} (hf : zFar ca fT fW fV fS iT tS uK uW uV uS) (hca : ca < 4) (h : zPgT ca x y y0) :
    ((znx (zls fT fS iT tS) frm x.1 x.2.1 20).1 = -1 ∧ ynx uK uS frm (y.1 ca) (y.2.1 ca) (20 * ca) 20 = -1) ∨ ∃ r, r < 20 ∧ (znx (zls fT fS iT tS) frm x.1 x.2.1 20).1 = nI r ∧ ynx uK uS frm (y.1 ca) (y.2.1 ca) (20 * ca) 20 = nI (20 * ca + r) ∧ uS (20 * ca + r) = zls fT fS iT tS r := by
  rw [← h.1.1, ← h.1.2]
  rcases r_nx (frm := frm) (ps := x.1) (pr := x.2.1) hf hca 20 (Nat.le_refl _) with ⟨i1, i2⟩ | ⟨r, i1, i2, i3, i4⟩
  · exact Or.inl ⟨by rw [i1], i2⟩
  · exact Or.inr ⟨r, i1, by rw [i2], i3, i4⟩
theorem r_pg {ca : Nat} {frm : Int32} {fT fW fV fS iT tS uK uW uV uS : zI} (hf : zFar ca fT fW fV fS iT tS uK uW uV uS) (hca : ca < 4) : ∀ (k : Nat) (x : zPg) (y y0 : yPg) (c : Int32), zPgT ca x y y0 →
    zPgT ca (zpg fT fW fV fS (zls fT fS iT tS) frm k x c).1 (ypg uK uW uV uS frm ca k y c).1 y0 ∧ (zpg fT fW fV fS (zls fT fS iT tS) frm k x c).2 = (ypg uK uW uV uS frm ca k y c).2
  | 0, x, y, y0, c, h => ⟨h, rfl⟩
  | k + 1, x, y, y0, c, h => by
    rw [zpg, ypg]
    rcases r_nxT (frm := frm) hf hca h with ⟨i1, i2⟩ | ⟨r, i1, i2, i3, i4⟩
    · rw [if_pos i1, if_pos i2]
      exact ⟨h, rfl⟩
    · rw [i2, i3, if_neg (z0_neg (nI_pos' (by omega))).1, if_neg (z0_neg (nI_pos' (by omega))).1, nI_clamp (by omega), nI_clamp (by omega), Nat.add_sub_cancel_left]
      exact r_pg hf hca k _ _ y0 (c + 1) (r_tk hf h i1 i4)
theorem yfin_out {uH uN : zI} {full : Int32} {ca j r : Nat} (h : ¬ j = ca) (hr : r < 20) : yfin uH uN full (20 * ca) 20 (20 * j + r) = uH (20 * j + r) := by
  unfold yfin
  rw [if_neg (zk_out h hr)]
theorem yfin_own {uH uN : zI} {full : Int32} {ca r : Nat} (hr : r < 20) : yfin uH uN full (20 * ca) 20 (20 * ca + r) = (if ¬ uH (20 * ca + r) = 0 ∧ (¬ uN (20 * ca + r) = 0 ∨ full = 0) then 1 else 0) := by
  unfold yfin
  exact if_pos ⟨by omega, by omega⟩
theorem zdrp_own {sT tk : zI} {r : Nat} (hr : r < 20) : zdrp sT tk 20 r = if tk r = 0 then 0 else sT r := by
  unfold zdrp
  by_cases q : tk r = 0
  · rw [if_pos q, if_pos ⟨hr, q⟩]
  · rw [if_neg q, if_neg (fun z => q z.2)]
/-- a page's end, on both sides -/
theorem r_te {now HO OD : Int32} {uE1 : zI} {X : zPg} {Y Y0 : yPg} {cnt : Int32} {res' mk' ho' od' ps' pr' ser : Int32} {sT' sW' sV' sS' tk' uO' uM' uE' uP' uQ' uH' xW' xV' xS' uN' : zI} {ca : Nat} {mk ho fl od td ps pr un de : Int32} {tk iT tS rD sT sW sV sS fT fW fV fS : zI} {uU uY uK uW uV uS uR uM uO uF uG uE uD uP uQ uH xW xV xS uN : zI} (h : zRel ca mk ho fl od td ps pr un de tk iT tS rD sT sW sV sS fT fW fV fS uU uY uK uW uV uS uR uM uO uF uG uE uD uP uQ uH xW xV xS uN) (hca : ca < 4) (hop : ¬ ho = 0) (hHO : HO = uO ca) (hOD : zsm OD) (hE : OD = uE1 ca) (hE1 : ∀ j, ¬ j = ca → uE1 j = uE j)
    (hY0 : Y0 = (uP, uQ, uH, xW, xV, xS, uN)) (hT : zPgT ca X Y Y0) (h1 : zte (zls fT fS iT tS) (if fl = 0 then mk else 0) un mk HO fl OD (X, cnt) = (res', mk', ho', od', ps', pr', sT', sW', sV', sS', tk')) (h2 : yte uK uS (uG ca) ca uU uO uM uF uE1 (Y, cnt) = (ser, uO', uM', uE', uP', uQ', uH', xW', xV', xS', uN')) :
    res' = ser ∧ zRel ca mk' ho' fl od' now ps' pr' un de tk' iT tS rD sT' sW' sV' sS' fT fW fV fS uU uY uK uW uV uS uR uM' uO' uF uG uE' (upd uD ca now) uP' uQ' uH' xW' xV' xS' uN' ∧ (∀ j, ¬ j = ca → uO' j = uO j ∧ uM' j = uM j ∧ uE' j = uE j ∧ uP' j = uP j ∧ uQ' j = uQ j) ∧ ∀ j r, ¬ j = ca → r < 20 → uH' (20 * j + r) = uH (20 * j + r) ∧ xW' (20 * j + r) = xW (20 * j + r) ∧ xV' (20 * j + r) = xV (20 * j + r) ∧ xS' (20 * j + r) = xS (20 * j + r) ∧ uN' (20 * j + r) = uN (20 * j + r) := by
  obtain ⟨⟨a1, a2, a3, a4, a5, a6, a7, a8⟩, ⟨b1, b2, b3, b4, b5, b6⟩, h3⟩ := h
  have hG := b6.resolve_left hop
  have hf : zFar ca fT fW fV fS iT tS uK uW uV uS := fun r hr => by
    obtain ⟨q1, q2, q3, q4, q5, q6, q7, q8, q9, q10, q11⟩ := h3 r hr
    exact ⟨q1, q3, q4, q5, q6, q8, q9⟩
  have hho : HO = 1 := by
    rw [hHO, ← a4]
    exact b4.resolve_left hop
  rw [← hG] at h1
  have hT0 := hT
  obtain ⟨t1, t2, t3, t4⟩ := hT
  subst hY0
  obtain ⟨X1, X2, X3, X4, X5, X6, X7⟩ := X
  obtain ⟨Y1, Y2, Y3, Y4, Y5, Y6, Y7⟩ := Y
  rcases r_nxT (frm := uG ca) hf hca hT0 with ⟨i1, i2⟩ | ⟨r, i0, i1, i2, i4⟩
  · rw [zte, if_pos i1] at h1
    rw [yte, if_pos i2] at h2
    simp only [Prod.mk.injEq] at h1 h2
    obtain ⟨e1, e2, e3, e4, e5, e6, e7, e8, e9, e10, e11⟩ := h1
    obtain ⟨d1, d2, d3, d4, d5, d6, d7, d8, d9, d10, d11⟩ := h2
    subst e1 e2 e3 e4 e5 e6 e7 e8 e9 e10 e11 d1 d2 d3 d4 d5 d6 d7 d8 d9 d10 d11
    refine ⟨rfl, ⟨⟨a1, a2, ?_, pk_u0.symm, a5, hE, pk_u0.symm, Or.inr ⟨t1.1, t1.2⟩⟩, ⟨hOD, b2, b3, Or.inl rfl, b5, Or.inl rfl⟩, fun r hr => ?_⟩, fun j hj => ?_, fun j r hj hr => ?_⟩
    · rw [pk_u0, ← a1, ← hE]
      exact (zyst b2 hOD).1
    · have h4 := h3 r hr
      have h5 := t2 r hr
      unfold zRr at h4 ⊢
      rw [yfin_own hr, ← a5]
      by_cases q : fl = 0
      · rw [if_pos q]
        grind
      · rw [if_neg q, zdrp_own hr]
        grind
    · rw [pk_u1 hj, pk_u1 hj]
      exact ⟨rfl, rfl, hE1 j hj, t3 j hj⟩
    · rw [yfin_out hj hr]
      exact t4 j r hj hr
  · rw [zte, if_neg (by rw [i1]; exact (z0_neg (nI_pos' (by omega))).1)] at h1
    rw [yte, if_neg (by rw [i2]; exact (z0_neg (nI_pos' (by omega))).1)] at h2
    simp only [Prod.mk.injEq] at h1 h2
    obtain ⟨e1, e2, e3, e4, e5, e6, e7, e8, e9, e10, e11⟩ := h1
    obtain ⟨d1, d2, d3, d4, d5, d6, d7, d8, d9, d10, d11⟩ := h2
    subst e1 e2 e3 e4 e5 e6 e7 e8 e9 e10 e11 d1 d2 d3 d4 d5 d6 d7 d8 d9 d10 d11
    refine ⟨rfl, ⟨⟨a1, a2, a3, hHO, a5, hE, pk_u0.symm, Or.inr ⟨t1.1, t1.2⟩⟩, ⟨hOD, b2, b3, Or.inr hho, b5, Or.inr hG⟩, fun r hr => ?_⟩, fun j hj => ?_, fun j r hj hr => t4 j r hj hr⟩
    · have h4 := h3 r hr
      have h5 := t2 r hr
      unfold zRr at h4 ⊢
      grind
    · exact ⟨rfl, rfl, hE1 j hj, t3 j hj⟩
theorem r_read {now res' mk' ho' od' ps' pr' ser : Int32} {sT' sW' sV' sS' tk' uO' uM' uE' uP' uQ' uH' xW' xV' xS' uN' : zI} {ca : Nat} {mk ho fl od td ps pr un de : Int32} {tk iT tS rD sT sW sV sS fT fW fV fS : zI} {uU uY uK uW uV uS uR uM uO uF uG uE uD uP uQ uH xW xV xS uN : zI} (h : zRel ca mk ho fl od td ps pr un de tk iT tS rD sT sW sV sS fT fW fV fS uU uY uK uW uV uS uR uM uO uF uG uE uD uP uQ uH xW xV xS uN) (hca : ca < 4) (hn : zsm now) (hop : ¬ ho = 0) (h1 : ztp fT fW fV fS (zls fT fS iT tS) un now mk ho fl od td (ps, pr, sT, sW, sV, sS, tk) = (res', mk', ho', od', ps', pr', sT', sW', sV', sS', tk')) (h2 : ytp uK uW uV uS ca now uU uO uM uF uG uE uD (uP, uQ, uH, xW, xV, xS, uN) = (ser, uO', uM', uE', uP', uQ', uH', xW', xV', xS', uN')) :
    res' = ser ∧ zRel ca mk' ho' fl od' now ps' pr' un de tk' iT tS rD sT' sW' sV' sS' fT fW fV fS uU uY uK uW uV uS uR uM' uO' uF uG uE' (upd uD ca now) uP' uQ' uH' xW' xV' xS' uN' ∧ (∀ j, ¬ j = ca → uO' j = uO j ∧ uM' j = uM j ∧ uE' j = uE j ∧ uP' j = uP j ∧ uQ' j = uQ j) ∧ ∀ j r, ¬ j = ca → r < 20 → uH' (20 * j + r) = uH (20 * j + r) ∧ xW' (20 * j + r) = xW (20 * j + r) ∧ xV' (20 * j + r) = xV (20 * j + r) ∧ xS' (20 * j + r) = xS (20 * j + r) ∧ uN' (20 * j + r) = uN (20 * j + r) := by
  have h0 := h
  obtain ⟨⟨a1, a2, a3, a4, a5, a6, a7, a8⟩, ⟨b1, b2, b3, b4, b5, b6⟩, h3⟩ := h
  have hG := b6.resolve_left hop
  have hf : zFar ca fT fW fV fS iT tS uK uW uV uS := fun r hr => by
    obtain ⟨q1, q2, q3, q4, q5, q6, q7, q8, q9, q10, q11⟩ := h3 r hr
    exact ⟨q1, q3, q4, q5, q6, q8, q9⟩
  have hho : ho = 1 := b4.resolve_left hop
  by_cases c : now - td ≤ 5
  · rw [ztp, if_pos c] at h1
    rw [ytp, ← a7, if_pos c] at h2
    have hT : zPgT ca (ps, pr, sT, sW, sV, sS, tk) (uP, uQ, uH, xW, xV, xS, uN) (uP, uQ, uH, xW, xV, xS, uN) := by
      refine ⟨a8.resolve_left hop, fun r hr => ?_, fun j hj => ⟨rfl, rfl⟩, fun j r hj hr => ⟨rfl, rfl, rfl, rfl, rfl⟩⟩
      obtain ⟨q1, q2, q3, q4, q5, q6, q7, q8, q9, q10, q11⟩ := h3 r hr
      exact ⟨q2, q10, q11⟩
    obtain ⟨k1, k2⟩ := r_pg (frm := uG ca) hf hca 3 _ _ _ 0 hT
    rw [← hG] at h1
    revert h1 h2
    generalize zpg fT fW fV fS (zls fT fS iT tS) (uG ca) 3 (ps, pr, sT, sW, sV, sS, tk) 0 = PX at k1 k2 ⊢
    generalize ypg uK uW uV uS (uG ca) ca 3 (uP, uQ, uH, xW, xV, xS, uN) 0 = PY at k1 k2 ⊢
    intro h1 h2
    obtain ⟨X, cx⟩ := PX
    obtain ⟨Y, cy⟩ := PY
    have k3 : cx = cy := k2
    subst k3
    exact r_te (now := now) h0 hca hop a4 b1 a6 (fun j _ => rfl) rfl k1 (by rw [← hG]; exact h1) h2
  · rw [ztp, if_neg c] at h1
    rw [ytp, ← a7, if_neg c] at h2
    have hT : zPgT ca (-1, -1, sT, sW, sV, sS, zclr tk 20) (upd uP ca (-1), upd uQ ca (-1), uH, xW, xV, xS, ysee uN (20 * ca) 20) (uP, uQ, uH, xW, xV, xS, uN) := by
      refine ⟨⟨pk_u0.symm, pk_u0.symm⟩, fun r hr => ?_, fun j hj => ⟨pk_u1 hj, pk_u1 hj⟩, fun j r hj hr => ⟨rfl, rfl, rfl, rfl, ysee_out hj hr⟩⟩
      obtain ⟨q1, q2, q3, q4, q5, q6, q7, q8, q9, q10, q11⟩ := h3 r hr
      refine ⟨q2, q10, q11.elim Or.inl (fun z => Or.inr ⟨z.1, z.2.1, z.2.2.1, z.2.2.2.1, ?_⟩)⟩
      show zclr tk 20 r = 0 ↔ ysee uN (20 * ca) 20 (20 * ca + r) = 0
      rw [zclr_own hr, ysee_own hr]
    obtain ⟨k1, k2⟩ := r_pg (frm := uG ca) hf hca 3 _ _ _ 0 hT
    rw [← hG] at h1
    revert h1 h2
    dsimp only
    generalize zpg fT fW fV fS (zls fT fS iT tS) (uG ca) 3 (-1, -1, sT, sW, sV, sS, zclr tk 20) 0 = PX at k1 k2 ⊢
    generalize ypg uK uW uV uS (uG ca) ca 3 (upd uP ca (-1), upd uQ ca (-1), uH, xW, xV, xS, ysee uN (20 * ca) 20) 0 = PY at k1 k2 ⊢
    intro h1 h2
    obtain ⟨X, cx⟩ := PX
    obtain ⟨Y, cy⟩ := PY
    have k3 : cx = cy := k2
    subst k3
    exact r_te (now := now) (HO := 1) (OD := now) (uE1 := upd uE ca now) h0 hca hop (by rw [← a4]; exact hho.symm) hn pk_u0.symm (fun j hj => pk_u1 hj) rfl k1 (by rw [← hG]; exact h1) h2
