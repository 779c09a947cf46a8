/-! ===== the class's state beside the reference's ===== -/
def zsm (x : Int32) : Prop := ∃ a, a ≤ 5000 ∧ x = nI a
def zun (x : Int32) : Prop := ∃ b, 1 ≤ b ∧ b ≤ 30 ∧ x = nI b
/-- one record: place k of the reference, place r of the class -/
def zRr (k r : Nat) (sT sW sV sS tk fT fW fV fS iT tS rD uK uW uV uS uR uH xW xV xS uN : zI) : Prop :=
  (fT r = 0 ∨ fT r = 1) ∧ (sT r = 0 ∨ sT r = 1) ∧ (fT r = 0 ∨ iT r = 0) ∧
  uK k = (if fT r = 0 then (if iT r = 0 then 0 else 2) else 1) ∧ uW k = fW r ∧ uV k = fV r ∧ uR k = rD r ∧
  (fT r = 0 ∨ (uS k = fS r ∧ 0 ≤ fS r)) ∧ (iT r = 0 ∨ (uS k = tS r ∧ 0 ≤ tS r)) ∧ uH k = sT r ∧
  (sT r = 0 ∨ (xW k = sW r ∧ xV k = sV r ∧ xS k = sS r ∧ 0 ≤ sS r ∧ (tk r = 0 ↔ uN k = 0)))
def zRel (ca : Nat) (mk ho fl od td ps pr un de : Int32) (tk iT tS rD sT sW sV sS fT fW fV fS uU uY uK uW uV uS uR uM uO uF uG uE uD uP uQ uH xW xV xS uN : zI) : Prop :=
  (un = uU ca ∧ de = uY ca ∧ mk = uM ca ∧ ho = uO ca ∧ fl = uF ca ∧ od = uE ca ∧ td = uD ca ∧ (ho = 0 ∨ (ps = uP ca ∧ pr = uQ ca))) ∧
  (zsm od ∧ zun un ∧ (de = 0 ∨ de = 1 ∨ de = 2) ∧ (ho = 0 ∨ ho = 1) ∧ (fl = 0 ∨ fl = 1) ∧ (ho = 0 ∨ uG ca = if fl = 0 then mk else 0)) ∧
  ∀ r, r < 20 → zRr (20 * ca + r) r sT sW sV sS tk fT fW fV fS iT tS rD uK uW uV uS uR uH xW xV xS uN
theorem z0_neg {x : Int32} (h : 0 ≤ x) : ¬ x = -1 ∧ ¬ x ≤ -1 := by
  rw [Int32.le_iff_toInt_le] at h
  have e0 : (0 : Int32).toInt = 0 := by decide
  have e1 : (-1 : Int32).toInt = -1 := by decide
  refine ⟨fun q => ?_, fun q => ?_⟩
  · rw [q, e0, e1] at h
    omega
  · rw [Int32.le_iff_toInt_le] at q
    omega
theorem zyst {un day : Int32} (hu : zun un) (hd : zsm day) : zst un day = yst un day ∧ 0 ≤ zst un day := by
  obtain ⟨b, hb1, hb2, rfl⟩ := hu
  obtain ⟨a, ha, rfl⟩ := hd
  have hr := pk_rem (a := a) (d := b) (by omega) (by omega) (by omega)
  have hle : a % b ≤ a := Nat.mod_le a b
  have hy : yst (nI b) (nI a) = nI (a - a % b) := by
    unfold yst
    rw [hr, pk_sub hle]
  have hz : zst (nI b) (nI a) = yst (nI b) (nI a) := by
    unfold zst
    by_cases h : nI b ≤ 1
    · rw [if_pos h, hy]
      have h1 : b ≤ 1 := (nI_leI (b := 1) (by omega) (by decide)).mp h
      have h2 : b = 1 := by omega
      subst h2
      rw [Nat.mod_one, Nat.sub_zero]
    · rw [if_neg h]
      rfl
  rw [hz, hy]
  exact ⟨rfl, nI_pos' (by omega)⟩
theorem zun_ne {un : Int32} (h : zun un) : ¬ un = 0 := by
  obtain ⟨b, h1, h2, rfl⟩ := h
  exact nI_ne0 (by omega) (by omega)
theorem zun_in {b : Int32} (h : zin b 1 30 = 1) : zun b := by
  obtain ⟨h1, h2⟩ := zin_ok h
  rw [Int32.lt_iff_toInt_lt] at h1
  have e1 : (1 : Int32).toInt = 1 := by decide
  have h0 : ¬ b < 0 := by
    rw [Int32.lt_iff_toInt_lt]
    have e0 : (0 : Int32).toInt = 0 := by decide
    omega
  obtain ⟨j, hj, rfl⟩ := nI_of2 (M := 30) (n := 30) (by decide) h0 h2
  rw [nI_toInt (by omega)] at h1
  exact ⟨j, by omega, hj, rfl⟩
theorem zin3 {w : Int32} (h : zin w 0 2 = 1) : w = 0 ∨ w = 1 ∨ w = 2 := by
  obtain ⟨j, hj, rfl⟩ := zin_nat (n := 2) (by decide) h
  match j, hj with
  | 0, _ => exact Or.inl rfl
  | 1, _ => exact Or.inr (Or.inl rfl)
  | 2, _ => exact Or.inr (Or.inr rfl)
theorem pk_u0 {f : zI} {k : Nat} {x : Int32} : upd f k x k = x := if_pos rfl
theorem pk_u1 {f : zI} {k j : Nat} {x : Int32} (h : ¬ j = k) : upd f k x j = f j := if_neg h
/-- another catalogue's view of the reference's rows is left as it was -/
theorem zRel_fr {ca : Nat} {mk ho fl od td ps pr un de : Int32} {tk iT tS rD sT sW sV sS fT fW fV fS : zI} {uU uY uK uW uV uS uR uM uO uF uG uE uD uP uQ uH xW xV xS uN : zI} {uU' uY' uK' uW' uV' uS' uR' uM' uO' uF' uG' uE' uD' uP' uQ' uH' xW' xV' xS' uN' : zI} (h : zRel ca mk ho fl od td ps pr un de tk iT tS rD sT sW sV sS fT fW fV fS uU uY uK uW uV uS uR uM uO uF uG uE uD uP uQ uH xW xV xS uN) (huU : uU' ca = uU ca) (huY : uY' ca = uY ca) (huM : uM' ca = uM ca) (huO : uO' ca = uO ca) (huF : uF' ca = uF ca) (huG : uG' ca = uG ca) (huE : uE' ca = uE ca) (huD : uD' ca = uD ca) (huP : uP' ca = uP ca) (huQ : uQ' ca = uQ ca) (huK : ∀ r, r < 20 → uK' (20 * ca + r) = uK (20 * ca + r)) (huW : ∀ r, r < 20 → uW' (20 * ca + r) = uW (20 * ca + r)) (huV : ∀ r, r < 20 → uV' (20 * ca + r) = uV (20 * ca + r)) (huS : ∀ r, r < 20 → uS' (20 * ca + r) = uS (20 * ca + r)) (huR : ∀ r, r < 20 → uR' (20 * ca + r) = uR (20 * ca + r)) (huH : ∀ r, r < 20 → uH' (20 * ca + r) = uH (20 * ca + r)) (hxW : ∀ r, r < 20 → xW' (20 * ca + r) = xW (20 * ca + r)) (hxV : ∀ r, r < 20 → xV' (20 * ca + r) = xV (20 * ca + r)) (hxS : ∀ r, r < 20 → xS' (20 * ca + r) = xS (20 * ca + r)) (huN : ∀ r, r < 20 → uN' (20 * ca + r) = uN (20 * ca + r)) : zRel ca mk ho fl od td ps pr un de tk iT tS rD sT sW sV sS fT fW fV fS uU' uY' uK' uW' uV' uS' uR' uM' uO' uF' uG' uE' uD' uP' uQ' uH' xW' xV' xS' uN' := by
  obtain ⟨h1, h2, h3⟩ := h
  refine ⟨?_, ?_, fun r hr => ?_⟩
  · rw [huU, huY, huM, huO, huF, huE, huD, huP, huQ]; exact h1
  · rw [huG]; exact h2
  · have h4 := h3 r hr
    unfold zRr at h4 ⊢
    rw [huK r hr, huW r hr, huV r hr, huS r hr, huR r hr, huH r hr, hxW r hr, hxV r hr, hxS r hr, huN r hr]
    exact h4
theorem zk_ne {ca j r r0 : Nat} (h : ¬ j = ca) (hr : r < 20) (hr0 : r0 < 20) : ¬ 20 * j + r = 20 * ca + r0 := by omega
theorem zk_out {ca j r : Nat} (h : ¬ j = ca) (hr : r < 20) : ¬ (20 * ca ≤ 20 * j + r ∧ 20 * j + r < 20 * ca + 20) := by omega
theorem yclr_out {uK uR : zI} {way now : Int32} {ca j r : Nat} (h : ¬ j = ca) (hr : r < 20) : yclr uK uR way now (20 * ca) 20 (20 * j + r) = uK (20 * j + r) := by
  unfold yclr
  rw [if_neg (fun q => zk_out h hr ⟨q.1, q.2.1⟩)]
theorem yclr_own {uK uR : zI} {way now : Int32} {ca r : Nat} (hr : r < 20) : yclr uK uR way now (20 * ca) 20 (20 * ca + r) = if uK (20 * ca + r) = 2 ∧ (way = 2 ∨ (way = 1 ∧ ¬ now - uR (20 * ca + r) < 10)) then 0 else uK (20 * ca + r) := by
  unfold yclr
  by_cases h : uK (20 * ca + r) = 2 ∧ (way = 2 ∨ (way = 1 ∧ ¬ now - uR (20 * ca + r) < 10))
  · rw [if_pos h, if_pos ⟨by omega, by omega, h⟩]
  · rw [if_neg h, if_neg (fun q => h q.2.2)]
theorem r_set {now b w : Int32} {ca : Nat} {mk ho fl od td ps pr un de : Int32} {tk iT tS rD sT sW sV sS fT fW fV fS : zI} {uU uY uK uW uV uS uR uM uO uF uG uE uD uP uQ uH xW xV xS uN : zI} (h : zRel ca mk ho fl od td ps pr un de tk iT tS rD sT sW sV sS fT fW fV fS uU uY uK uW uV uS uR uM uO uF uG uE uD uP uQ uH xW xV xS uN) (hb : zin b 1 30 = 1) (hw : zin w 0 2 = 1) : zRel ca mk ho fl od td ps pr b w tk (zfg iT rD w now 20) tS rD sT sW sV sS fT fW fV fS (upd uU ca b) (upd uY ca w) (yclr uK uR w now (20 * ca) 20) uW uV uS uR uM uO uF uG uE uD uP uQ uH xW xV xS uN := by
  obtain ⟨⟨a1, a2, a3, a4, a5, a6, a7, a8⟩, ⟨b1, b2, b3, b4, b5, b6⟩, h3⟩ := h
  refine ⟨⟨pk_u0.symm, pk_u0.symm, a3, a4, a5, a6, a7, a8⟩, ⟨b1, zun_in hb, zin3 hw, b4, b5, b6⟩, fun r hr => ?_⟩
  have h4 := h3 r hr
  unfold zRr at h4 ⊢
  rw [yclr_own hr]
  have e : zfg iT rD w now 20 r = if w = 2 ∨ (w = 1 ∧ ¬ now - rD r < 10) then 0 else iT r := by
    unfold zfg
    by_cases q : w = 2 ∨ (w = 1 ∧ ¬ now - rD r < 10)
    · rw [if_pos q, if_pos ⟨hr, q⟩]
    · rw [if_neg q, if_neg (fun z => q z.2)]
  rw [e]
  grind
theorem r_put {now w v : Int32} {r0 : Nat} {ca : Nat} {mk ho fl od td ps pr un de : Int32} {tk iT tS rD sT sW sV sS fT fW fV fS : zI} {uU uY uK uW uV uS uR uM uO uF uG uE uD uP uQ uH xW xV xS uN : zI} (h : zRel ca mk ho fl od td ps pr un de tk iT tS rD sT sW sV sS fT fW fV fS uU uY uK uW uV uS uR uM uO uF uG uE uD uP uQ uH xW xV xS uN) (hn : zsm now) (hr0 : r0 < 20) : zst un now = yst (uU ca) now ∧ zRel ca mk ho fl od td ps pr un de tk (upd iT r0 0) tS rD sT sW sV sS (upd fT r0 1) (upd fW r0 w) (upd fV r0 v) (upd fS r0 (zst un now)) uU uY (upd uK (20 * ca + r0) 1) (upd uW (20 * ca + r0) w) (upd uV (20 * ca + r0) v) (upd uS (20 * ca + r0) (yst (uU ca) now)) uR uM uO uF uG uE uD uP uQ uH xW xV xS uN := by
  obtain ⟨⟨a1, a2, a3, a4, a5, a6, a7, a8⟩, ⟨b1, b2, b3, b4, b5, b6⟩, h3⟩ := h
  obtain ⟨z1, z2⟩ := zyst b2 hn
  rw [← a1]
  refine ⟨z1, ⟨a1, a2, a3, a4, a5, a6, a7, a8⟩, ⟨b1, b2, b3, b4, b5, b6⟩, fun r hr => ?_⟩
  have h4 := h3 r hr
  unfold zRr at h4 ⊢
  by_cases q : r = r0
  · subst q
    simp only [pk_u0]
    rw [← z1]
    grind
  · simp only [pk_u1 q, pk_u1 (show ¬ 20 * ca + r = 20 * ca + r0 by omega)]
    exact h4
theorem r_rem {now : Int32} {r0 : Nat} {ca : Nat} {mk ho fl od td ps pr un de : Int32} {tk iT tS rD sT sW sV sS fT fW fV fS : zI} {uU uY uK uW uV uS uR uM uO uF uG uE uD uP uQ uH xW xV xS uN : zI} (h : zRel ca mk ho fl od td ps pr un de tk iT tS rD sT sW sV sS fT fW fV fS uU uY uK uW uV uS uR uM uO uF uG uE uD uP uQ uH xW xV xS uN) (hn : zsm now) (hr0 : r0 < 20) : (if de ≠ 2 then (1 : Int32) else 0) = (if uY ca = 2 then (0 : Int32) else 1) ∧ zRel ca mk ho fl od td ps pr un de tk (upd iT r0 (if de ≠ 2 then (1 : Int32) else 0)) (upd tS r0 (zst un now)) (upd rD r0 now) sT sW sV sS (upd fT r0 0) fW fV fS uU uY (upd uK (20 * ca + r0) (if uY ca = 2 then (0 : Int32) else 2)) uW uV (upd uS (20 * ca + r0) (yst (uU ca) now)) (upd uR (20 * ca + r0) now) uM uO uF uG uE uD uP uQ uH xW xV xS uN := by
  obtain ⟨⟨a1, a2, a3, a4, a5, a6, a7, a8⟩, ⟨b1, b2, b3, b4, b5, b6⟩, h3⟩ := h
  obtain ⟨z1, z2⟩ := zyst b2 hn
  rw [← a1, ← a2]
  refine ⟨by grind, ⟨a1, a2, a3, a4, a5, a6, a7, a8⟩, ⟨b1, b2, b3, b4, b5, b6⟩, fun r hr => ?_⟩
  have h4 := h3 r hr
  unfold zRr at h4 ⊢
  by_cases q : r = r0
  · subst q
    simp only [pk_u0]
    rw [← z1]
    grind
  · simp only [pk_u1 q, pk_u1 (show ¬ 20 * ca + r = 20 * ca + r0 by omega)]
    exact h4
theorem r_rk {r0 : Nat} {ca : Nat} {mk ho fl od td ps pr un de : Int32} {tk iT tS rD sT sW sV sS fT fW fV fS : zI} {uU uY uK uW uV uS uR uM uO uF uG uE uD uP uQ uH xW xV xS uN : zI} (h : zRel ca mk ho fl od td ps pr un de tk iT tS rD sT sW sV sS fT fW fV fS uU uY uK uW uV uS uR uM uO uF uG uE uD uP uQ uH xW xV xS uN) (hr0 : r0 < 20) : fT r0 = 0 ↔ ¬ uK (20 * ca + r0) = 1 := by
  have h4 := h.2.2 r0 hr0
  unfold zRr at h4
  grind
