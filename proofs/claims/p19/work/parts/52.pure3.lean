/-! ===== a list's reading, over the whole state of a catalogue ===== -/
section PR
def hZ (x : zHS) : zI := zls (hFT x) (hFS x) (hIT x) (hTS x)
def zfarEq (x x0 : zHS) : Prop := hFT x = hFT x0 ∧ hFW x = hFW x0 ∧ hFV x = hFV x0 ∧ hFS x = hFS x0 ∧ hIT x = hIT x0 ∧ hTS x = hTS x0 ∧ hRD x = hRD x0 ∧ hUn x = hUn x0 ∧ hDe x = hDe x0
/-- a list that is read up to P -/
def zRI (N F : Nat) (full : Int32) (x0 x : zHS) (P : Nat) : Prop := zfarEq x x0 ∧ hMk x = hMk x0 ∧ hFl x = full ∧ hOd x = nI N ∧ hTd x = nI N ∧ hHo x = 1 ∧ zPI (hZ x0) (hFT x0) (hFW x0) (hFV x0) (hFS x0) F (hST x0) (hSW x0) (hSV x0) (hSS x0) (hPs x, hPr x, hST x, hSW x, hSV x, hSS x, hTk x) P
/-- a list that is done -/
def zDone (N F : Nat) (full : Int32) (x0 x : zHS) : Prop := zfarEq x x0 ∧ hMk x = zst (hUn x0) (nI N) ∧ hFl x = full ∧ hHo x = 0 ∧ ∀ r, r < 20 →
  if 0 < zq (hZ x0) F r then hST x r = (if hFT x0 r = 0 then 0 else 1) ∧ (¬ hFT x0 r = 0 → hSW x r = hFW x0 r ∧ hSV x r = hFV x0 r ∧ hSS x r = hFS x0 r)
  else if full = 0 then hST x r = hST x0 r ∧ hSW x r = hSW x0 r ∧ hSV x r = hSV x0 r ∧ hSS x r = hSS x0 r else hST x r = 0
theorem z_opened (N F : Nat) (full : Int32) (x : zHS) : zRI N F full x (hOpen x full (nI N)) 0 := by
  obtain ⟨mk1, ho, fl, od, td, ps, pr, un, de, tk, iT, tS, rD, sT, sW, sV, sS, fT, fW, fV, fS⟩ := x
  refine ⟨⟨rfl, rfl, rfl, rfl, rfl, rfl, rfl, rfl, rfl⟩, rfl, rfl, rfl, rfl, rfl, Or.inl ⟨rfl, rfl, rfl⟩, fun r hr => ?_⟩
  rw [if_neg (fun q => by omega)]
  refine ⟨rfl, ?_, rfl, rfl, rfl⟩
  show zclr tk 20 r = 0
  unfold zclr
  rw [if_pos hr]
theorem z_td (N : Nat) : nI N - nI N ≤ 5 := by
  rw [Int32.sub_self]
  decide
theorem z_read {N F m : Nat} {full : Int32} {x0 x : zHS} {P : Nat} (hff : full = 0 ∨ full = 1) (hz : zLz (hZ x0)) (hF : F ≤ 5000) (hm : hMk x0 = nI m) (hFd : F = if full = 0 then m else 0) (h : zRI N F full x0 x P) :
    (hReadP x (nI N)).1 = nI (min 3 (zlf (hZ x0) F P)) ∧ ((zlf (hZ x0) F P ≤ 3 ∧ zDone N F full x0 (hReadP x (nI N)).2) ∨ (3 < zlf (hZ x0) F P ∧ ∃ P', P ≤ P' ∧ zRI N F full x0 (hReadP x (nI N)).2 P' ∧ zlf (hZ x0) F P = zlf (hZ x0) F P' + 3)) := by
  obtain ⟨mk1, ho, fl, od, td, ps, pr, un, de, tk, iT, tS, rD, sT, sW, sV, sS, fT, fW, fV, fS⟩ := x
  obtain ⟨mk0, ho0, fl0, od0, td0, ps0, pr0, un0, de0, tk0, iT0, tS0, rD0, sT0, sW0, sV0, sS0, fT0, fW0, fV0, fS0⟩ := x0
  obtain ⟨⟨e1, e2, e3, e4, e5, e6, e7, e8, e9⟩, e10, e11, e12, e13, e14, hP⟩ := h
  simp only [hMk, hHo, hFl, hOd, hTd, hPs, hPr, hUn, hDe, hTk, hIT, hTS, hRD, hST, hSW, hSV, hSS, hFT, hFW, hFV, hFS] at e1 e2 e3 e4 e5 e6 e7 e8 e9 e10 e11 e12 e13 e14 hP hm
  subst e1 e2 e3 e4 e5 e6 e7 e8 e9 e10 e11 e12 e13 e14
  have hfst : (if fl = 0 then mk1 else 0) = nI F := by
    rw [hFd]
    rcases hff with e | e <;> rw [e]
    · simpa using hm
    · simp [nI]
  have hz' : zLz (zls fT fS iT tS) := hz
  obtain ⟨x', P', a1, a2, a3, a4⟩ := zpg_spec hz' hF 3 (ps, pr, sT, sW, sV, sS, tk) P 0 hP
  have hend := znx_end hz' hF a2
  have htp : ztp fT fW fV fS (zls fT fS iT tS) un (nI N) mk1 1 fl (nI N) (nI N) (ps, pr, sT, sW, sV, sS, tk) = zte (zls fT fS iT tS) (nI F) un mk1 1 fl (nI N) (x', nI (0 + min 3 (zlf (zls fT fS iT tS) F P))) := by
    unfold ztp
    rw [if_pos (z_td N), hfst, ← a1]
    rfl
  obtain ⟨ps', pr', sT', sW', sV', sS', tk'⟩ := x'
  obtain ⟨b1, b2⟩ := a2
  by_cases g : zlf (zls fT fS iT tS) F P' = 0
  · have hx : hReadP (mk1, 1, fl, nI N, nI N, ps, pr, un, de, tk, iT, tS, rD, sT, sW, sV, sS, fT, fW, fV, fS) (nI N) = (nI (0 + min 3 (zlf (zls fT fS iT tS) F P)), (zst un (nI N), 0, fl, nI N, nI N, ps', pr', un, de, tk', iT, tS, rD, (if fl = 0 then sT' else zdrp sT' tk' 20), sW', sV', sS', fT, fW, fV, fS)) := by
      dsimp only [hReadP]
      rw [htp]
      unfold zte
      rw [if_pos (hend.mpr g)]
    rw [hx]
    refine ⟨by rw [Nat.zero_add]; rfl, Or.inl ⟨?_, ⟨rfl, rfl, rfl, rfl, rfl, rfl, rfl, rfl, rfl⟩, rfl, rfl, rfl, fun r hr => ?_⟩⟩
    · show zlf (zls fT fS iT tS) F P ≤ 3
      omega
    · have b3 := b2 r hr
      have hall : ¬ P' < zq (zls fT fS iT tS) F r := by
        have := zc_0 20 g r hr
        simpa using this
      show if 0 < zq (zls fT fS iT tS) F r then (if fl = 0 then sT' else zdrp sT' tk' 20) r = (if fT r = 0 then 0 else 1) ∧ (¬ fT r = 0 → sW' r = fW r ∧ sV' r = fV r ∧ sS' r = fS r) else if fl = 0 then (if fl = 0 then sT' else zdrp sT' tk' 20) r = sT0 r ∧ sW' r = sW0 r ∧ sV' r = sV0 r ∧ sS' r = sS0 r else (if fl = 0 then sT' else zdrp sT' tk' 20) r = 0
      by_cases q : 0 < zq (zls fT fS iT tS) F r
      · rw [if_pos q]
        rw [if_pos ⟨q, by omega⟩] at b3
        obtain ⟨c1, c2, c3⟩ := b3
        refine ⟨?_, c3⟩
        by_cases w : fl = 0
        · rw [if_pos w]
          exact c1
        · rw [if_neg w]
          have c1' : sT' r = if fT r = 0 then 0 else 1 := c1
          have c2' : tk' r = if fT r = 0 then 0 else 1 := c2
          unfold zdrp
          by_cases v : fT r = 0
          · rw [if_pos v] at c2' ⊢
            rw [if_pos ⟨hr, c2'⟩]
          · rw [if_neg v] at c2'
            rw [if_neg (fun k => by rw [c2'] at k; exact absurd k.2 (by decide))]
            exact c1'
      · rw [if_neg q]
        rw [if_neg (fun k => q k.1)] at b3
        obtain ⟨c1, c2, c3, c4, c5⟩ := b3
        by_cases w : fl = 0
        · rw [if_pos w, if_pos w]
          exact ⟨c1, c3, c4, c5⟩
        · rw [if_neg w, if_neg w]
          unfold zdrp
          rw [if_pos ⟨hr, c2⟩]
  · have hx : hReadP (mk1, 1, fl, nI N, nI N, ps, pr, un, de, tk, iT, tS, rD, sT, sW, sV, sS, fT, fW, fV, fS) (nI N) = (nI (0 + min 3 (zlf (zls fT fS iT tS) F P)), (mk1, 1, fl, nI N, nI N, ps', pr', un, de, tk', iT, tS, rD, sT', sW', sV', sS', fT, fW, fV, fS)) := by
      dsimp only [hReadP]
      rw [htp]
      unfold zte
      rw [if_neg (fun k => g (hend.mp k))]
    rw [hx]
    refine ⟨by rw [Nat.zero_add]; rfl, Or.inr ⟨?_, P', a4, ⟨⟨rfl, rfl, rfl, rfl, rfl, rfl, rfl, rfl, rfl⟩, rfl, rfl, rfl, rfl, rfl, b1, b2⟩, ?_⟩⟩
    · show 3 < zlf (zls fT fS iT tS) F P
      omega
    · show zlf (zls fT fS iT tS) F P = zlf (zls fT fS iT tS) F P' + 3
      omega
end PR
