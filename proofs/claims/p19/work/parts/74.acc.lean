/-! ===== what the steps leave and change, part by part ===== -/
section PX
theorem hSet_mk (x : zHS) (b : Int32) (w : Int32) (now : Int32) : hMk (hSet x b w now) = (hMk x) := by
  obtain ⟨mk0, ho0, fl0, od0, td0, ps0, pr0, un0, de0, tk0, iT0, tS0, rD0, sT0, sW0, sV0, sS0, fT0, fW0, fV0, fS0⟩ := x
  show mk0 = mk0
  rfl
theorem hSet_ho (x : zHS) (b : Int32) (w : Int32) (now : Int32) : hHo (hSet x b w now) = (hHo x) := by
  obtain ⟨mk0, ho0, fl0, od0, td0, ps0, pr0, un0, de0, tk0, iT0, tS0, rD0, sT0, sW0, sV0, sS0, fT0, fW0, fV0, fS0⟩ := x
  show ho0 = ho0
  rfl
theorem hSet_fl (x : zHS) (b : Int32) (w : Int32) (now : Int32) : hFl (hSet x b w now) = (hFl x) := by
  obtain ⟨mk0, ho0, fl0, od0, td0, ps0, pr0, un0, de0, tk0, iT0, tS0, rD0, sT0, sW0, sV0, sS0, fT0, fW0, fV0, fS0⟩ := x
  show fl0 = fl0
  rfl
theorem hSet_od (x : zHS) (b : Int32) (w : Int32) (now : Int32) : hOd (hSet x b w now) = (hOd x) := by
  obtain ⟨mk0, ho0, fl0, od0, td0, ps0, pr0, un0, de0, tk0, iT0, tS0, rD0, sT0, sW0, sV0, sS0, fT0, fW0, fV0, fS0⟩ := x
  show od0 = od0
  rfl
theorem hSet_td (x : zHS) (b : Int32) (w : Int32) (now : Int32) : hTd (hSet x b w now) = (hTd x) := by
  obtain ⟨mk0, ho0, fl0, od0, td0, ps0, pr0, un0, de0, tk0, iT0, tS0, rD0, sT0, sW0, sV0, sS0, fT0, fW0, fV0, fS0⟩ := x
  show td0 = td0
  rfl
theorem hSet_ps (x : zHS) (b : Int32) (w : Int32) (now : Int32) : hPs (hSet x b w now) = (hPs x) := by
  obtain ⟨mk0, ho0, fl0, od0, td0, ps0, pr0, un0, de0, tk0, iT0, tS0, rD0, sT0, sW0, sV0, sS0, fT0, fW0, fV0, fS0⟩ := x
  show ps0 = ps0
  rfl
theorem hSet_pr (x : zHS) (b : Int32) (w : Int32) (now : Int32) : hPr (hSet x b w now) = (hPr x) := by
  obtain ⟨mk0, ho0, fl0, od0, td0, ps0, pr0, un0, de0, tk0, iT0, tS0, rD0, sT0, sW0, sV0, sS0, fT0, fW0, fV0, fS0⟩ := x
  show pr0 = pr0
  rfl
theorem hSet_un (x : zHS) (b : Int32) (w : Int32) (now : Int32) : hUn (hSet x b w now) = b := by
  obtain ⟨mk0, ho0, fl0, od0, td0, ps0, pr0, un0, de0, tk0, iT0, tS0, rD0, sT0, sW0, sV0, sS0, fT0, fW0, fV0, fS0⟩ := x
  show b = b
  rfl
theorem hSet_de (x : zHS) (b : Int32) (w : Int32) (now : Int32) : hDe (hSet x b w now) = w := by
  obtain ⟨mk0, ho0, fl0, od0, td0, ps0, pr0, un0, de0, tk0, iT0, tS0, rD0, sT0, sW0, sV0, sS0, fT0, fW0, fV0, fS0⟩ := x
  show w = w
  rfl
theorem hSet_tk (x : zHS) (b : Int32) (w : Int32) (now : Int32) : hTk (hSet x b w now) = (hTk x) := by
  obtain ⟨mk0, ho0, fl0, od0, td0, ps0, pr0, un0, de0, tk0, iT0, tS0, rD0, sT0, sW0, sV0, sS0, fT0, fW0, fV0, fS0⟩ := x
  show tk0 = tk0
  rfl
theorem hSet_iT (x : zHS) (b : Int32) (w : Int32) (now : Int32) : hIT (hSet x b w now) = zfg (hIT x) (hRD x) w now 20 := by
  obtain ⟨mk0, ho0, fl0, od0, td0, ps0, pr0, un0, de0, tk0, iT0, tS0, rD0, sT0, sW0, sV0, sS0, fT0, fW0, fV0, fS0⟩ := x
  show zfg iT0 rD0 w now 20 = zfg iT0 rD0 w now 20
  rfl
theorem hSet_tS (x : zHS) (b : Int32) (w : Int32) (now : Int32) : hTS (hSet x b w now) = (hTS x) := by
  obtain ⟨mk0, ho0, fl0, od0, td0, ps0, pr0, un0, de0, tk0, iT0, tS0, rD0, sT0, sW0, sV0, sS0, fT0, fW0, fV0, fS0⟩ := x
  show tS0 = tS0
  rfl
theorem hSet_rD (x : zHS) (b : Int32) (w : Int32) (now : Int32) : hRD (hSet x b w now) = (hRD x) := by
  obtain ⟨mk0, ho0, fl0, od0, td0, ps0, pr0, un0, de0, tk0, iT0, tS0, rD0, sT0, sW0, sV0, sS0, fT0, fW0, fV0, fS0⟩ := x
  show rD0 = rD0
  rfl
theorem hSet_sT (x : zHS) (b : Int32) (w : Int32) (now : Int32) : hST (hSet x b w now) = (hST x) := by
  obtain ⟨mk0, ho0, fl0, od0, td0, ps0, pr0, un0, de0, tk0, iT0, tS0, rD0, sT0, sW0, sV0, sS0, fT0, fW0, fV0, fS0⟩ := x
  show sT0 = sT0
  rfl
theorem hSet_sW (x : zHS) (b : Int32) (w : Int32) (now : Int32) : hSW (hSet x b w now) = (hSW x) := by
  obtain ⟨mk0, ho0, fl0, od0, td0, ps0, pr0, un0, de0, tk0, iT0, tS0, rD0, sT0, sW0, sV0, sS0, fT0, fW0, fV0, fS0⟩ := x
  show sW0 = sW0
  rfl
theorem hSet_sV (x : zHS) (b : Int32) (w : Int32) (now : Int32) : hSV (hSet x b w now) = (hSV x) := by
  obtain ⟨mk0, ho0, fl0, od0, td0, ps0, pr0, un0, de0, tk0, iT0, tS0, rD0, sT0, sW0, sV0, sS0, fT0, fW0, fV0, fS0⟩ := x
  show sV0 = sV0
  rfl
theorem hSet_sS (x : zHS) (b : Int32) (w : Int32) (now : Int32) : hSS (hSet x b w now) = (hSS x) := by
  obtain ⟨mk0, ho0, fl0, od0, td0, ps0, pr0, un0, de0, tk0, iT0, tS0, rD0, sT0, sW0, sV0, sS0, fT0, fW0, fV0, fS0⟩ := x
  show sS0 = sS0
  rfl
theorem hSet_fT (x : zHS) (b : Int32) (w : Int32) (now : Int32) : hFT (hSet x b w now) = (hFT x) := by
  obtain ⟨mk0, ho0, fl0, od0, td0, ps0, pr0, un0, de0, tk0, iT0, tS0, rD0, sT0, sW0, sV0, sS0, fT0, fW0, fV0, fS0⟩ := x
  show fT0 = fT0
  rfl
theorem hSet_fW (x : zHS) (b : Int32) (w : Int32) (now : Int32) : hFW (hSet x b w now) = (hFW x) := by
  obtain ⟨mk0, ho0, fl0, od0, td0, ps0, pr0, un0, de0, tk0, iT0, tS0, rD0, sT0, sW0, sV0, sS0, fT0, fW0, fV0, fS0⟩ := x
  show fW0 = fW0
  rfl
theorem hSet_fV (x : zHS) (b : Int32) (w : Int32) (now : Int32) : hFV (hSet x b w now) = (hFV x) := by
  obtain ⟨mk0, ho0, fl0, od0, td0, ps0, pr0, un0, de0, tk0, iT0, tS0, rD0, sT0, sW0, sV0, sS0, fT0, fW0, fV0, fS0⟩ := x
  show fV0 = fV0
  rfl
theorem hSet_fS (x : zHS) (b : Int32) (w : Int32) (now : Int32) : hFS (hSet x b w now) = (hFS x) := by
  obtain ⟨mk0, ho0, fl0, od0, td0, ps0, pr0, un0, de0, tk0, iT0, tS0, rD0, sT0, sW0, sV0, sS0, fT0, fW0, fV0, fS0⟩ := x
  show fS0 = fS0
  rfl
theorem hPut_mk (x : zHS) (r : Nat) (w : Int32) (v : Int32) (now : Int32) : hMk (hPut x r w v now) = (hMk x) := by
  obtain ⟨mk0, ho0, fl0, od0, td0, ps0, pr0, un0, de0, tk0, iT0, tS0, rD0, sT0, sW0, sV0, sS0, fT0, fW0, fV0, fS0⟩ := x
  show mk0 = mk0
  rfl
theorem hPut_ho (x : zHS) (r : Nat) (w : Int32) (v : Int32) (now : Int32) : hHo (hPut x r w v now) = (hHo x) := by
  obtain ⟨mk0, ho0, fl0, od0, td0, ps0, pr0, un0, de0, tk0, iT0, tS0, rD0, sT0, sW0, sV0, sS0, fT0, fW0, fV0, fS0⟩ := x
  show ho0 = ho0
  rfl
theorem hPut_fl (x : zHS) (r : Nat) (w : Int32) (v : Int32) (now : Int32) : hFl (hPut x r w v now) = (hFl x) := by
  obtain ⟨mk0, ho0, fl0, od0, td0, ps0, pr0, un0, de0, tk0, iT0, tS0, rD0, sT0, sW0, sV0, sS0, fT0, fW0, fV0, fS0⟩ := x
  show fl0 = fl0
  rfl
theorem hPut_od (x : zHS) (r : Nat) (w : Int32) (v : Int32) (now : Int32) : hOd (hPut x r w v now) = (hOd x) := by
  obtain ⟨mk0, ho0, fl0, od0, td0, ps0, pr0, un0, de0, tk0, iT0, tS0, rD0, sT0, sW0, sV0, sS0, fT0, fW0, fV0, fS0⟩ := x
  show od0 = od0
  rfl
theorem hPut_td (x : zHS) (r : Nat) (w : Int32) (v : Int32) (now : Int32) : hTd (hPut x r w v now) = (hTd x) := by
  obtain ⟨mk0, ho0, fl0, od0, td0, ps0, pr0, un0, de0, tk0, iT0, tS0, rD0, sT0, sW0, sV0, sS0, fT0, fW0, fV0, fS0⟩ := x
  show td0 = td0
  rfl
theorem hPut_ps (x : zHS) (r : Nat) (w : Int32) (v : Int32) (now : Int32) : hPs (hPut x r w v now) = (hPs x) := by
  obtain ⟨mk0, ho0, fl0, od0, td0, ps0, pr0, un0, de0, tk0, iT0, tS0, rD0, sT0, sW0, sV0, sS0, fT0, fW0, fV0, fS0⟩ := x
  show ps0 = ps0
  rfl
theorem hPut_pr (x : zHS) (r : Nat) (w : Int32) (v : Int32) (now : Int32) : hPr (hPut x r w v now) = (hPr x) := by
  obtain ⟨mk0, ho0, fl0, od0, td0, ps0, pr0, un0, de0, tk0, iT0, tS0, rD0, sT0, sW0, sV0, sS0, fT0, fW0, fV0, fS0⟩ := x
  show pr0 = pr0
  rfl
theorem hPut_un (x : zHS) (r : Nat) (w : Int32) (v : Int32) (now : Int32) : hUn (hPut x r w v now) = (hUn x) := by
  obtain ⟨mk0, ho0, fl0, od0, td0, ps0, pr0, un0, de0, tk0, iT0, tS0, rD0, sT0, sW0, sV0, sS0, fT0, fW0, fV0, fS0⟩ := x
  show un0 = un0
  rfl
theorem hPut_de (x : zHS) (r : Nat) (w : Int32) (v : Int32) (now : Int32) : hDe (hPut x r w v now) = (hDe x) := by
  obtain ⟨mk0, ho0, fl0, od0, td0, ps0, pr0, un0, de0, tk0, iT0, tS0, rD0, sT0, sW0, sV0, sS0, fT0, fW0, fV0, fS0⟩ := x
  show de0 = de0
  rfl
theorem hPut_tk (x : zHS) (r : Nat) (w : Int32) (v : Int32) (now : Int32) : hTk (hPut x r w v now) = (hTk x) := by
  obtain ⟨mk0, ho0, fl0, od0, td0, ps0, pr0, un0, de0, tk0, iT0, tS0, rD0, sT0, sW0, sV0, sS0, fT0, fW0, fV0, fS0⟩ := x
  show tk0 = tk0
  rfl
theorem hPut_iT (x : zHS) (r : Nat) (w : Int32) (v : Int32) (now : Int32) : hIT (hPut x r w v now) = upd (hIT x) r 0 := by
  obtain ⟨mk0, ho0, fl0, od0, td0, ps0, pr0, un0, de0, tk0, iT0, tS0, rD0, sT0, sW0, sV0, sS0, fT0, fW0, fV0, fS0⟩ := x
  show upd iT0 r 0 = upd iT0 r 0
  rfl
theorem hPut_tS (x : zHS) (r : Nat) (w : Int32) (v : Int32) (now : Int32) : hTS (hPut x r w v now) = (hTS x) := by
  obtain ⟨mk0, ho0, fl0, od0, td0, ps0, pr0, un0, de0, tk0, iT0, tS0, rD0, sT0, sW0, sV0, sS0, fT0, fW0, fV0, fS0⟩ := x
  show tS0 = tS0
  rfl
theorem hPut_rD (x : zHS) (r : Nat) (w : Int32) (v : Int32) (now : Int32) : hRD (hPut x r w v now) = (hRD x) := by
  obtain ⟨mk0, ho0, fl0, od0, td0, ps0, pr0, un0, de0, tk0, iT0, tS0, rD0, sT0, sW0, sV0, sS0, fT0, fW0, fV0, fS0⟩ := x
  show rD0 = rD0
  rfl
theorem hPut_sT (x : zHS) (r : Nat) (w : Int32) (v : Int32) (now : Int32) : hST (hPut x r w v now) = (hST x) := by
  obtain ⟨mk0, ho0, fl0, od0, td0, ps0, pr0, un0, de0, tk0, iT0, tS0, rD0, sT0, sW0, sV0, sS0, fT0, fW0, fV0, fS0⟩ := x
  show sT0 = sT0
  rfl
theorem hPut_sW (x : zHS) (r : Nat) (w : Int32) (v : Int32) (now : Int32) : hSW (hPut x r w v now) = (hSW x) := by
  obtain ⟨mk0, ho0, fl0, od0, td0, ps0, pr0, un0, de0, tk0, iT0, tS0, rD0, sT0, sW0, sV0, sS0, fT0, fW0, fV0, fS0⟩ := x
  show sW0 = sW0
  rfl
theorem hPut_sV (x : zHS) (r : Nat) (w : Int32) (v : Int32) (now : Int32) : hSV (hPut x r w v now) = (hSV x) := by
  obtain ⟨mk0, ho0, fl0, od0, td0, ps0, pr0, un0, de0, tk0, iT0, tS0, rD0, sT0, sW0, sV0, sS0, fT0, fW0, fV0, fS0⟩ := x
  show sV0 = sV0
  rfl
theorem hPut_sS (x : zHS) (r : Nat) (w : Int32) (v : Int32) (now : Int32) : hSS (hPut x r w v now) = (hSS x) := by
  obtain ⟨mk0, ho0, fl0, od0, td0, ps0, pr0, un0, de0, tk0, iT0, tS0, rD0, sT0, sW0, sV0, sS0, fT0, fW0, fV0, fS0⟩ := x
  show sS0 = sS0
  rfl
theorem hPut_fT (x : zHS) (r : Nat) (w : Int32) (v : Int32) (now : Int32) : hFT (hPut x r w v now) = upd (hFT x) r 1 := by
  obtain ⟨mk0, ho0, fl0, od0, td0, ps0, pr0, un0, de0, tk0, iT0, tS0, rD0, sT0, sW0, sV0, sS0, fT0, fW0, fV0, fS0⟩ := x
  show upd fT0 r 1 = upd fT0 r 1
  rfl
theorem hPut_fW (x : zHS) (r : Nat) (w : Int32) (v : Int32) (now : Int32) : hFW (hPut x r w v now) = upd (hFW x) r w := by
  obtain ⟨mk0, ho0, fl0, od0, td0, ps0, pr0, un0, de0, tk0, iT0, tS0, rD0, sT0, sW0, sV0, sS0, fT0, fW0, fV0, fS0⟩ := x
  show upd fW0 r w = upd fW0 r w
  rfl
theorem hPut_fV (x : zHS) (r : Nat) (w : Int32) (v : Int32) (now : Int32) : hFV (hPut x r w v now) = upd (hFV x) r v := by
  obtain ⟨mk0, ho0, fl0, od0, td0, ps0, pr0, un0, de0, tk0, iT0, tS0, rD0, sT0, sW0, sV0, sS0, fT0, fW0, fV0, fS0⟩ := x
  show upd fV0 r v = upd fV0 r v
  rfl
theorem hPut_fS (x : zHS) (r : Nat) (w : Int32) (v : Int32) (now : Int32) : hFS (hPut x r w v now) = upd (hFS x) r (zst (hUn x) now) := by
  obtain ⟨mk0, ho0, fl0, od0, td0, ps0, pr0, un0, de0, tk0, iT0, tS0, rD0, sT0, sW0, sV0, sS0, fT0, fW0, fV0, fS0⟩ := x
  show upd fS0 r (zst un0 now) = upd fS0 r (zst un0 now)
  rfl
theorem hRem_mk (x : zHS) (r : Nat) (now : Int32) : hMk (hRem x r now) = (hMk x) := by
  obtain ⟨mk0, ho0, fl0, od0, td0, ps0, pr0, un0, de0, tk0, iT0, tS0, rD0, sT0, sW0, sV0, sS0, fT0, fW0, fV0, fS0⟩ := x
  show mk0 = mk0
  rfl
theorem hRem_ho (x : zHS) (r : Nat) (now : Int32) : hHo (hRem x r now) = (hHo x) := by
  obtain ⟨mk0, ho0, fl0, od0, td0, ps0, pr0, un0, de0, tk0, iT0, tS0, rD0, sT0, sW0, sV0, sS0, fT0, fW0, fV0, fS0⟩ := x
  show ho0 = ho0
  rfl
theorem hRem_fl (x : zHS) (r : Nat) (now : Int32) : hFl (hRem x r now) = (hFl x) := by
  obtain ⟨mk0, ho0, fl0, od0, td0, ps0, pr0, un0, de0, tk0, iT0, tS0, rD0, sT0, sW0, sV0, sS0, fT0, fW0, fV0, fS0⟩ := x
  show fl0 = fl0
  rfl
theorem hRem_od (x : zHS) (r : Nat) (now : Int32) : hOd (hRem x r now) = (hOd x) := by
  obtain ⟨mk0, ho0, fl0, od0, td0, ps0, pr0, un0, de0, tk0, iT0, tS0, rD0, sT0, sW0, sV0, sS0, fT0, fW0, fV0, fS0⟩ := x
  show od0 = od0
  rfl
theorem hRem_td (x : zHS) (r : Nat) (now : Int32) : hTd (hRem x r now) = (hTd x) := by
  obtain ⟨mk0, ho0, fl0, od0, td0, ps0, pr0, un0, de0, tk0, iT0, tS0, rD0, sT0, sW0, sV0, sS0, fT0, fW0, fV0, fS0⟩ := x
  show td0 = td0
  rfl
theorem hRem_ps (x : zHS) (r : Nat) (now : Int32) : hPs (hRem x r now) = (hPs x) := by
  obtain ⟨mk0, ho0, fl0, od0, td0, ps0, pr0, un0, de0, tk0, iT0, tS0, rD0, sT0, sW0, sV0, sS0, fT0, fW0, fV0, fS0⟩ := x
  show ps0 = ps0
  rfl
theorem hRem_pr (x : zHS) (r : Nat) (now : Int32) : hPr (hRem x r now) = (hPr x) := by
  obtain ⟨mk0, ho0, fl0, od0, td0, ps0, pr0, un0, de0, tk0, iT0, tS0, rD0, sT0, sW0, sV0, sS0, fT0, fW0, fV0, fS0⟩ := x
  show pr0 = pr0
  rfl
theorem hRem_un (x : zHS) (r : Nat) (now : Int32) : hUn (hRem x r now) = (hUn x) := by
  obtain ⟨mk0, ho0, fl0, od0, td0, ps0, pr0, un0, de0, tk0, iT0, tS0, rD0, sT0, sW0, sV0, sS0, fT0, fW0, fV0, fS0⟩ := x
  show un0 = un0
  rfl
theorem hRem_de (x : zHS) (r : Nat) (now : Int32) : hDe (hRem x r now) = (hDe x) := by
  obtain ⟨mk0, ho0, fl0, od0, td0, ps0, pr0, un0, de0, tk0, iT0, tS0, rD0, sT0, sW0, sV0, sS0, fT0, fW0, fV0, fS0⟩ := x
  show de0 = de0
  rfl
theorem hRem_tk (x : zHS) (r : Nat) (now : Int32) : hTk (hRem x r now) = (hTk x) := by
  obtain ⟨mk0, ho0, fl0, od0, td0, ps0, pr0, un0, de0, tk0, iT0, tS0, rD0, sT0, sW0, sV0, sS0, fT0, fW0, fV0, fS0⟩ := x
  show tk0 = tk0
  rfl
theorem hRem_iT (x : zHS) (r : Nat) (now : Int32) : hIT (hRem x r now) = upd (hIT x) r (if (hDe x) ≠ 2 then (1 : Int32) else 0) := by
  obtain ⟨mk0, ho0, fl0, od0, td0, ps0, pr0, un0, de0, tk0, iT0, tS0, rD0, sT0, sW0, sV0, sS0, fT0, fW0, fV0, fS0⟩ := x
  show upd iT0 r (if de0 ≠ 2 then (1 : Int32) else 0) = upd iT0 r (if de0 ≠ 2 then (1 : Int32) else 0)
  rfl
theorem hRem_tS (x : zHS) (r : Nat) (now : Int32) : hTS (hRem x r now) = upd (hTS x) r (zst (hUn x) now) := by
  obtain ⟨mk0, ho0, fl0, od0, td0, ps0, pr0, un0, de0, tk0, iT0, tS0, rD0, sT0, sW0, sV0, sS0, fT0, fW0, fV0, fS0⟩ := x
  show upd tS0 r (zst un0 now) = upd tS0 r (zst un0 now)
  rfl
theorem hRem_rD (x : zHS) (r : Nat) (now : Int32) : hRD (hRem x r now) = upd (hRD x) r now := by
  obtain ⟨mk0, ho0, fl0, od0, td0, ps0, pr0, un0, de0, tk0, iT0, tS0, rD0, sT0, sW0, sV0, sS0, fT0, fW0, fV0, fS0⟩ := x
  show upd rD0 r now = upd rD0 r now
  rfl
theorem hRem_sT (x : zHS) (r : Nat) (now : Int32) : hST (hRem x r now) = (hST x) := by
  obtain ⟨mk0, ho0, fl0, od0, td0, ps0, pr0, un0, de0, tk0, iT0, tS0, rD0, sT0, sW0, sV0, sS0, fT0, fW0, fV0, fS0⟩ := x
  show sT0 = sT0
  rfl
theorem hRem_sW (x : zHS) (r : Nat) (now : Int32) : hSW (hRem x r now) = (hSW x) := by
  obtain ⟨mk0, ho0, fl0, od0, td0, ps0, pr0, un0, de0, tk0, iT0, tS0, rD0, sT0, sW0, sV0, sS0, fT0, fW0, fV0, fS0⟩ := x
  show sW0 = sW0
  rfl
theorem hRem_sV (x : zHS) (r : Nat) (now : Int32) : hSV (hRem x r now) = (hSV x) := by
  obtain ⟨mk0, ho0, fl0, od0, td0, ps0, pr0, un0, de0, tk0, iT0, tS0, rD0, sT0, sW0, sV0, sS0, fT0, fW0, fV0, fS0⟩ := x
  show sV0 = sV0
  rfl
theorem hRem_sS (x : zHS) (r : Nat) (now : Int32) : hSS (hRem x r now) = (hSS x) := by
  obtain ⟨mk0, ho0, fl0, od0, td0, ps0, pr0, un0, de0, tk0, iT0, tS0, rD0, sT0, sW0, sV0, sS0, fT0, fW0, fV0, fS0⟩ := x
  show sS0 = sS0
  rfl
theorem hRem_fT (x : zHS) (r : Nat) (now : Int32) : hFT (hRem x r now) = upd (hFT x) r 0 := by
  obtain ⟨mk0, ho0, fl0, od0, td0, ps0, pr0, un0, de0, tk0, iT0, tS0, rD0, sT0, sW0, sV0, sS0, fT0, fW0, fV0, fS0⟩ := x
  show upd fT0 r 0 = upd fT0 r 0
  rfl
theorem hRem_fW (x : zHS) (r : Nat) (now : Int32) : hFW (hRem x r now) = (hFW x) := by
  obtain ⟨mk0, ho0, fl0, od0, td0, ps0, pr0, un0, de0, tk0, iT0, tS0, rD0, sT0, sW0, sV0, sS0, fT0, fW0, fV0, fS0⟩ := x
  show fW0 = fW0
  rfl
theorem hRem_fV (x : zHS) (r : Nat) (now : Int32) : hFV (hRem x r now) = (hFV x) := by
  obtain ⟨mk0, ho0, fl0, od0, td0, ps0, pr0, un0, de0, tk0, iT0, tS0, rD0, sT0, sW0, sV0, sS0, fT0, fW0, fV0, fS0⟩ := x
  show fV0 = fV0
  rfl
theorem hRem_fS (x : zHS) (r : Nat) (now : Int32) : hFS (hRem x r now) = (hFS x) := by
  obtain ⟨mk0, ho0, fl0, od0, td0, ps0, pr0, un0, de0, tk0, iT0, tS0, rD0, sT0, sW0, sV0, sS0, fT0, fW0, fV0, fS0⟩ := x
  show fS0 = fS0
  rfl
theorem hAge_mk (x : zHS) (now : Int32) : hMk (hAge x now) = (hMk x) := by
  obtain ⟨mk0, ho0, fl0, od0, td0, ps0, pr0, un0, de0, tk0, iT0, tS0, rD0, sT0, sW0, sV0, sS0, fT0, fW0, fV0, fS0⟩ := x
  show mk0 = mk0
  rfl
theorem hAge_ho (x : zHS) (now : Int32) : hHo (hAge x now) = (hHo x) := by
  obtain ⟨mk0, ho0, fl0, od0, td0, ps0, pr0, un0, de0, tk0, iT0, tS0, rD0, sT0, sW0, sV0, sS0, fT0, fW0, fV0, fS0⟩ := x
  show ho0 = ho0
  rfl
theorem hAge_fl (x : zHS) (now : Int32) : hFl (hAge x now) = (hFl x) := by
  obtain ⟨mk0, ho0, fl0, od0, td0, ps0, pr0, un0, de0, tk0, iT0, tS0, rD0, sT0, sW0, sV0, sS0, fT0, fW0, fV0, fS0⟩ := x
  show fl0 = fl0
  rfl
theorem hAge_od (x : zHS) (now : Int32) : hOd (hAge x now) = (hOd x) := by
  obtain ⟨mk0, ho0, fl0, od0, td0, ps0, pr0, un0, de0, tk0, iT0, tS0, rD0, sT0, sW0, sV0, sS0, fT0, fW0, fV0, fS0⟩ := x
  show od0 = od0
  rfl
theorem hAge_td (x : zHS) (now : Int32) : hTd (hAge x now) = (hTd x) := by
  obtain ⟨mk0, ho0, fl0, od0, td0, ps0, pr0, un0, de0, tk0, iT0, tS0, rD0, sT0, sW0, sV0, sS0, fT0, fW0, fV0, fS0⟩ := x
  show td0 = td0
  rfl
theorem hAge_ps (x : zHS) (now : Int32) : hPs (hAge x now) = (hPs x) := by
  obtain ⟨mk0, ho0, fl0, od0, td0, ps0, pr0, un0, de0, tk0, iT0, tS0, rD0, sT0, sW0, sV0, sS0, fT0, fW0, fV0, fS0⟩ := x
  show ps0 = ps0
  rfl
theorem hAge_pr (x : zHS) (now : Int32) : hPr (hAge x now) = (hPr x) := by
  obtain ⟨mk0, ho0, fl0, od0, td0, ps0, pr0, un0, de0, tk0, iT0, tS0, rD0, sT0, sW0, sV0, sS0, fT0, fW0, fV0, fS0⟩ := x
  show pr0 = pr0
  rfl
theorem hAge_un (x : zHS) (now : Int32) : hUn (hAge x now) = (hUn x) := by
  obtain ⟨mk0, ho0, fl0, od0, td0, ps0, pr0, un0, de0, tk0, iT0, tS0, rD0, sT0, sW0, sV0, sS0, fT0, fW0, fV0, fS0⟩ := x
  show un0 = un0
  rfl
theorem hAge_de (x : zHS) (now : Int32) : hDe (hAge x now) = (hDe x) := by
  obtain ⟨mk0, ho0, fl0, od0, td0, ps0, pr0, un0, de0, tk0, iT0, tS0, rD0, sT0, sW0, sV0, sS0, fT0, fW0, fV0, fS0⟩ := x
  show de0 = de0
  rfl
theorem hAge_tk (x : zHS) (now : Int32) : hTk (hAge x now) = (hTk x) := by
  obtain ⟨mk0, ho0, fl0, od0, td0, ps0, pr0, un0, de0, tk0, iT0, tS0, rD0, sT0, sW0, sV0, sS0, fT0, fW0, fV0, fS0⟩ := x
  show tk0 = tk0
  rfl
theorem hAge_iT (x : zHS) (now : Int32) : hIT (hAge x now) = zfg (hIT x) (hRD x) (hDe x) now 20 := by
  obtain ⟨mk0, ho0, fl0, od0, td0, ps0, pr0, un0, de0, tk0, iT0, tS0, rD0, sT0, sW0, sV0, sS0, fT0, fW0, fV0, fS0⟩ := x
  show zfg iT0 rD0 de0 now 20 = zfg iT0 rD0 de0 now 20
  rfl
theorem hAge_tS (x : zHS) (now : Int32) : hTS (hAge x now) = (hTS x) := by
  obtain ⟨mk0, ho0, fl0, od0, td0, ps0, pr0, un0, de0, tk0, iT0, tS0, rD0, sT0, sW0, sV0, sS0, fT0, fW0, fV0, fS0⟩ := x
  show tS0 = tS0
  rfl
theorem hAge_rD (x : zHS) (now : Int32) : hRD (hAge x now) = (hRD x) := by
  obtain ⟨mk0, ho0, fl0, od0, td0, ps0, pr0, un0, de0, tk0, iT0, tS0, rD0, sT0, sW0, sV0, sS0, fT0, fW0, fV0, fS0⟩ := x
  show rD0 = rD0
  rfl
theorem hAge_sT (x : zHS) (now : Int32) : hST (hAge x now) = (hST x) := by
  obtain ⟨mk0, ho0, fl0, od0, td0, ps0, pr0, un0, de0, tk0, iT0, tS0, rD0, sT0, sW0, sV0, sS0, fT0, fW0, fV0, fS0⟩ := x
  show sT0 = sT0
  rfl
theorem hAge_sW (x : zHS) (now : Int32) : hSW (hAge x now) = (hSW x) := by
  obtain ⟨mk0, ho0, fl0, od0, td0, ps0, pr0, un0, de0, tk0, iT0, tS0, rD0, sT0, sW0, sV0, sS0, fT0, fW0, fV0, fS0⟩ := x
  show sW0 = sW0
  rfl
theorem hAge_sV (x : zHS) (now : Int32) : hSV (hAge x now) = (hSV x) := by
  obtain ⟨mk0, ho0, fl0, od0, td0, ps0, pr0, un0, de0, tk0, iT0, tS0, rD0, sT0, sW0, sV0, sS0, fT0, fW0, fV0, fS0⟩ := x
  show sV0 = sV0
  rfl
theorem hAge_sS (x : zHS) (now : Int32) : hSS (hAge x now) = (hSS x) := by
  obtain ⟨mk0, ho0, fl0, od0, td0, ps0, pr0, un0, de0, tk0, iT0, tS0, rD0, sT0, sW0, sV0, sS0, fT0, fW0, fV0, fS0⟩ := x
  show sS0 = sS0
  rfl
theorem hAge_fT (x : zHS) (now : Int32) : hFT (hAge x now) = (hFT x) := by
  obtain ⟨mk0, ho0, fl0, od0, td0, ps0, pr0, un0, de0, tk0, iT0, tS0, rD0, sT0, sW0, sV0, sS0, fT0, fW0, fV0, fS0⟩ := x
  show fT0 = fT0
  rfl
theorem hAge_fW (x : zHS) (now : Int32) : hFW (hAge x now) = (hFW x) := by
  obtain ⟨mk0, ho0, fl0, od0, td0, ps0, pr0, un0, de0, tk0, iT0, tS0, rD0, sT0, sW0, sV0, sS0, fT0, fW0, fV0, fS0⟩ := x
  show fW0 = fW0
  rfl
theorem hAge_fV (x : zHS) (now : Int32) : hFV (hAge x now) = (hFV x) := by
  obtain ⟨mk0, ho0, fl0, od0, td0, ps0, pr0, un0, de0, tk0, iT0, tS0, rD0, sT0, sW0, sV0, sS0, fT0, fW0, fV0, fS0⟩ := x
  show fV0 = fV0
  rfl
theorem hAge_fS (x : zHS) (now : Int32) : hFS (hAge x now) = (hFS x) := by
  obtain ⟨mk0, ho0, fl0, od0, td0, ps0, pr0, un0, de0, tk0, iT0, tS0, rD0, sT0, sW0, sV0, sS0, fT0, fW0, fV0, fS0⟩ := x
  show fS0 = fS0
  rfl
end PX
