set_option maxHeartbeats 8000000 in
set_option maxRecDepth 100000 in
theorem lc_set {p : Program} {l : Launch} {e : Env} {s : State} {m : MethodId} {below : List Frame} {meth : Method} {c : Code} {Q : State → Prop} {A : Nat → Prop} {b L : Nat} {xs : Nat → Int32} {dC : Nat → ClassId} {dI : Nat → Nat → Nat} {cI cZ cH cJ : ClassId} {x0 xq : Nat} {xg : Nat → Option Nat} {had : Nat → Nat → Nat} {ay az ad ag : Nat} (hF : LFix p l s m meth c b L xs dC dI cI cZ cH cJ A xg had) {cl0 sl0 : Nat} (hc0 : cl0 + 1 ≤ 600104) (hs0 : sl0 + 6 ≤ 7301314) {n X V hw ca r : Nat} (hc3 : ca < 3) (hrr : r < 20) (hV : V < 2 ^ 31) (hk : ∀ (H : Heap) (locs : List Loc) (ls : Array Slot), LInv dC dI cI cZ cH cJ A s x0 xq xg had ay az ad ag H locs → lv_has ls 17 [(0, .ref b), (1, .ref x0), (2, .ref ay), (3, .ref az), (4, .ref ad), (5, .ref ag), (6, .int 1), (7, .int (nI n)), (8, .int (nI X))] → W p l e room_1 s m #[Value.ref b] below meth c H locs (cl0 + 1) (sl0 + 6) Q (F0 m 692 ls [])) {H : Heap} {locs : List Loc} (hI0 : LInv dC dI cI cZ cH cJ A s x0 xq xg had ay az ad ag H locs) {ls : Array Slot} (hl : lv_has ls 17 [(0, .ref b), (1, .ref x0), (2, .ref ay), (3, .ref az), (4, .ref ad), (5, .ref ag), (7, .int (nI n)), (8, .int (nI X)), (9, .int (nI V)), (10, .int (nI hw)), (11, .int (nI ca)), (12, .int (nI r))]) : W p l e room_1 s m #[Value.ref b] below meth c H locs cl0 sl0 Q (F0 m 203 ls []) := by
  obtain ⟨hC0, hst, hA, hbA, hK, hT1, hT2, hT3, hT4, hT5, hg, hL⟩ := hF
  obtain ⟨hx, hb, hr, hml, hown, hts0, hX, hbl, hlocks, hgv⟩ := hC0
  have hb : c.code = cL_law := hb
  have hown : s.vm.findClass RL = some m.cls := hown
  have hts : ∀ w ∈ wsL_law, w.before #[Value.ref b] s = true := fun w h => hts0 w (wsL_law_in w h)
  obtain ⟨N, σ, fy, fz, fd, fg, hI, hP, hD, hS⟩ := hI0
  have hN := hI.1
  obtain ⟨⟨u, w, mm, hCF⟩, hCZ, hHo0, hG0⟩ := hI.2.1 ca hc3
  have hca : ca < 4 := by omega
  have hu1 := hCF.1.1
  have hu2 := hCF.1.2.1
  have hw2 := hCF.1.2.2.1
  have hmN := hCF.1.2.2.2.1
  have hUn1 : hUn (σ ca) = nI u := hCF.1.2.2.2.2.1
  have hDe1 : hDe (σ ca) = nI w := hCF.1.2.2.2.2.2.1
  have hMk1 : hMk (σ ca) = nI mm := hCF.1.2.2.2.2.2.2.1
  have hg0 : fg (4 * ca) = nI u := hCF.1.2.2.2.2.2.2.2.1
  have hg1 : fg (4 * ca + 1) = nI w := hCF.1.2.2.2.2.2.2.2.2.1
  have hP : va_P (dC, dI) vwCl ([(ay, .inl (cI, 60, .inl fy)), (az, .inl (cI, 60, .inl fz)), (ad, .inl (cI, 60, .inl fd)), (ag, .inl (cI, 12, .inl fg))] ++ zOb cI cZ cH x0 xq xg had (nI N) σ) H := hP
  have hD : va_D A ([(ay, .inl (cI, 60, .inl fy)), (az, .inl (cI, 60, .inl fz)), (ad, .inl (cI, 60, .inl fd)), (ag, .inl (cI, 12, .inl fg))] ++ zOb cI cZ cH x0 xq xg had (nI N) σ) := hD
  refine lv_aload hx hb dL_law_203 (lv_at hl 5 rfl) ?_
  refine lv_iconst (v := 4) hx hb dL_law_205 (by decide) ?_
  refine lv_iload hx hb dL_law_206 (lv_at hl 10 rfl) ?_
  refine lv_imul hx hb dL_law_208 ?_
  refine z_tv (v := nI (4 * ca)) (pk_mul 4 ca) ?_
  refine z_iald hx hb hK hP 3 rfl (zix_nI (by first | assumption | omega) (by decide)) dL_law_209 ?_
  refine z_tv (v := fg (4 * ca)) (rfl) ?_
  refine z_tv (v := nI u) (hg0) ?_
  refine lv_istore (lv' := [(13, .int (nI u)), (0, .ref b), (1, .ref x0), (2, .ref ay), (3, .ref az), (4, .ref ad), (5, .ref ag), (7, .int (nI n)), (8, .int (nI X)), (9, .int (nI V)), (10, .int (nI hw)), (11, .int (nI ca)), (12, .int (nI r))]) hx hb dL_law_210 hl (by decide) rfl (fun ls hl => ?_)
  refine lv_aload hx hb dL_law_212 (lv_at hl 6 rfl) ?_
  refine lv_iconst (v := 4) hx hb dL_law_214 (by decide) ?_
  refine lv_iload hx hb dL_law_215 (lv_at hl 11 rfl) ?_
  refine lv_imul hx hb dL_law_217 ?_
  refine z_tv (v := nI (4 * ca)) (pk_mul 4 ca) ?_
  refine lv_iconst (v := 1) hx hb dL_law_218 (by decide) ?_
  refine lv_iload hx hb dL_law_219 (lv_at hl 9 rfl) ?_
  refine lv_bipush (v := 16) hx hb dL_law_221 (by decide) ?_
  refine lv_idiv hx hb dL_law_223 (by decide) ?_
  refine z_tv (v := nI (V / 16)) (pk_div (d := 16) (by omega) (by decide) (by decide)) ?_
  refine lv_iload hx hb dL_law_224 (lv_at hl 9 rfl) ?_
  refine lv_iconst (v := 5) hx hb dL_law_226 (by decide) ?_
  refine lv_irem hx hb dL_law_227 (by decide) ?_
  refine z_tv (v := nI (V % 5)) (pk_rem (d := 5) (by omega) (by decide) (by decide)) ?_
  refine lv_if_ne (tgt := 236) hx hb dL_law_228 (by decide) (fun c_228 => ?_) (fun c_228 => ?_)
  · skip
    refine lv_iconst (v := 5) hx hb dL_law_236 (by decide) ?_
    refine lv_irem hx hb dL_law_237 (by decide) ?_
    refine z_tv (v := nI (V / 16 % 5)) (pk_rem (d := 5) (by omega) (by decide) (by decide)) ?_
    refine lv_iadd hx hb dL_law_238 ?_
    refine z_tv (v := nI (1 + (V / 16 % 5))) (nI_add 1 (V / 16 % 5)) ?_
    refine z_iast hx hb hK hP hD hS 3 rfl (zix_nI (by first | assumption | omega) (by decide)) dL_law_239 (fun H locs hP hD hS => ?_)
    have hP : va_P (dC, dI) vwCl ([(ay, .inl (cI, 60, .inl fy)), (az, .inl (cI, 60, .inl fz)), (ad, .inl (cI, 60, .inl fd)), (ag, .inl (cI, 12, .inl (upd fg (4 * ca) (nI (1 + (V / 16 % 5))))))] ++ zOb cI cZ cH x0 xq xg had (nI N) σ) H := hP
    have hD : va_D A ([(ay, .inl (cI, 60, .inl fy)), (az, .inl (cI, 60, .inl fz)), (ad, .inl (cI, 60, .inl fd)), (ag, .inl (cI, 12, .inl (upd fg (4 * ca) (nI (1 + (V / 16 % 5))))))] ++ zOb cI cZ cH x0 xq xg had (nI N) σ) := hD
    refine lv_aload hx hb dL_law_240 (lv_at hl 6 rfl) ?_
    refine lv_iconst (v := 4) hx hb dL_law_242 (by decide) ?_
    refine lv_iload hx hb dL_law_243 (lv_at hl 11 rfl) ?_
    refine lv_imul hx hb dL_law_245 ?_
    refine z_tv (v := nI (4 * ca)) (pk_mul 4 ca) ?_
    refine lv_iconst (v := 1) hx hb dL_law_246 (by decide) ?_
    refine lv_iadd hx hb dL_law_247 ?_
    refine z_tv (v := nI ((4 * ca) + 1)) (nI_1 (4 * ca)) ?_
    refine lv_iload hx hb dL_law_248 (lv_at hl 9 rfl) ?_
    refine lv_sipush (v := 480) hx hb dL_law_250 (by decide) ?_
    refine lv_idiv hx hb dL_law_253 (by decide) ?_
    refine z_tv (v := nI (V / 480)) (pk_div (d := 480) (by omega) (by decide) (by decide)) ?_
    refine lv_iconst (v := 3) hx hb dL_law_254 (by decide) ?_
    refine lv_irem hx hb dL_law_255 (by decide) ?_
    refine z_tv (v := nI (V / 480 % 3)) (pk_rem (d := 3) (by omega) (by decide) (by decide)) ?_
    refine z_iast hx hb hK hP hD hS 3 rfl (zix_nI (by first | assumption | omega) (by decide)) dL_law_256 (fun H locs hP hD hS => ?_)
    have hP : va_P (dC, dI) vwCl ([(ay, .inl (cI, 60, .inl fy)), (az, .inl (cI, 60, .inl fz)), (ad, .inl (cI, 60, .inl fd)), (ag, .inl (cI, 12, .inl (upd (upd fg (4 * ca) (nI (1 + (V / 16 % 5)))) ((4 * ca) + 1) (nI (V / 480 % 3)))))] ++ zOb cI cZ cH x0 xq xg had (nI N) σ) H := hP
    have hD : va_D A ([(ay, .inl (cI, 60, .inl fy)), (az, .inl (cI, 60, .inl fz)), (ad, .inl (cI, 60, .inl fd)), (ag, .inl (cI, 12, .inl (upd (upd fg (4 * ca) (nI (1 + (V / 16 % 5)))) ((4 * ca) + 1) (nI (V / 480 % 3)))))] ++ zOb cI cZ cH x0 xq xg had (nI N) σ) := hD
    refine lv_aload_n hx hb dL_law_257 rfl (lv_at hl 3 rfl) ?_
    refine lv_aload hx hb dL_law_258 (lv_at hl 5 rfl) ?_
    refine lv_aload hx hb dL_law_260 (lv_at hl 6 rfl) ?_
    refine lv_iload hx hb dL_law_262 (lv_at hl 11 rfl) ?_
    refine lv_aload_n hx hb dL_law_264 rfl (lv_at hl 2 rfl) ?_
    refine z_cRi (va_runV (As := []) (rest := [.int (nI ca), .ref ag, .ref ad, .ref ay]) ⟨hx, hb, hml, hown, hts⟩ (c_today l dC dI cI cZ cH cJ x0 xq (nI N) xg had hg σ) (cwV 0 hts gL_law_X3_today rfl rfl rfl (by decide +kernel) ⟨Nat.le_of_ble_eq_true rfl, Nat.le_of_ble_eq_true rfl⟩) (zPreR1 hK (zP_r hP) (zrecv hK (zP_r hP))) rfl rfl hl.1 rfl (lv_room (Nat.le_of_ble_eq_true rfl)) dL_law_265 ⟨show _ ≤ 600104 by omega, show _ ≤ 7301314 by omega⟩) ?_
    refine z_tv (v := nI N) rfl ?_
    refine z_cGv (wr := [(az, .inl (cI, 60, .inl fz))] ++ zOb cI cZ cH x0 xq xg had (nI N) σ) (big1 := [(ay, .inl (cI, 60, .inl (zcl fy fd ((upd (upd fg (4 * ca) (nI (1 + (V / 16 % 5)))) ((4 * ca) + 1) (nI (V / 480 % 3))) (4 * ca + 1)) (nI N) (20 * ca) 20))), (az, .inl (cI, 60, .inl fz)), (ad, .inl (cI, 60, .inl fd)), (ag, .inl (cI, 12, .inl (upd (upd fg (4 * ca) (nI (1 + (V / 16 % 5)))) ((4 * ca) + 1) (nI (V / 480 % 3)))))] ++ zOb cI cZ cH x0 xq xg had (nI N) σ) (va_runS (As := [.ref ay, .ref ad, .ref ag, .int (nI ca), .int (nI N)]) (rest := []) ⟨hx, hb, hml, hown, hts⟩ (kL_clear l dC dI cI cZ cH cJ ay ad ag fy fd (upd (upd fg (4 * ca) (nI (1 + (V / 16 % 5)))) ((4 * ca) + 1) (nI (V / 480 % 3))) ca (by first | assumption | omega) (nI N) H.size) (va_cwS 5 hts gL_law_L_clear rfl rfl rfl (by decide +kernel) ⟨Nat.le_of_ble_eq_true rfl, Nat.le_of_ble_eq_true rfl⟩) (zPreS1 hK (zP_sub (wc := [(ay, .inl (cI, 60, .inl fy)), (ad, .inl (cI, 60, .inl fd)), (ag, .inl (cI, 12, .inl (upd (upd fg (4 * ca) (nI (1 + (V / 16 % 5)))) ((4 * ca) + 1) (nI (V / 480 % 3)))))]) (is := [0, 2, 3]) (zP_l hP) rfl) ((zD_l hD).sub (ws' := [(ay, .inl (cI, 60, .inl fy)), (ad, .inl (cI, 60, .inl fd)), (ag, .inl (cI, 12, .inl (upd (upd fg (4 * ca) (nI (1 + (V / 16 % 5)))) ((4 * ca) + 1) (nI (V / 480 % 3)))))]) [0, 2, 3] (by decide) rfl)) rfl rfl hl.1 rfl (lv_room (Nat.le_of_ble_eq_true rfl)) dL_law_268 ⟨show _ ≤ 600104 by omega, show _ ≤ 7301314 by omega⟩) hP hD hS hA (zeq_app (zeI (ws := [(ay, .inl (cI, 60, .inl fy)), (az, .inl (cI, 60, .inl fz)), (ad, .inl (cI, 60, .inl fd)), (ag, .inl (cI, 12, .inl (upd (upd fg (4 * ca) (nI (1 + (V / 16 % 5)))) ((4 * ca) + 1) (nI (V / 480 % 3)))))]) (wc := [(ay, .inl (cI, 60, .inl fy)), (ad, .inl (cI, 60, .inl fd)), (ag, .inl (cI, 12, .inl (upd (upd fg (4 * ca) (nI (1 + (V / 16 % 5)))) ((4 * ca) + 1) (nI (V / 480 % 3))))), (az, .inl (cI, 60, .inl fz))]) [0, 2, 3, 1] [0, 3, 1, 2] rfl rfl (by decide) (by decide)) (zOb cI cZ cH x0 xq xg had (nI N) σ)) (zeq_app (zeI (ws := [(ay, .inl (cI, 60, .inl (zcl fy fd ((upd (upd fg (4 * ca) (nI (1 + (V / 16 % 5)))) ((4 * ca) + 1) (nI (V / 480 % 3))) (4 * ca + 1)) (nI N) (20 * ca) 20))), (ad, .inl (cI, 60, .inl fd)), (ag, .inl (cI, 12, .inl (upd (upd fg (4 * ca) (nI (1 + (V / 16 % 5)))) ((4 * ca) + 1) (nI (V / 480 % 3))))), (az, .inl (cI, 60, .inl fz))]) (wc := [(ay, .inl (cI, 60, .inl (zcl fy fd ((upd (upd fg (4 * ca) (nI (1 + (V / 16 % 5)))) ((4 * ca) + 1) (nI (V / 480 % 3))) (4 * ca + 1)) (nI N) (20 * ca) 20))), (az, .inl (cI, 60, .inl fz)), (ad, .inl (cI, 60, .inl fd)), (ag, .inl (cI, 12, .inl (upd (upd fg (4 * ca) (nI (1 + (V / 16 % 5)))) ((4 * ca) + 1) (nI (V / 480 % 3)))))]) [0, 3, 1, 2] [0, 2, 3, 1] rfl rfl (by decide) (by decide)) (zOb cI cZ cH x0 xq xg had (nI N) σ)) (fun H locs hP hD hS => ?_)
    have hP : va_P (dC, dI) vwCl ([(ay, .inl (cI, 60, .inl (zcl fy fd ((upd (upd fg (4 * ca) (nI (1 + (V / 16 % 5)))) ((4 * ca) + 1) (nI (V / 480 % 3))) (4 * ca + 1)) (nI N) (20 * ca) 20))), (az, .inl (cI, 60, .inl fz)), (ad, .inl (cI, 60, .inl fd)), (ag, .inl (cI, 12, .inl (upd (upd fg (4 * ca) (nI (1 + (V / 16 % 5)))) ((4 * ca) + 1) (nI (V / 480 % 3)))))] ++ zOb cI cZ cH x0 xq xg had (nI N) σ) H := hP
    have hD : va_D A ([(ay, .inl (cI, 60, .inl (zcl fy fd ((upd (upd fg (4 * ca) (nI (1 + (V / 16 % 5)))) ((4 * ca) + 1) (nI (V / 480 % 3))) (4 * ca + 1)) (nI N) (20 * ca) 20))), (az, .inl (cI, 60, .inl fz)), (ad, .inl (cI, 60, .inl fd)), (ag, .inl (cI, 12, .inl (upd (upd fg (4 * ca) (nI (1 + (V / 16 % 5)))) ((4 * ca) + 1) (nI (V / 480 % 3)))))] ++ zOb cI cZ cH x0 xq xg had (nI N) σ) := hD
    refine lv_aload_n hx hb dL_law_271 rfl (lv_at hl 2 rfl) ?_
    refine lv_iconst (v := 0) hx hb dL_law_272 (by decide) ?_
    refine lv_iload hx hb dL_law_273 (lv_at hl 11 rfl) ?_
    refine lv_aload hx hb dL_law_275 (lv_at hl 6 rfl) ?_
    refine lv_iconst (v := 4) hx hb dL_law_277 (by decide) ?_
    refine lv_iload hx hb dL_law_278 (lv_at hl 11 rfl) ?_
    refine lv_imul hx hb dL_law_280 ?_
    refine z_tv (v := nI (4 * ca)) (pk_mul 4 ca) ?_
    refine z_iald hx hb hK hP 3 rfl (zix_nI (by first | assumption | omega) (by decide)) dL_law_281 ?_
    refine z_tv (v := (upd (upd fg (4 * ca) (nI (1 + (V / 16 % 5)))) ((4 * ca) + 1) (nI (V / 480 % 3))) (4 * ca)) (rfl) ?_
    refine z_tv (v := nI (1 + (V / 16 % 5))) ((pk_un (by omega)).trans pk_us) ?_
    refine lv_aload hx hb dL_law_282 (lv_at hl 6 rfl) ?_
    refine lv_iconst (v := 4) hx hb dL_law_284 (by decide) ?_
    refine lv_iload hx hb dL_law_285 (lv_at hl 11 rfl) ?_
    refine lv_imul hx hb dL_law_287 ?_
    refine z_tv (v := nI (4 * ca)) (pk_mul 4 ca) ?_
    refine lv_iconst (v := 1) hx hb dL_law_288 (by decide) ?_
    refine lv_iadd hx hb dL_law_289 ?_
    refine z_tv (v := nI ((4 * ca) + 1)) (nI_1 (4 * ca)) ?_
    refine z_iald hx hb hK hP 3 rfl (zix_nI (by first | assumption | omega) (by decide)) dL_law_290 ?_
    refine z_tv (v := (upd (upd fg (4 * ca) (nI (1 + (V / 16 % 5)))) ((4 * ca) + 1) (nI (V / 480 % 3))) ((4 * ca) + 1)) (rfl) ?_
    refine z_tv (v := nI (V / 480 % 3)) (pk_us) ?_
    refine lv_iconst (v := 0) hx hb dL_law_291 (by decide) ?_
    refine z_cGi (wr := [(ay, .inl (cI, 60, .inl (zcl fy fd ((upd (upd fg (4 * ca) (nI (1 + (V / 16 % 5)))) ((4 * ca) + 1) (nI (V / 480 % 3))) (4 * ca + 1)) (nI N) (20 * ca) 20))), (az, .inl (cI, 60, .inl fz)), (ad, .inl (cI, 60, .inl fd)), (ag, .inl (cI, 12, .inl (upd (upd fg (4 * ca) (nI (1 + (V / 16 % 5)))) ((4 * ca) + 1) (nI (V / 480 % 3)))))]) (big1 := [(ay, .inl (cI, 60, .inl (zcl fy fd ((upd (upd fg (4 * ca) (nI (1 + (V / 16 % 5)))) ((4 * ca) + 1) (nI (V / 480 % 3))) (4 * ca + 1)) (nI N) (20 * ca) 20))), (az, .inl (cI, 60, .inl fz)), (ad, .inl (cI, 60, .inl fd)), (ag, .inl (cI, 12, .inl (upd (upd fg (4 * ca) (nI (1 + (V / 16 % 5)))) ((4 * ca) + 1) (nI (V / 480 % 3)))))] ++ zOb cI cZ cH x0 xq xg had (nI N) (zup σ ca (hSet (σ ca) (nI (1 + (V / 16 % 5))) (nI (V / 480 % 3)) (nI N)))) (vx_runSW (As := [.ref x0, .int 0, .int (nI ca), .int (nI (1 + (V / 16 % 5))), .int (nI (V / 480 % 3)), .int 0]) (rest := []) ⟨hx, hb, hml, hown, hts⟩ (kL_far_set l dC dI cI cZ cH cJ x0 xq (nI N) xg had hg σ ca (by first | assumption | omega) (nI (1 + (V / 16 % 5))) (nI (V / 480 % 3)) (zin_u (by omega) (by omega)) (zin_w (by omega)) H.size) (vx_cwSW 6 hts gL_law_L_far rfl rfl rfl (by decide +kernel) ⟨Nat.le_of_ble_eq_true rfl, Nat.le_of_ble_eq_true rfl⟩) (zPreS1 hK (zP_r hP) (zD_r hD)) rfl rfl hl.1 rfl (lv_room (Nat.le_of_ble_eq_true rfl)) dL_law_292 ⟨show _ ≤ 600104 by omega, show _ ≤ 7301314 by omega⟩) hP hD hS hA (zeq_comm _ _) (zeq_comm _ _) (fun H locs hP hD hS => ?_)
    have hP : va_P (dC, dI) vwCl ([(ay, .inl (cI, 60, .inl (zcl fy fd ((upd (upd fg (4 * ca) (nI (1 + (V / 16 % 5)))) ((4 * ca) + 1) (nI (V / 480 % 3))) (4 * ca + 1)) (nI N) (20 * ca) 20))), (az, .inl (cI, 60, .inl fz)), (ad, .inl (cI, 60, .inl fd)), (ag, .inl (cI, 12, .inl (upd (upd fg (4 * ca) (nI (1 + (V / 16 % 5)))) ((4 * ca) + 1) (nI (V / 480 % 3)))))] ++ zOb cI cZ cH x0 xq xg had (nI N) (zup σ ca (hSet (σ ca) (nI (1 + (V / 16 % 5))) (nI (V / 480 % 3)) (nI N)))) H := hP
    have hD : va_D A ([(ay, .inl (cI, 60, .inl (zcl fy fd ((upd (upd fg (4 * ca) (nI (1 + (V / 16 % 5)))) ((4 * ca) + 1) (nI (V / 480 % 3))) (4 * ca + 1)) (nI N) (20 * ca) 20))), (az, .inl (cI, 60, .inl fz)), (ad, .inl (cI, 60, .inl fd)), (ag, .inl (cI, 12, .inl (upd (upd fg (4 * ca) (nI (1 + (V / 16 % 5)))) ((4 * ca) + 1) (nI (V / 480 % 3)))))] ++ zOb cI cZ cH x0 xq xg had (nI N) (zup σ ca (hSet (σ ca) (nI (1 + (V / 16 % 5))) (nI (V / 480 % 3)) (nI N)))) := hD
    refine z_tv (v := nI u) (hUn1) ?_
    refine lv_iload hx hb dL_law_295 (lv_at hl 0 rfl) ?_
    refine lv_icmp_ne (tgt := 304) hx hb dL_law_297 (by decide) (fun c_297 => absurd c_297 (fun h => h rfl)) (fun c_297 => ?_)
    refine lv_iconst (v := 1) hx hb dL_law_300 (by decide) ?_
    refine lv_goto (tgt := 305) hx hb dL_law_301 (by decide) ?_
    refine lv_istore (lv' := [(6, .int 1), (13, .int (nI u)), (0, .ref b), (1, .ref x0), (2, .ref ay), (3, .ref az), (4, .ref ad), (5, .ref ag), (7, .int (nI n)), (8, .int (nI X)), (9, .int (nI V)), (10, .int (nI hw)), (11, .int (nI ca)), (12, .int (nI r))]) hx hb dL_law_305 hl (by decide) rfl (fun ls hl => ?_)
    refine lv_goto (tgt := 692) hx hb dL_law_307 (by decide) ?_
    refine W.widen (k := cl0 + 1) (n := sl0 + 6) (by omega) (by omega) ?_
    exact hk _ _ _ ⟨N, (zup σ ca (hSet (σ ca) (nI (1 + (V / 16 % 5))) (nI (V / 480 % 3)) (nI N))), (zcl fy fd ((upd (upd fg (4 * ca) (nI (1 + (V / 16 % 5)))) ((4 * ca) + 1) (nI (V / 480 % 3))) (4 * ca + 1)) (nI N) (20 * ca) 20), fz, fd, (upd (upd fg (4 * ca) (nI (1 + (V / 16 % 5)))) ((4 * ca) + 1) (nI (V / 480 % 3))), (zInv_up hI hc3 (fun c k h hk => zcl_o h hk) (fun _ _ _ _ => rfl) (fun _ _ _ _ => rfl) (fun c k h hk => (upd_g (r := 1) h (by decide) hk).trans (upd_g (r := 0) h (by decide) hk)) (by rw [show (upd (upd fg (4 * ca) (nI (1 + (V / 16 % 5)))) ((4 * ca) + 1) (nI (V / 480 % 3))) (4 * ca + 1) = nI (V / 480 % 3) from pk_us]; exact r_set hCF hCZ hN (by omega) (by omega) (by omega) ((pk_un (by omega)).trans pk_us) pk_us ((pk_un (by omega)).trans ((pk_un (by omega)).trans hG0)) hHo0)), hP, hD, hS⟩ (lv_sub hl [2, 3, 4, 5, 6, 7, 0, 8, 9] rfl)
  · skip
    refine lv_bipush (v := 30) hx hb dL_law_231 (by decide) ?_
    refine lv_goto (tgt := 237) hx hb dL_law_233 (by decide) ?_
    refine lv_irem hx hb dL_law_237 (by decide) ?_
    refine z_tv (v := nI (V / 16 % 30)) (pk_rem (d := 30) (by omega) (by decide) (by decide)) ?_
    refine lv_iadd hx hb dL_law_238 ?_
    refine z_tv (v := nI (1 + (V / 16 % 30))) (nI_add 1 (V / 16 % 30)) ?_
    refine z_iast hx hb hK hP hD hS 3 rfl (zix_nI (by first | assumption | omega) (by decide)) dL_law_239 (fun H locs hP hD hS => ?_)
    have hP : va_P (dC, dI) vwCl ([(ay, .inl (cI, 60, .inl fy)), (az, .inl (cI, 60, .inl fz)), (ad, .inl (cI, 60, .inl fd)), (ag, .inl (cI, 12, .inl (upd fg (4 * ca) (nI (1 + (V / 16 % 30))))))] ++ zOb cI cZ cH x0 xq xg had (nI N) σ) H := hP
    have hD : va_D A ([(ay, .inl (cI, 60, .inl fy)), (az, .inl (cI, 60, .inl fz)), (ad, .inl (cI, 60, .inl fd)), (ag, .inl (cI, 12, .inl (upd fg (4 * ca) (nI (1 + (V / 16 % 30))))))] ++ zOb cI cZ cH x0 xq xg had (nI N) σ) := hD
    refine lv_aload hx hb dL_law_240 (lv_at hl 6 rfl) ?_
    refine lv_iconst (v := 4) hx hb dL_law_242 (by decide) ?_
    refine lv_iload hx hb dL_law_243 (lv_at hl 11 rfl) ?_
    refine lv_imul hx hb dL_law_245 ?_
    refine z_tv (v := nI (4 * ca)) (pk_mul 4 ca) ?_
    refine lv_iconst (v := 1) hx hb dL_law_246 (by decide) ?_
    refine lv_iadd hx hb dL_law_247 ?_
    refine z_tv (v := nI ((4 * ca) + 1)) (nI_1 (4 * ca)) ?_
    refine lv_iload hx hb dL_law_248 (lv_at hl 9 rfl) ?_
    refine lv_sipush (v := 480) hx hb dL_law_250 (by decide) ?_
    refine lv_idiv hx hb dL_law_253 (by decide) ?_
    refine z_tv (v := nI (V / 480)) (pk_div (d := 480) (by omega) (by decide) (by decide)) ?_
    refine lv_iconst (v := 3) hx hb dL_law_254 (by decide) ?_
    refine lv_irem hx hb dL_law_255 (by decide) ?_
    refine z_tv (v := nI (V / 480 % 3)) (pk_rem (d := 3) (by omega) (by decide) (by decide)) ?_
    refine z_iast hx hb hK hP hD hS 3 rfl (zix_nI (by first | assumption | omega) (by decide)) dL_law_256 (fun H locs hP hD hS => ?_)
    have hP : va_P (dC, dI) vwCl ([(ay, .inl (cI, 60, .inl fy)), (az, .inl (cI, 60, .inl fz)), (ad, .inl (cI, 60, .inl fd)), (ag, .inl (cI, 12, .inl (upd (upd fg (4 * ca) (nI (1 + (V / 16 % 30)))) ((4 * ca) + 1) (nI (V / 480 % 3)))))] ++ zOb cI cZ cH x0 xq xg had (nI N) σ) H := hP
    have hD : va_D A ([(ay, .inl (cI, 60, .inl fy)), (az, .inl (cI, 60, .inl fz)), (ad, .inl (cI, 60, .inl fd)), (ag, .inl (cI, 12, .inl (upd (upd fg (4 * ca) (nI (1 + (V / 16 % 30)))) ((4 * ca) + 1) (nI (V / 480 % 3)))))] ++ zOb cI cZ cH x0 xq xg had (nI N) σ) := hD
    refine lv_aload_n hx hb dL_law_257 rfl (lv_at hl 3 rfl) ?_
    refine lv_aload hx hb dL_law_258 (lv_at hl 5 rfl) ?_
    refine lv_aload hx hb dL_law_260 (lv_at hl 6 rfl) ?_
    refine lv_iload hx hb dL_law_262 (lv_at hl 11 rfl) ?_
    refine lv_aload_n hx hb dL_law_264 rfl (lv_at hl 2 rfl) ?_
    refine z_cRi (va_runV (As := []) (rest := [.int (nI ca), .ref ag, .ref ad, .ref ay]) ⟨hx, hb, hml, hown, hts⟩ (c_today l dC dI cI cZ cH cJ x0 xq (nI N) xg had hg σ) (cwV 0 hts gL_law_X3_today rfl rfl rfl (by decide +kernel) ⟨Nat.le_of_ble_eq_true rfl, Nat.le_of_ble_eq_true rfl⟩) (zPreR1 hK (zP_r hP) (zrecv hK (zP_r hP))) rfl rfl hl.1 rfl (lv_room (Nat.le_of_ble_eq_true rfl)) dL_law_265 ⟨show _ ≤ 600104 by omega, show _ ≤ 7301314 by omega⟩) ?_
    refine z_tv (v := nI N) rfl ?_
    refine z_cGv (wr := [(az, .inl (cI, 60, .inl fz))] ++ zOb cI cZ cH x0 xq xg had (nI N) σ) (big1 := [(ay, .inl (cI, 60, .inl (zcl fy fd ((upd (upd fg (4 * ca) (nI (1 + (V / 16 % 30)))) ((4 * ca) + 1) (nI (V / 480 % 3))) (4 * ca + 1)) (nI N) (20 * ca) 20))), (az, .inl (cI, 60, .inl fz)), (ad, .inl (cI, 60, .inl fd)), (ag, .inl (cI, 12, .inl (upd (upd fg (4 * ca) (nI (1 + (V / 16 % 30)))) ((4 * ca) + 1) (nI (V / 480 % 3)))))] ++ zOb cI cZ cH x0 xq xg had (nI N) σ) (va_runS (As := [.ref ay, .ref ad, .ref ag, .int (nI ca), .int (nI N)]) (rest := []) ⟨hx, hb, hml, hown, hts⟩ (kL_clear l dC dI cI cZ cH cJ ay ad ag fy fd (upd (upd fg (4 * ca) (nI (1 + (V / 16 % 30)))) ((4 * ca) + 1) (nI (V / 480 % 3))) ca (by first | assumption | omega) (nI N) H.size) (va_cwS 5 hts gL_law_L_clear rfl rfl rfl (by decide +kernel) ⟨Nat.le_of_ble_eq_true rfl, Nat.le_of_ble_eq_true rfl⟩) (zPreS1 hK (zP_sub (wc := [(ay, .inl (cI, 60, .inl fy)), (ad, .inl (cI, 60, .inl fd)), (ag, .inl (cI, 12, .inl (upd (upd fg (4 * ca) (nI (1 + (V / 16 % 30)))) ((4 * ca) + 1) (nI (V / 480 % 3)))))]) (is := [0, 2, 3]) (zP_l hP) rfl) ((zD_l hD).sub (ws' := [(ay, .inl (cI, 60, .inl fy)), (ad, .inl (cI, 60, .inl fd)), (ag, .inl (cI, 12, .inl (upd (upd fg (4 * ca) (nI (1 + (V / 16 % 30)))) ((4 * ca) + 1) (nI (V / 480 % 3)))))]) [0, 2, 3] (by decide) rfl)) rfl rfl hl.1 rfl (lv_room (Nat.le_of_ble_eq_true rfl)) dL_law_268 ⟨show _ ≤ 600104 by omega, show _ ≤ 7301314 by omega⟩) hP hD hS hA (zeq_app (zeI (ws := [(ay, .inl (cI, 60, .inl fy)), (az, .inl (cI, 60, .inl fz)), (ad, .inl (cI, 60, .inl fd)), (ag, .inl (cI, 12, .inl (upd (upd fg (4 * ca) (nI (1 + (V / 16 % 30)))) ((4 * ca) + 1) (nI (V / 480 % 3)))))]) (wc := [(ay, .inl (cI, 60, .inl fy)), (ad, .inl (cI, 60, .inl fd)), (ag, .inl (cI, 12, .inl (upd (upd fg (4 * ca) (nI (1 + (V / 16 % 30)))) ((4 * ca) + 1) (nI (V / 480 % 3))))), (az, .inl (cI, 60, .inl fz))]) [0, 2, 3, 1] [0, 3, 1, 2] rfl rfl (by decide) (by decide)) (zOb cI cZ cH x0 xq xg had (nI N) σ)) (zeq_app (zeI (ws := [(ay, .inl (cI, 60, .inl (zcl fy fd ((upd (upd fg (4 * ca) (nI (1 + (V / 16 % 30)))) ((4 * ca) + 1) (nI (V / 480 % 3))) (4 * ca + 1)) (nI N) (20 * ca) 20))), (ad, .inl (cI, 60, .inl fd)), (ag, .inl (cI, 12, .inl (upd (upd fg (4 * ca) (nI (1 + (V / 16 % 30)))) ((4 * ca) + 1) (nI (V / 480 % 3))))), (az, .inl (cI, 60, .inl fz))]) (wc := [(ay, .inl (cI, 60, .inl (zcl fy fd ((upd (upd fg (4 * ca) (nI (1 + (V / 16 % 30)))) ((4 * ca) + 1) (nI (V / 480 % 3))) (4 * ca + 1)) (nI N) (20 * ca) 20))), (az, .inl (cI, 60, .inl fz)), (ad, .inl (cI, 60, .inl fd)), (ag, .inl (cI, 12, .inl (upd (upd fg (4 * ca) (nI (1 + (V / 16 % 30)))) ((4 * ca) + 1) (nI (V / 480 % 3)))))]) [0, 3, 1, 2] [0, 2, 3, 1] rfl rfl (by decide) (by decide)) (zOb cI cZ cH x0 xq xg had (nI N) σ)) (fun H locs hP hD hS => ?_)
    have hP : va_P (dC, dI) vwCl ([(ay, .inl (cI, 60, .inl (zcl fy fd ((upd (upd fg (4 * ca) (nI (1 + (V / 16 % 30)))) ((4 * ca) + 1) (nI (V / 480 % 3))) (4 * ca + 1)) (nI N) (20 * ca) 20))), (az, .inl (cI, 60, .inl fz)), (ad, .inl (cI, 60, .inl fd)), (ag, .inl (cI, 12, .inl (upd (upd fg (4 * ca) (nI (1 + (V / 16 % 30)))) ((4 * ca) + 1) (nI (V / 480 % 3)))))] ++ zOb cI cZ cH x0 xq xg had (nI N) σ) H := hP
    have hD : va_D A ([(ay, .inl (cI, 60, .inl (zcl fy fd ((upd (upd fg (4 * ca) (nI (1 + (V / 16 % 30)))) ((4 * ca) + 1) (nI (V / 480 % 3))) (4 * ca + 1)) (nI N) (20 * ca) 20))), (az, .inl (cI, 60, .inl fz)), (ad, .inl (cI, 60, .inl fd)), (ag, .inl (cI, 12, .inl (upd (upd fg (4 * ca) (nI (1 + (V / 16 % 30)))) ((4 * ca) + 1) (nI (V / 480 % 3)))))] ++ zOb cI cZ cH x0 xq xg had (nI N) σ) := hD
    refine lv_aload_n hx hb dL_law_271 rfl (lv_at hl 2 rfl) ?_
    refine lv_iconst (v := 0) hx hb dL_law_272 (by decide) ?_
    refine lv_iload hx hb dL_law_273 (lv_at hl 11 rfl) ?_
    refine lv_aload hx hb dL_law_275 (lv_at hl 6 rfl) ?_
    refine lv_iconst (v := 4) hx hb dL_law_277 (by decide) ?_
    refine lv_iload hx hb dL_law_278 (lv_at hl 11 rfl) ?_
    refine lv_imul hx hb dL_law_280 ?_
    refine z_tv (v := nI (4 * ca)) (pk_mul 4 ca) ?_
    refine z_iald hx hb hK hP 3 rfl (zix_nI (by first | assumption | omega) (by decide)) dL_law_281 ?_
    refine z_tv (v := (upd (upd fg (4 * ca) (nI (1 + (V / 16 % 30)))) ((4 * ca) + 1) (nI (V / 480 % 3))) (4 * ca)) (rfl) ?_
    refine z_tv (v := nI (1 + (V / 16 % 30))) ((pk_un (by omega)).trans pk_us) ?_
    refine lv_aload hx hb dL_law_282 (lv_at hl 6 rfl) ?_
    refine lv_iconst (v := 4) hx hb dL_law_284 (by decide) ?_
    refine lv_iload hx hb dL_law_285 (lv_at hl 11 rfl) ?_
    refine lv_imul hx hb dL_law_287 ?_
    refine z_tv (v := nI (4 * ca)) (pk_mul 4 ca) ?_
    refine lv_iconst (v := 1) hx hb dL_law_288 (by decide) ?_
    refine lv_iadd hx hb dL_law_289 ?_
    refine z_tv (v := nI ((4 * ca) + 1)) (nI_1 (4 * ca)) ?_
    refine z_iald hx hb hK hP 3 rfl (zix_nI (by first | assumption | omega) (by decide)) dL_law_290 ?_
    refine z_tv (v := (upd (upd fg (4 * ca) (nI (1 + (V / 16 % 30)))) ((4 * ca) + 1) (nI (V / 480 % 3))) ((4 * ca) + 1)) (rfl) ?_
    refine z_tv (v := nI (V / 480 % 3)) (pk_us) ?_
    refine lv_iconst (v := 0) hx hb dL_law_291 (by decide) ?_
    refine z_cGi (wr := [(ay, .inl (cI, 60, .inl (zcl fy fd ((upd (upd fg (4 * ca) (nI (1 + (V / 16 % 30)))) ((4 * ca) + 1) (nI (V / 480 % 3))) (4 * ca + 1)) (nI N) (20 * ca) 20))), (az, .inl (cI, 60, .inl fz)), (ad, .inl (cI, 60, .inl fd)), (ag, .inl (cI, 12, .inl (upd (upd fg (4 * ca) (nI (1 + (V / 16 % 30)))) ((4 * ca) + 1) (nI (V / 480 % 3)))))]) (big1 := [(ay, .inl (cI, 60, .inl (zcl fy fd ((upd (upd fg (4 * ca) (nI (1 + (V / 16 % 30)))) ((4 * ca) + 1) (nI (V / 480 % 3))) (4 * ca + 1)) (nI N) (20 * ca) 20))), (az, .inl (cI, 60, .inl fz)), (ad, .inl (cI, 60, .inl fd)), (ag, .inl (cI, 12, .inl (upd (upd fg (4 * ca) (nI (1 + (V / 16 % 30)))) ((4 * ca) + 1) (nI (V / 480 % 3)))))] ++ zOb cI cZ cH x0 xq xg had (nI N) (zup σ ca (hSet (σ ca) (nI (1 + (V / 16 % 30))) (nI (V / 480 % 3)) (nI N)))) (vx_runSW (As := [.ref x0, .int 0, .int (nI ca), .int (nI (1 + (V / 16 % 30))), .int (nI (V / 480 % 3)), .int 0]) (rest := []) ⟨hx, hb, hml, hown, hts⟩ (kL_far_set l dC dI cI cZ cH cJ x0 xq (nI N) xg had hg σ ca (by first | assumption | omega) (nI (1 + (V / 16 % 30))) (nI (V / 480 % 3)) (zin_u (by omega) (by omega)) (zin_w (by omega)) H.size) (vx_cwSW 6 hts gL_law_L_far rfl rfl rfl (by decide +kernel) ⟨Nat.le_of_ble_eq_true rfl, Nat.le_of_ble_eq_true rfl⟩) (zPreS1 hK (zP_r hP) (zD_r hD)) rfl rfl hl.1 rfl (lv_room (Nat.le_of_ble_eq_true rfl)) dL_law_292 ⟨show _ ≤ 600104 by omega, show _ ≤ 7301314 by omega⟩) hP hD hS hA (zeq_comm _ _) (zeq_comm _ _) (fun H locs hP hD hS => ?_)
    have hP : va_P (dC, dI) vwCl ([(ay, .inl (cI, 60, .inl (zcl fy fd ((upd (upd fg (4 * ca) (nI (1 + (V / 16 % 30)))) ((4 * ca) + 1) (nI (V / 480 % 3))) (4 * ca + 1)) (nI N) (20 * ca) 20))), (az, .inl (cI, 60, .inl fz)), (ad, .inl (cI, 60, .inl fd)), (ag, .inl (cI, 12, .inl (upd (upd fg (4 * ca) (nI (1 + (V / 16 % 30)))) ((4 * ca) + 1) (nI (V / 480 % 3)))))] ++ zOb cI cZ cH x0 xq xg had (nI N) (zup σ ca (hSet (σ ca) (nI (1 + (V / 16 % 30))) (nI (V / 480 % 3)) (nI N)))) H := hP
    have hD : va_D A ([(ay, .inl (cI, 60, .inl (zcl fy fd ((upd (upd fg (4 * ca) (nI (1 + (V / 16 % 30)))) ((4 * ca) + 1) (nI (V / 480 % 3))) (4 * ca + 1)) (nI N) (20 * ca) 20))), (az, .inl (cI, 60, .inl fz)), (ad, .inl (cI, 60, .inl fd)), (ag, .inl (cI, 12, .inl (upd (upd fg (4 * ca) (nI (1 + (V / 16 % 30)))) ((4 * ca) + 1) (nI (V / 480 % 3)))))] ++ zOb cI cZ cH x0 xq xg had (nI N) (zup σ ca (hSet (σ ca) (nI (1 + (V / 16 % 30))) (nI (V / 480 % 3)) (nI N)))) := hD
    refine z_tv (v := nI u) (hUn1) ?_
    refine lv_iload hx hb dL_law_295 (lv_at hl 0 rfl) ?_
    refine lv_icmp_ne (tgt := 304) hx hb dL_law_297 (by decide) (fun c_297 => absurd c_297 (fun h => h rfl)) (fun c_297 => ?_)
    refine lv_iconst (v := 1) hx hb dL_law_300 (by decide) ?_
    refine lv_goto (tgt := 305) hx hb dL_law_301 (by decide) ?_
    refine lv_istore (lv' := [(6, .int 1), (13, .int (nI u)), (0, .ref b), (1, .ref x0), (2, .ref ay), (3, .ref az), (4, .ref ad), (5, .ref ag), (7, .int (nI n)), (8, .int (nI X)), (9, .int (nI V)), (10, .int (nI hw)), (11, .int (nI ca)), (12, .int (nI r))]) hx hb dL_law_305 hl (by decide) rfl (fun ls hl => ?_)
    refine lv_goto (tgt := 692) hx hb dL_law_307 (by decide) ?_
    refine W.widen (k := cl0 + 1) (n := sl0 + 6) (by omega) (by omega) ?_
    exact hk _ _ _ ⟨N, (zup σ ca (hSet (σ ca) (nI (1 + (V / 16 % 30))) (nI (V / 480 % 3)) (nI N))), (zcl fy fd ((upd (upd fg (4 * ca) (nI (1 + (V / 16 % 30)))) ((4 * ca) + 1) (nI (V / 480 % 3))) (4 * ca + 1)) (nI N) (20 * ca) 20), fz, fd, (upd (upd fg (4 * ca) (nI (1 + (V / 16 % 30)))) ((4 * ca) + 1) (nI (V / 480 % 3))), (zInv_up hI hc3 (fun c k h hk => zcl_o h hk) (fun _ _ _ _ => rfl) (fun _ _ _ _ => rfl) (fun c k h hk => (upd_g (r := 1) h (by decide) hk).trans (upd_g (r := 0) h (by decide) hk)) (by rw [show (upd (upd fg (4 * ca) (nI (1 + (V / 16 % 30)))) ((4 * ca) + 1) (nI (V / 480 % 3))) (4 * ca + 1) = nI (V / 480 % 3) from pk_us]; exact r_set hCF hCZ hN (by omega) (by omega) (by omega) ((pk_un (by omega)).trans pk_us) pk_us ((pk_un (by omega)).trans ((pk_un (by omega)).trans hG0)) hHo0)), hP, hD, hS⟩ (lv_sub hl [2, 3, 4, 5, 6, 7, 0, 8, 9] rfl)
set_option maxHeartbeats 8000000 in
set_option maxRecDepth 100000 in
theorem lc_put {p : Program} {l : Launch} {e : Env} {s : State} {m : MethodId} {below : List Frame} {meth : Method} {c : Code} {Q : State → Prop} {A : Nat → Prop} {b L : Nat} {xs : Nat → Int32} {dC : Nat → ClassId} {dI : Nat → Nat → Nat} {cI cZ cH cJ : ClassId} {x0 xq : Nat} {xg : Nat → Option Nat} {had : Nat → Nat → Nat} {ay az ad ag : Nat} (hF : LFix p l s m meth c b L xs dC dI cI cZ cH cJ A xg had) {cl0 sl0 : Nat} (hc0 : cl0 + 1 ≤ 600104) (hs0 : sl0 + 6 ≤ 7301314) {n X V hw ca r : Nat} (hc3 : ca < 3) (hrr : r < 20) (hV : V < 2 ^ 31) (hk : ∀ (H : Heap) (locs : List Loc) (ls : Array Slot), LInv dC dI cI cZ cH cJ A s x0 xq xg had ay az ad ag H locs → lv_has ls 17 [(0, .ref b), (1, .ref x0), (2, .ref ay), (3, .ref az), (4, .ref ad), (5, .ref ag), (6, .int 1), (7, .int (nI n)), (8, .int (nI X))] → W p l e room_1 s m #[Value.ref b] below meth c H locs (cl0 + 1) (sl0 + 6) Q (F0 m 692 ls [])) {H : Heap} {locs : List Loc} (hI0 : LInv dC dI cI cZ cH cJ A s x0 xq xg had ay az ad ag H locs) {ls : Array Slot} (hl : lv_has ls 17 [(0, .ref b), (1, .ref x0), (2, .ref ay), (3, .ref az), (4, .ref ad), (5, .ref ag), (7, .int (nI n)), (8, .int (nI X)), (9, .int (nI V)), (10, .int (nI hw)), (11, .int (nI ca)), (12, .int (nI r))]) : W p l e room_1 s m #[Value.ref b] below meth c H locs cl0 sl0 Q (F0 m 317 ls []) := by
  obtain ⟨hC0, hst, hA, hbA, hK, hT1, hT2, hT3, hT4, hT5, hg, hL⟩ := hF
  obtain ⟨hx, hb, hr, hml, hown, hts0, hX, hbl, hlocks, hgv⟩ := hC0
  have hb : c.code = cL_law := hb
  have hown : s.vm.findClass RL = some m.cls := hown
  have hts : ∀ w ∈ wsL_law, w.before #[Value.ref b] s = true := fun w h => hts0 w (wsL_law_in w h)
  obtain ⟨N, σ, fy, fz, fd, fg, hI, hP, hD, hS⟩ := hI0
  have hN := hI.1
  obtain ⟨⟨u, w, mm, hCF⟩, hCZ, hHo0, hG0⟩ := hI.2.1 ca hc3
  have hca : ca < 4 := by omega
  have hu1 := hCF.1.1
  have hu2 := hCF.1.2.1
  have hw2 := hCF.1.2.2.1
  have hmN := hCF.1.2.2.2.1
  have hUn1 : hUn (σ ca) = nI u := hCF.1.2.2.2.2.1
  have hDe1 : hDe (σ ca) = nI w := hCF.1.2.2.2.2.2.1
  have hMk1 : hMk (σ ca) = nI mm := hCF.1.2.2.2.2.2.2.1
  have hg0 : fg (4 * ca) = nI u := hCF.1.2.2.2.2.2.2.2.1
  have hg1 : fg (4 * ca + 1) = nI w := hCF.1.2.2.2.2.2.2.2.2.1
  have hP : va_P (dC, dI) vwCl ([(ay, .inl (cI, 60, .inl fy)), (az, .inl (cI, 60, .inl fz)), (ad, .inl (cI, 60, .inl fd)), (ag, .inl (cI, 12, .inl fg))] ++ zOb cI cZ cH x0 xq xg had (nI N) σ) H := hP
  have hD : va_D A ([(ay, .inl (cI, 60, .inl fy)), (az, .inl (cI, 60, .inl fz)), (ad, .inl (cI, 60, .inl fd)), (ag, .inl (cI, 12, .inl fg))] ++ zOb cI cZ cH x0 xq xg had (nI N) σ) := hD
  refine lv_aload_n hx hb dL_law_317 rfl (lv_at hl 1 rfl) ?_
  refine lv_aload_n hx hb dL_law_318 rfl (lv_at hl 2 rfl) ?_
  refine lv_aload hx hb dL_law_319 (lv_at hl 5 rfl) ?_
  refine lv_iload hx hb dL_law_321 (lv_at hl 10 rfl) ?_
  refine lv_iload hx hb dL_law_323 (lv_at hl 11 rfl) ?_
  refine lv_iload hx hb dL_law_325 (lv_at hl 8 rfl) ?_
  refine lv_sipush (v := 320) hx hb dL_law_327 (by decide) ?_
  refine lv_idiv hx hb dL_law_330 (by decide) ?_
  refine z_tv (v := nI (V / 320)) (pk_div (d := 320) (by omega) (by decide) (by decide)) ?_
  refine lv_bipush (v := 10) hx hb dL_law_331 (by decide) ?_
  refine lv_irem hx hb dL_law_333 (by decide) ?_
  refine z_tv (v := nI (V / 320 % 10)) (pk_rem (d := 10) (by omega) (by decide) (by decide)) ?_
  refine lv_iload hx hb dL_law_334 (lv_at hl 8 rfl) ?_
  refine lv_sipush (v := 3200) hx hb dL_law_336 (by decide) ?_
  refine lv_idiv hx hb dL_law_339 (by decide) ?_
  refine z_tv (v := nI (V / 3200)) (pk_div (d := 3200) (by omega) (by decide) (by decide)) ?_
  refine lv_sipush (v := 1001) hx hb dL_law_340 (by decide) ?_
  refine lv_irem hx hb dL_law_343 (by decide) ?_
  refine z_tv (v := nI (V / 3200 % 1001)) (pk_rem (d := 1001) (by omega) (by decide) (by decide)) ?_
  refine z_cGi (wr := [(az, .inl (cI, 60, .inl fz)), (ad, .inl (cI, 60, .inl fd))]) (big1 := [(ay, .inl (cI, 60, .inl (upd fy (20 * ca + r) (zenN (V / 3200 % 1001) (V / 320 % 10) (N - N % u))))), (az, .inl (cI, 60, .inl fz)), (ad, .inl (cI, 60, .inl fd)), (ag, .inl (cI, 12, .inl fg))] ++ zOb cI cZ cH x0 xq xg had (nI N) (zup σ ca (hPut (σ ca) r (nI (V / 320 % 10)) (nI (V / 3200 % 1001)) (nI N)))) (va_runS (As := [.ref x0, .ref ay, .ref ag, .int (nI ca), .int (nI r), .int (nI (V / 320 % 10)), .int (nI (V / 3200 % 1001))]) (rest := []) ⟨hx, hb, hml, hown, hts⟩ (kL_isPut l dC dI cI cZ cH cJ x0 xq xg had hg σ N (by first | assumption | omega) ay ag fy fg ca (by first | assumption | omega) r (by first | assumption | omega) (V / 3200 % 1001) (by first | assumption | omega) (V / 320 % 10) (by first | assumption | omega) u (by first | assumption | omega) (by first | assumption | omega) (by first | assumption | omega) (by first | assumption | omega) H.size) (va_cwS 7 hts gL_law_L_isPut rfl rfl rfl (by decide +kernel) ⟨Nat.le_of_ble_eq_true rfl, Nat.le_of_ble_eq_true rfl⟩) (zPreS1 hK (zP_t (w1 := [(ay, .inl (cI, 60, .inl fy)), (ag, .inl (cI, 12, .inl fg))]) (is := [0, 3]) hP rfl) (zD_t (w1 := [(ay, .inl (cI, 60, .inl fy)), (ag, .inl (cI, 12, .inl fg))]) (is := [0, 3]) hD (by decide) rfl)) rfl rfl hl.1 rfl (lv_room (Nat.le_of_ble_eq_true rfl)) dL_law_344 ⟨show _ ≤ 600104 by omega, show _ ≤ 7301314 by omega⟩) hP hD hS hA (zeT (ws := [(ay, .inl (cI, 60, .inl fy)), (az, .inl (cI, 60, .inl fz)), (ad, .inl (cI, 60, .inl fd)), (ag, .inl (cI, 12, .inl fg))]) (wc := [(ay, .inl (cI, 60, .inl fy)), (ag, .inl (cI, 12, .inl fg))]) (wr := [(az, .inl (cI, 60, .inl fz)), (ad, .inl (cI, 60, .inl fd))]) [0, 3, 1, 2] [0, 2, 3, 1] rfl rfl (by decide) (by decide)) ((zeT (ws := [(ay, .inl (cI, 60, .inl (upd fy (20 * ca + r) (zenN (V / 3200 % 1001) (V / 320 % 10) (N - N % u))))), (az, .inl (cI, 60, .inl fz)), (ad, .inl (cI, 60, .inl fd)), (ag, .inl (cI, 12, .inl fg))]) (wc := [(ay, .inl (cI, 60, .inl (upd fy (20 * ca + r) (zenN (V / 3200 % 1001) (V / 320 % 10) (N - N % u))))), (ag, .inl (cI, 12, .inl fg))]) (wr := [(az, .inl (cI, 60, .inl fz)), (ad, .inl (cI, 60, .inl fd))]) [0, 3, 1, 2] [0, 2, 3, 1] rfl rfl (by decide) (by decide)).sy) (fun H locs hP hD hS => ?_)
  have hP : va_P (dC, dI) vwCl ([(ay, .inl (cI, 60, .inl (upd fy (20 * ca + r) (zenN (V / 3200 % 1001) (V / 320 % 10) (N - N % u))))), (az, .inl (cI, 60, .inl fz)), (ad, .inl (cI, 60, .inl fd)), (ag, .inl (cI, 12, .inl fg))] ++ zOb cI cZ cH x0 xq xg had (nI N) (zup σ ca (hPut (σ ca) r (nI (V / 320 % 10)) (nI (V / 3200 % 1001)) (nI N)))) H := hP
  have hD : va_D A ([(ay, .inl (cI, 60, .inl (upd fy (20 * ca + r) (zenN (V / 3200 % 1001) (V / 320 % 10) (N - N % u))))), (az, .inl (cI, 60, .inl fz)), (ad, .inl (cI, 60, .inl fd)), (ag, .inl (cI, 12, .inl fg))] ++ zOb cI cZ cH x0 xq xg had (nI N) (zup σ ca (hPut (σ ca) r (nI (V / 320 % 10)) (nI (V / 3200 % 1001)) (nI N)))) := hD
  refine z_tv (v := 1) rfl ?_
  refine lv_istore (lv' := [(6, .int 1), (0, .ref b), (1, .ref x0), (2, .ref ay), (3, .ref az), (4, .ref ad), (5, .ref ag), (7, .int (nI n)), (8, .int (nI X)), (9, .int (nI V)), (10, .int (nI hw)), (11, .int (nI ca)), (12, .int (nI r))]) hx hb dL_law_347 hl (by decide) rfl (fun ls hl => ?_)
  refine lv_goto (tgt := 692) hx hb dL_law_349 (by decide) ?_
  refine W.widen (k := cl0 + 1) (n := sl0 + 6) (by omega) (by omega) ?_
  exact hk _ _ _ ⟨N, (zup σ ca (hPut (σ ca) r (nI (V / 320 % 10)) (nI (V / 3200 % 1001)) (nI N))), (upd fy (20 * ca + r) (zenN (V / 3200 % 1001) (V / 320 % 10) (N - N % u))), fz, fd, fg, (zInv_up hI hc3 (fun c k h hk => upd_o h hrr hk) (fun _ _ _ _ => rfl) (fun _ _ _ _ => rfl) (fun _ _ _ _ => rfl) ⟨⟨u, w, mm, r_put hCF hN hrr (by omega) (by omega)⟩, r_putZ hCZ, (r_putH _ _ _ _ _).trans hHo0, hG0⟩), hP, hD, hS⟩ (lv_sub hl [1, 2, 3, 4, 5, 6, 0, 7, 8] rfl)
set_option maxHeartbeats 8000000 in
set_option maxRecDepth 100000 in
theorem lc_rem {p : Program} {l : Launch} {e : Env} {s : State} {m : MethodId} {below : List Frame} {meth : Method} {c : Code} {Q : State → Prop} {A : Nat → Prop} {b L : Nat} {xs : Nat → Int32} {dC : Nat → ClassId} {dI : Nat → Nat → Nat} {cI cZ cH cJ : ClassId} {x0 xq : Nat} {xg : Nat → Option Nat} {had : Nat → Nat → Nat} {ay az ad ag : Nat} (hF : LFix p l s m meth c b L xs dC dI cI cZ cH cJ A xg had) {cl0 sl0 : Nat} (hc0 : cl0 + 1 ≤ 600104) (hs0 : sl0 + 6 ≤ 7301314) {n X V hw ca r : Nat} (hc3 : ca < 3) (hrr : r < 20) (hV : V < 2 ^ 31) (hk : ∀ (H : Heap) (locs : List Loc) (ls : Array Slot), LInv dC dI cI cZ cH cJ A s x0 xq xg had ay az ad ag H locs → lv_has ls 17 [(0, .ref b), (1, .ref x0), (2, .ref ay), (3, .ref az), (4, .ref ad), (5, .ref ag), (6, .int 1), (7, .int (nI n)), (8, .int (nI X))] → W p l e room_1 s m #[Value.ref b] below meth c H locs (cl0 + 1) (sl0 + 6) Q (F0 m 692 ls [])) {H : Heap} {locs : List Loc} (hI0 : LInv dC dI cI cZ cH cJ A s x0 xq xg had ay az ad ag H locs) {ls : Array Slot} (hl : lv_has ls 17 [(0, .ref b), (1, .ref x0), (2, .ref ay), (3, .ref az), (4, .ref ad), (5, .ref ag), (7, .int (nI n)), (8, .int (nI X)), (9, .int (nI V)), (10, .int (nI hw)), (11, .int (nI ca)), (12, .int (nI r))]) : W p l e room_1 s m #[Value.ref b] below meth c H locs cl0 sl0 Q (F0 m 359 ls []) := by
  obtain ⟨hC0, hst, hA, hbA, hK, hT1, hT2, hT3, hT4, hT5, hg, hL⟩ := hF
  obtain ⟨hx, hb, hr, hml, hown, hts0, hX, hbl, hlocks, hgv⟩ := hC0
  have hb : c.code = cL_law := hb
  have hown : s.vm.findClass RL = some m.cls := hown
  have hts : ∀ w ∈ wsL_law, w.before #[Value.ref b] s = true := fun w h => hts0 w (wsL_law_in w h)
  obtain ⟨N, σ, fy, fz, fd, fg, hI, hP, hD, hS⟩ := hI0
  have hN := hI.1
  obtain ⟨⟨u, w, mm, hCF⟩, hCZ, hHo0, hG0⟩ := hI.2.1 ca hc3
  have hca : ca < 4 := by omega
  have hu1 := hCF.1.1
  have hu2 := hCF.1.2.1
  have hw2 := hCF.1.2.2.1
  have hmN := hCF.1.2.2.2.1
  have hUn1 : hUn (σ ca) = nI u := hCF.1.2.2.2.2.1
  have hDe1 : hDe (σ ca) = nI w := hCF.1.2.2.2.2.2.1
  have hMk1 : hMk (σ ca) = nI mm := hCF.1.2.2.2.2.2.2.1
  have hg0 : fg (4 * ca) = nI u := hCF.1.2.2.2.2.2.2.2.1
  have hg1 : fg (4 * ca + 1) = nI w := hCF.1.2.2.2.2.2.2.2.2.1
  have hyi := zfr_y (hCF.2 r hrr) hN
  rcases Classical.em (fy (20 * ca + r) < 0) with hy0 | hy0
  · have hk1 : hFT (σ ca) r = 0 := hyi.1.mp hy0
    have hP : va_P (dC, dI) vwCl ([(ay, .inl (cI, 60, .inl fy)), (az, .inl (cI, 60, .inl fz)), (ad, .inl (cI, 60, .inl fd)), (ag, .inl (cI, 12, .inl fg))] ++ zOb cI cZ cH x0 xq xg had (nI N) σ) H := hP
    have hD : va_D A ([(ay, .inl (cI, 60, .inl fy)), (az, .inl (cI, 60, .inl fz)), (ad, .inl (cI, 60, .inl fd)), (ag, .inl (cI, 12, .inl fg))] ++ zOb cI cZ cH x0 xq xg had (nI N) σ) := hD
    refine lv_aload_n hx hb dL_law_359 rfl (lv_at hl 1 rfl) ?_
    refine lv_aload_n hx hb dL_law_360 rfl (lv_at hl 2 rfl) ?_
    refine lv_aload hx hb dL_law_361 (lv_at hl 4 rfl) ?_
    refine lv_aload hx hb dL_law_363 (lv_at hl 5 rfl) ?_
    refine lv_iload hx hb dL_law_365 (lv_at hl 10 rfl) ?_
    refine lv_iload hx hb dL_law_367 (lv_at hl 11 rfl) ?_
    refine z_cG (va_runS (As := [.ref x0, .ref ay, .ref ad, .ref ag, .int (nI ca), .int (nI r)]) (rest := []) ⟨hx, hb, hml, hown, hts⟩ (kL_isRemoved_no l dC dI cI cZ cH cJ x0 xq xg had hg σ N (by first | assumption | omega) ay ad ag fy ca (by first | assumption | omega) r (by first | assumption | omega) (by first | assumption | omega) (by first | assumption | omega) hst) (va_cwS 6 hts gL_law_L_isRemoved rfl rfl rfl (by decide +kernel) ⟨Nat.le_of_ble_eq_true rfl, Nat.le_of_ble_eq_true rfl⟩) (zPreY1 hS hA hT1 hT2 hT3 hT4 hT5 hK (zP_t (w1 := [(ay, .inl (cI, 60, .inl fy))]) (is := [0]) hP rfl)) rfl rfl hl.1 rfl (lv_room (Nat.le_of_ble_eq_true rfl)) dL_law_369 ⟨show _ ≤ 600104 by omega, show _ ≤ 7301314 by omega⟩) hS (fun H hz1 hk1 hS => ?_)
    have hP := z_kept hP hk1
    have hP : va_P (dC, dI) vwCl ([(ay, .inl (cI, 60, .inl fy)), (az, .inl (cI, 60, .inl fz)), (ad, .inl (cI, 60, .inl fd)), (ag, .inl (cI, 12, .inl fg))] ++ zOb cI cZ cH x0 xq xg had (nI N) σ) H := hP
    have hD : va_D A ([(ay, .inl (cI, 60, .inl fy)), (az, .inl (cI, 60, .inl fz)), (ad, .inl (cI, 60, .inl fd)), (ag, .inl (cI, 12, .inl fg))] ++ zOb cI cZ cH x0 xq xg had (nI N) σ) := hD
    refine z_tv (v := 1) rfl ?_
    refine lv_istore (lv' := [(6, .int 1), (0, .ref b), (1, .ref x0), (2, .ref ay), (3, .ref az), (4, .ref ad), (5, .ref ag), (7, .int (nI n)), (8, .int (nI X)), (9, .int (nI V)), (10, .int (nI hw)), (11, .int (nI ca)), (12, .int (nI r))]) hx hb dL_law_372 hl (by decide) rfl (fun ls hl => ?_)
    refine lv_goto (tgt := 692) hx hb dL_law_374 (by decide) ?_
    refine W.widen (k := cl0 + 1) (n := sl0 + 6) (by omega) (by omega) ?_
    exact hk _ _ _ ⟨N, σ, fy, fz, fd, fg, hI, hP, hD, hS⟩ (lv_sub hl [1, 2, 3, 4, 5, 6, 0, 7, 8] rfl)
  · have hk1 : ¬ hFT (σ ca) r = 0 := fun q => hy0 (hyi.1.mpr q)
    have hy1 : 0 ≤ fy (20 * ca + r) := hyi.2.1.mpr hk1
    have hP : va_P (dC, dI) vwCl ([(ay, .inl (cI, 60, .inl fy)), (az, .inl (cI, 60, .inl fz)), (ad, .inl (cI, 60, .inl fd)), (ag, .inl (cI, 12, .inl fg))] ++ zOb cI cZ cH x0 xq xg had (nI N) σ) H := hP
    have hD : va_D A ([(ay, .inl (cI, 60, .inl fy)), (az, .inl (cI, 60, .inl fz)), (ad, .inl (cI, 60, .inl fd)), (ag, .inl (cI, 12, .inl fg))] ++ zOb cI cZ cH x0 xq xg had (nI N) σ) := hD
    refine lv_aload_n hx hb dL_law_359 rfl (lv_at hl 1 rfl) ?_
    refine lv_aload_n hx hb dL_law_360 rfl (lv_at hl 2 rfl) ?_
    refine lv_aload hx hb dL_law_361 (lv_at hl 4 rfl) ?_
    refine lv_aload hx hb dL_law_363 (lv_at hl 5 rfl) ?_
    refine lv_iload hx hb dL_law_365 (lv_at hl 10 rfl) ?_
    refine lv_iload hx hb dL_law_367 (lv_at hl 11 rfl) ?_
    refine z_cGi (wr := [(az, .inl (cI, 60, .inl fz))]) (big1 := [(ay, .inl (cI, 60, .inl (upd fy (20 * ca + r) (if w = 2 then -1 else -2 - nI (N - N % u))))), (az, .inl (cI, 60, .inl fz)), (ad, .inl (cI, 60, .inl (upd fd (20 * ca + r) (nI N)))), (ag, .inl (cI, 12, .inl fg))] ++ zOb cI cZ cH x0 xq xg had (nI N) (zup σ ca (hRem (σ ca) r (nI N)))) (va_runS (As := [.ref x0, .ref ay, .ref ad, .ref ag, .int (nI ca), .int (nI r)]) (rest := []) ⟨hx, hb, hml, hown, hts⟩ (kL_isRemoved l dC dI cI cZ cH cJ x0 xq xg had hg σ N (by first | assumption | omega) ay ad ag fy fd fg ca (by first | assumption | omega) r (by first | assumption | omega) (hy1) (by first | assumption | omega) u (by first | assumption | omega) (by first | assumption | omega) (by first | assumption | omega) (by first | assumption | omega) w (by first | assumption | omega) (by first | assumption | omega) (by first | assumption | omega) H.size) (va_cwS 6 hts gL_law_L_isRemoved rfl rfl rfl (by decide +kernel) ⟨Nat.le_of_ble_eq_true rfl, Nat.le_of_ble_eq_true rfl⟩) (zPreS1 hK (zP_t (w1 := [(ay, .inl (cI, 60, .inl fy)), (ad, .inl (cI, 60, .inl fd)), (ag, .inl (cI, 12, .inl fg))]) (is := [0, 2, 3]) hP rfl) (zD_t (w1 := [(ay, .inl (cI, 60, .inl fy)), (ad, .inl (cI, 60, .inl fd)), (ag, .inl (cI, 12, .inl fg))]) (is := [0, 2, 3]) hD (by decide) rfl)) rfl rfl hl.1 rfl (lv_room (Nat.le_of_ble_eq_true rfl)) dL_law_369 ⟨show _ ≤ 600104 by omega, show _ ≤ 7301314 by omega⟩) hP hD hS hA (zeT (ws := [(ay, .inl (cI, 60, .inl fy)), (az, .inl (cI, 60, .inl fz)), (ad, .inl (cI, 60, .inl fd)), (ag, .inl (cI, 12, .inl fg))]) (wc := [(ay, .inl (cI, 60, .inl fy)), (ad, .inl (cI, 60, .inl fd)), (ag, .inl (cI, 12, .inl fg))]) (wr := [(az, .inl (cI, 60, .inl fz))]) [0, 2, 3, 1] [0, 3, 1, 2] rfl rfl (by decide) (by decide)) ((zeT (ws := [(ay, .inl (cI, 60, .inl (upd fy (20 * ca + r) (if w = 2 then -1 else -2 - nI (N - N % u))))), (az, .inl (cI, 60, .inl fz)), (ad, .inl (cI, 60, .inl (upd fd (20 * ca + r) (nI N)))), (ag, .inl (cI, 12, .inl fg))]) (wc := [(ay, .inl (cI, 60, .inl (upd fy (20 * ca + r) (if w = 2 then -1 else -2 - nI (N - N % u))))), (ad, .inl (cI, 60, .inl (upd fd (20 * ca + r) (nI N)))), (ag, .inl (cI, 12, .inl fg))]) (wr := [(az, .inl (cI, 60, .inl fz))]) [0, 2, 3, 1] [0, 3, 1, 2] rfl rfl (by decide) (by decide)).sy) (fun H locs hP hD hS => ?_)
    have hP : va_P (dC, dI) vwCl ([(ay, .inl (cI, 60, .inl (upd fy (20 * ca + r) (if w = 2 then -1 else -2 - nI (N - N % u))))), (az, .inl (cI, 60, .inl fz)), (ad, .inl (cI, 60, .inl (upd fd (20 * ca + r) (nI N)))), (ag, .inl (cI, 12, .inl fg))] ++ zOb cI cZ cH x0 xq xg had (nI N) (zup σ ca (hRem (σ ca) r (nI N)))) H := hP
    have hD : va_D A ([(ay, .inl (cI, 60, .inl (upd fy (20 * ca + r) (if w = 2 then -1 else -2 - nI (N - N % u))))), (az, .inl (cI, 60, .inl fz)), (ad, .inl (cI, 60, .inl (upd fd (20 * ca + r) (nI N)))), (ag, .inl (cI, 12, .inl fg))] ++ zOb cI cZ cH x0 xq xg had (nI N) (zup σ ca (hRem (σ ca) r (nI N)))) := hD
    refine z_tv (v := 1) rfl ?_
    refine lv_istore (lv' := [(6, .int 1), (0, .ref b), (1, .ref x0), (2, .ref ay), (3, .ref az), (4, .ref ad), (5, .ref ag), (7, .int (nI n)), (8, .int (nI X)), (9, .int (nI V)), (10, .int (nI hw)), (11, .int (nI ca)), (12, .int (nI r))]) hx hb dL_law_372 hl (by decide) rfl (fun ls hl => ?_)
    refine lv_goto (tgt := 692) hx hb dL_law_374 (by decide) ?_
    refine W.widen (k := cl0 + 1) (n := sl0 + 6) (by omega) (by omega) ?_
    exact hk _ _ _ ⟨N, (zup σ ca (hRem (σ ca) r (nI N))), (upd fy (20 * ca + r) (if w = 2 then -1 else -2 - nI (N - N % u))), fz, (upd fd (20 * ca + r) (nI N)), fg, (zInv_up hI hc3 (fun c k h hk => upd_o h hrr hk) (fun _ _ _ _ => rfl) (fun c k h hk => upd_o h hrr hk) (fun _ _ _ _ => rfl) (r_rem hCF hCZ hN hrr hG0 hHo0)), hP, hD, hS⟩ (lv_sub hl [1, 2, 3, 4, 5, 6, 0, 7, 8] rfl)
