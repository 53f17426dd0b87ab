theorem lw_lt {L q : Nat} (hL : L < 2 ^ 20) (hq : q < 2 ^ 20) : nI L - nI 4 < nI q ↔ L < q + 4 := by
  rw [Int32.lt_iff_toInt_lt, pk_sub_toInt (by omega) (by omega), nI_toInt (by omega)]
  omega
theorem nI_back (w : Int32) : nI w.toBitVec.toNat = w := by
  apply Int32.toBitVec_inj.mp
  show BitVec.ofNat 32 w.toBitVec.toNat = _
  rw [BitVec.ofNat_toNat]
  simp
theorem and15 (v : Int32) : ∃ j, j < 16 ∧ v &&& nI 15 = nI j := by
  refine ⟨(v &&& nI 15).toBitVec.toNat, ?_, (nI_back _).symm⟩
  have h1 : (v &&& nI 15).toBitVec = v.toBitVec &&& (nI 15).toBitVec := rfl
  rw [h1, BitVec.toNat_and]
  have h2 : (nI 15).toBitVec.toNat = 15 := by decide
  rw [h2]
  have := @Nat.and_le_right v.toBitVec.toNat 15
  omega
theorem LI.up {G : GG} {h : HH} {x o k : Nat} (hL : LI G h x o k) : LI G h x o (k + 1) := by
  obtain ⟨T, p, len, hand, op, gone, ents, bl, ad, na, ch, ba, cp, ga, gb, gc, dp, hR, hC, hW⟩ := hL
  exact ⟨T, p, len, hand, op, gone, ents, bl, ad, na, ch, ba, cp, ga, gb, gc, dp, hR, hC, hW.up⟩
set_option maxHeartbeats 4000000 in
set_option maxRecDepth 100000 in
/-- the law's loop -/
theorem kl_loop {G : GG} {x o : Nat} {Q : Option Value → HH → Prop} (hb0 : g_b G < g_0 G) (hLb : g_L G ≤ 2048) (hQ : ∀ h, Q (some (.int (nI 1))) h) : ∀ r k h, k + r = g_L G / 4 → LI G h x o k → V G mL_law 18 [(3, .int (nI (4 * k))), (1, .ref x), (2, .ref o), (0, .ref (g_b G))] [] h (3 * r) (8192 * r) Q := by
  intro r
  induction r with
  | zero =>
    intro k h hr hLI
    refine V.iload_n dL_law_18 rfl ?_
    first | refine V.aload_n dL_law_19 rfl ?_ | refine V.aload_nN dL_law_19 rfl ?_
    refine V.slen dL_law_20 rfl hb0 ?_
    refine V.iconst (v := (nI 4)) dL_law_21 (by decide) ?_
    refine V.isub dL_law_22 ?_
    refine V.icmp_gt (tgt := 398) dL_law_23 (by decide) (fun c_23 => ?_) (fun c_23 => ?_)
    · rw [lw_lt (by omega) (by omega)] at c_23
      refine V.iconst (v := (nI 1)) dL_law_398 (by decide) ?_
      refine V.ireturn dL_law_399 rfl rfl ?_
      exact hQ h
    · rw [lw_lt (by omega) (by omega)] at c_23
      all_goals omega
  | succ r ih =>
    intro k h hr hLI
    have hin : ∀ d, d < 4 → vp_in (nI (4 * k + d)) (g_L G) := fun d hd => vp_in_nI (by omega) (by omega)
    have K : ∀ h', LI G h' x o (k + 1) → V G mL_law 392 [(3, .int (nI (4 * k))), (1, .ref x), (2, .ref o), (0, .ref (g_b G))] [] h' (3 * r) (8192 * r) Q := fun h' hL' => by
      refine V.iinc (v := nI (4 * (k + 1))) dL_law_392 rfl (by rw [show Int32.ofInt 4 = nI 4 by decide, nI_add]; rfl) (by decide) ?_
      refine V.goto (tgt := 18) dL_law_395 (by decide) ?_
      exact V.re [3, 1, 2, 0] rfl (ih (k + 1) h' (by omega) hL')
    refine V.iload_n dL_law_18 rfl ?_
    first | refine V.aload_n dL_law_19 rfl ?_ | refine V.aload_nN dL_law_19 rfl ?_
    refine V.slen dL_law_20 rfl hb0 ?_
    refine V.iconst (v := (nI 4)) dL_law_21 (by decide) ?_
    refine V.isub dL_law_22 ?_
    refine V.icmp_gt (tgt := 398) dL_law_23 (by decide) (fun c_23 => ?_) (fun c_23 => ?_)
    · rw [lw_lt (by omega) (by omega)] at c_23
      all_goals omega
    · rw [lw_lt (by omega) (by omega)] at c_23
      first | refine V.aload_n dL_law_26 rfl ?_ | refine V.aload_nN dL_law_26 rfl ?_
      refine V.iload_n dL_law_27 rfl ?_
      refine V.sld dL_law_28 hb0 (hin 0 (by omega)) rfl ?_
      refine V.bipush (v := (nI 15)) dL_law_29 (by decide) ?_
      refine V.iand dL_law_31 ?_
      obtain ⟨j, hj, ej⟩ := and15 (g_xs G (nI (4 * k)).toNatClampNeg)
      rw [ej]
      rcases (show j = 0 ∨ j = 1 ∨ j = 2 ∨ j = 3 ∨ j = 4 ∨ j = 5 ∨ j = 6 ∨ j = 7 ∨ j = 8 ∨ j = 9 ∨ j = 10 ∨ j = 11 ∨ j = 12 ∨ j = 13 ∨ j = 14 ∨ j = 15 by omega) with rfl | rfl | rfl | rfl | rfl | rfl | rfl | rfl | rfl | rfl | rfl | rfl | rfl | rfl | rfl | rfl
      · refine V.tableIn (tgt := 96) dL_law_32 (by decide) (by decide) rfl (by decide) ?_
        exact V.re [3, 1, 2, 0] rfl ((kl_path hLI hb0 hin K).mono (by omega) (by omega))
      · refine V.tableIn (tgt := 159) dL_law_32 (by decide) (by decide) rfl (by decide) ?_
        exact V.re [3, 1, 2, 0] rfl ((kl_find hLI K).mono (by omega) (by omega))
      · refine V.tableIn (tgt := 172) dL_law_32 (by decide) (by decide) rfl (by decide) ?_
        exact V.re [3, 1, 2, 0] rfl ((kl_make hLI K).mono (by omega) (by omega))
      · refine V.tableIn (tgt := 185) dL_law_32 (by decide) (by decide) rfl (by decide) ?_
        exact V.re [3, 1, 2, 0] rfl ((kl_go hLI K).mono (by omega) (by omega))
      · refine V.tableIn (tgt := 198) dL_law_32 (by decide) (by decide) rfl (by decide) ?_
        exact V.re [3, 1, 2, 0] rfl ((kl_open hLI K).mono (by omega) (by omega))
      · refine V.tableIn (tgt := 211) dL_law_32 (by decide) (by decide) rfl (by decide) ?_
        exact V.re [3, 1, 2, 0] rfl ((kl_empty hLI K).mono (by omega) (by omega))
      · refine V.tableIn (tgt := 224) dL_law_32 (by decide) (by decide) rfl (by decide) ?_
        exact V.re [3, 1, 2, 0] rfl ((kl_write hLI hb0 hin (by omega) K).mono (by omega) (by omega))
      · refine V.tableIn (tgt := 287) dL_law_32 (by decide) (by decide) rfl (by decide) ?_
        exact V.re [3, 1, 2, 0] rfl ((kl_byteAt hLI hb0 hin (by omega) K).mono (by omega) (by omega))
      · refine V.tableIn (tgt := 310) dL_law_32 (by decide) (by decide) rfl (by decide) ?_
        exact V.re [3, 1, 2, 0] rfl ((kl_remove hLI K).mono (by omega) (by omega))
      · refine V.tableIn (tgt := 323) dL_law_32 (by decide) (by decide) rfl (by decide) ?_
        exact V.re [3, 1, 2, 0] rfl ((kl_move hLI K).mono (by omega) (by omega))
      · refine V.tableIn (tgt := 336) dL_law_32 (by decide) (by decide) rfl (by decide) ?_
        exact V.re [3, 1, 2, 0] rfl ((kl_name hLI hb0 hin (by omega) K).mono (by omega) (by omega))
      · refine V.tableIn (tgt := 369) dL_law_32 (by decide) (by decide) rfl (by decide) ?_
        exact V.re [3, 1, 2, 0] rfl ((kl_count hLI hb0 hin (by omega) K).mono (by omega) (by omega))
      · refine V.tableOut (tgt := 392) dL_law_32 (Or.inr (by decide)) (by decide) ?_
        exact V.re [3, 1, 2, 0] rfl ((K h hLI.up).mono (by omega) (by omega))
      · refine V.tableOut (tgt := 392) dL_law_32 (Or.inr (by decide)) (by decide) ?_
        exact V.re [3, 1, 2, 0] rfl ((K h hLI.up).mono (by omega) (by omega))
      · refine V.tableOut (tgt := 392) dL_law_32 (Or.inr (by decide)) (by decide) ?_
        exact V.re [3, 1, 2, 0] rfl ((K h hLI.up).mono (by omega) (by omega))
      · refine V.tableOut (tgt := 392) dL_law_32 (Or.inr (by decide)) (by decide) ?_
        exact V.re [3, 1, 2, 0] rfl ((K h hLI.up).mono (by omega) (by omega))
theorem t0_m : s_many s_T0 = 1 := by decide +kernel
theorem WF0 : WF s_T0 1 [] (fun _ => 0) 0 := ⟨t0_m.symm, fun q hq => absurd hq List.not_mem_nil, ⟨rfl, fun e he h2 h0 => absurd (t0_l (by omega)) h0, fun _ => Nat.le_refl _⟩, Nat.le_refl _⟩
set_option maxHeartbeats 4000000 in
set_option maxRecDepth 100000 in
/-- the law -/
theorem kl_law {G : GG} {h : HH} {x n : Nat} {Q : Option Value → HH → Prop} (hb0 : g_b G < g_0 G) (hLb : g_L G ≤ 2048) (hn : n = g_L G / 4) (hx : g_0 G ≤ x) (hz : h.2.2 = x) (hQ : ∀ h, Q (some (.int (nI 1))) h) : V G mL_law 0 (lv_args 0 [.ref (g_b G)]) [] h (14 + 3 * n) (150800 + 8192 * n) Q := by
  refine V.newk (c2 := 13 + 3 * n) (s2 := 150793 + 8192 * n) dL_law_0 w_L_7 (by omega) (by omega) hz ?_
  intro h1 e1 z1
  have k1 : (h1.1 x).1 = 0 := by (rw [e1, hn_k hz])
  refine V.dup dL_law_3 rfl ?_
  refine V.callI 4 (9 + 3 * n) 257 (150536 + 8192 * n) [] dL_law_4 okP_init n_L_9 rfl rfl imP_init (by decide) (by decide) rfl rfl (Nat.le_of_ble_eq_true rfl) (Nat.le_of_ble_eq_true rfl) (by omega) (by omega) (k_P_init (p := fun _ => 0) hx z1 k1 (fun h2 z2 s2 hP2 => ?_))
  first | refine V.astore_n dL_law_7 (by decide) ?_ | refine V.astore_nN dL_law_7 (by decide) ?_
  refine V.newk (c2 := 8 + 3 * n) (s2 := 150522 + 8192 * n) dL_law_8 w_L_10 (by omega) (by omega) z2 ?_
  intro h3 e3 z3
  have k3 : (h3.1 (x + 5)).1 = 4 := by (rw [e3, hn_k z2])
  have f3 : ∀ j, h3.2.1 (x + 5) j = xZ_R j := fun j => by rw [e3]; exact hn_f z2
  have s3 : ∀ b, b < x + 5 → h3.1 b = h2.1 b ∧ ∀ j, h3.2.1 b j = h2.2.1 b j := fun b hb => ⟨by rw [e3]; exact hn_kn (by omega), fun j => by rw [e3]; exact hn_fn (by omega)⟩
  clear e3 e1
  refine V.dup dL_law_11 rfl ?_
  refine V.callI 8 (3 * n) 150522 (8192 * n) [] dL_law_12 okR_init n_L_12 rfl rfl imR_init (by decide) (by decide) rfl rfl (Nat.le_of_ble_eq_true rfl) (Nat.le_of_ble_eq_true rfl) (by omega) (by omega) (kR_init (o := x + 5) (p := fun _ => 0) (by omega) z3 k3 f3 (fun h4 z4 s4 hR4 => ?_))
  first | refine V.astore_n dL_law_15 (by decide) ?_ | refine V.astore_nN dL_law_15 (by decide) ?_
  refine V.iconst (v := (nI 0)) dL_law_16 (by decide) ?_
  refine V.istore_n dL_law_17 (by decide) ?_
  have hF : FK (fun _ _ => False) h2 h4 := ⟨by omega, fun b hb => (s4 b (by omega)).1.trans (s3 b (by omega)).1, fun b j hb _ => ((s4 b (by omega)).2 j).trans ((s3 b (by omega)).2 j)⟩
  exact V.re [3, 1, 2, 0] rfl (kl_loop (x := x) (o := x + 5) hb0 hLb hQ n 0 h4 (by omega) ⟨_, _, _, _, _, _, _, _, _, _, _, _, _, _, _, _, _, hR4, hP2.ci hF hR4.nk, WF0⟩)
