/-- after k calls: reference and class stand for the same -/
def LI (G : GG) (h : HH) (x o k : Nat) : Prop := ∃ (T : TT) (p : Nat → Nat) (len hand : Nat) (op : Option Nat) (gone : Bool) (ents : Nat) (bl : List (Nat × Nat)) (ad na : Nat → Nat) (ch : Nat → List Nat) (ba cp : Nat → Nat) (ga gb gc : Nat) (dp : Nat → Nat),
  RI G h o T p len hand op gone ents bl ∧ CI G h x o T p len hand op gone bl ad na ch ba cp ga gb gc ∧ WF T ents bl dp k
theorem first_eq {T : TT} {y e : Nat} (h1 : T.1 y = 0) (h2 : ∀ x, x < y → T.1 x ≠ 0) (h3 : T.1 e = 0) (h4 : ∀ x, x < e → T.1 x ≠ 0) : e = y := by
  rcases Nat.lt_trichotomy e y with z | z | z
  · exact absurd h3 (h2 e z)
  · exact z
  · exact absurd h1 (h4 y z)
theorem free_ex {T : TT} (h0 : T.1 0 = 2) : ∃ y, (s_many T ≠ 300 → 1 ≤ y ∧ y < 300 ∧ T.1 y = 0) ∧ (s_many T ≠ 300 → ∀ x, x < y → T.1 x ≠ 0) := by
  by_cases hm : s_many T = 300
  · exact ⟨0, fun z => absurd hm z, fun z => absurd hm z⟩
  · obtain ⟨f, h1, h2, h3, h4⟩ := s_free (T := T) (by omega) hm
    exact ⟨f, fun _ => ⟨h1, h2, h3⟩, fun _ => h4⟩
set_option maxHeartbeats 4000000 in
set_option maxRecDepth 100000 in
/-- a call of find -/
theorem kl_find {G : GG} {h : HH} {x o k c s : Nat} {Q : Option Value → HH → Prop} (hL : LI G h x o k) (K : ∀ h', LI G h' x o (k + 1) → V G mL_law 392 [(3, .int (nI (4 * k))), (1, .ref x), (2, .ref o), (0, .ref (g_b G))] [] h' c s Q) : V G mL_law 159 [(3, .int (nI (4 * k))), (1, .ref x), (2, .ref o), (0, .ref (g_b G))] [] h (c + 3) (s + 8192) Q := by
  obtain ⟨T, p, len, hand, op, gone, ents, bl, ad, na, ch, ba, cp, ga, gb, gc, dp, hR, hC, hW⟩ := hL
  obtain ⟨hNK, hP, hO, hX, hCT, hB⟩ := id hC
  have hhd : T.1 hand = 2 := hP.2.2.2.2.2.1.2
  have h00 : T.1 0 = 2 := hCT.2.2.2.1.2.1
  have hen := hW.ents_ h00
  first | refine V.aload_n dL_law_159 rfl ?_ | refine V.aload_nN dL_law_159 rfl ?_
  refine V.callVk (kd := 0) 0 _ 0 _ [] dL_law_160 okP_find n_L_20 hP.1 hP.2.1 rfl imP_find seP_find_P (by decide) (by decide) rfl rfl (Nat.le_of_ble_eq_true rfl) (Nat.le_of_ble_eq_true rfl) (Nat.le_of_eq (Nat.zero_add _)) (Nat.le_of_eq (Nat.zero_add _)) (k_find hC (fun h1 hC1 hF1 => ?_))
  have hR1 := hR.cfr hF1
  first | refine V.aload_n dL_law_163 rfl ?_ | refine V.aload_nN dL_law_163 rfl ?_
  refine V.callVk (kd := 4) 0 _ 0 _ [] dL_law_164 okR_find n_L_24 ⟨hR1.1.1.1, by (have h9 := hR1.1.1.2; omega)⟩ hR1.1.2.1 rfl imR_find seR_find_R (by decide) (by decide) rfl rfl (Nat.le_of_ble_eq_true rfl) (Nat.le_of_ble_eq_true rfl) (Nat.le_of_eq (Nat.zero_add _)) (Nat.le_of_eq (Nat.zero_add _)) (kR_find hR1 (fun h2 hR2 hF2 => ?_))
  refine V.icmp_eq (tgt := 392) dL_law_167 (by decide) (fun c_167 => ?_) (fun c_167 => ?_)
  · skip
    exact V.re [3, 1, 2, 0] rfl (V.mono (K _ ⟨_, _, _, _, _, _, _, _, _, _, _, _, _, _, _, _, _, hR2, hC1.fro hF2, hW.up⟩) (by omega) (by omega))
  · skip
    exact absurd rfl c_167
set_option maxHeartbeats 4000000 in
set_option maxRecDepth 100000 in
/-- a call of byteAt -/
theorem kl_byteAt {G : GG} {h : HH} {x o k c s : Nat} {Q : Option Value → HH → Prop} (hL : LI G h x o k) (hb0 : g_b G < g_0 G) (hin : ∀ d, d < 4 → vp_in (nI (4 * k + d)) (g_L G)) (hk : k < 512) (K : ∀ h', LI G h' x o (k + 1) → V G mL_law 392 [(3, .int (nI (4 * k))), (1, .ref x), (2, .ref o), (0, .ref (g_b G))] [] h' c s Q) : V G mL_law 287 [(3, .int (nI (4 * k))), (1, .ref x), (2, .ref o), (0, .ref (g_b G))] [] h (c + 3) (s + 8192) Q := by
  obtain ⟨T, p, len, hand, op, gone, ents, bl, ad, na, ch, ba, cp, ga, gb, gc, dp, hR, hC, hW⟩ := hL
  obtain ⟨hNK, hP, hO, hX, hCT, hB⟩ := id hC
  have hhd : T.1 hand = 2 := hP.2.2.2.2.2.1.2
  have h00 : T.1 0 = 2 := hCT.2.2.2.1.2.1
  have hen := hW.ents_ h00
  first | refine V.aload_n dL_law_287 rfl ?_ | refine V.aload_nN dL_law_287 rfl ?_
  first | refine V.aload_n dL_law_288 rfl ?_ | refine V.aload_nN dL_law_288 rfl ?_
  refine V.iload_n dL_law_289 rfl ?_
  refine V.iconst (v := (nI 1)) dL_law_290 (by decide) ?_
  refine V.iaddN dL_law_291 ?_
  refine V.sld dL_law_292 hb0 (hin 1 (by omega)) rfl ?_
  refine V.callVk (kd := 0) 0 _ 0 _ [_] dL_law_293 okP_byteAt n_L_46 hP.1 hP.2.1 rfl imP_byteAt seP_byteAt_P (by decide) (by decide) rfl rfl (Nat.le_of_ble_eq_true rfl) (Nat.le_of_ble_eq_true rfl) (Nat.le_of_eq (Nat.zero_add _)) (Nat.le_of_eq (Nat.zero_add _)) (k_byteAt hC ?_)
  first | refine V.aload_n dL_law_296 rfl ?_ | refine V.aload_nN dL_law_296 rfl ?_
  first | refine V.aload_n dL_law_297 rfl ?_ | refine V.aload_nN dL_law_297 rfl ?_
  refine V.iload_n dL_law_298 rfl ?_
  refine V.iconst (v := (nI 1)) dL_law_299 (by decide) ?_
  refine V.iaddN dL_law_300 ?_
  refine V.sld dL_law_301 hb0 (hin 1 (by omega)) rfl ?_
  refine V.callVk (kd := 4) 0 _ 0 _ [_] dL_law_302 okR_byteAt n_L_50 ⟨hR.1.1.1, by (have h9 := hR.1.1.2; omega)⟩ hR.1.2.1 rfl imR_byteAt seR_byteAt_R (by decide) (by decide) rfl rfl (Nat.le_of_ble_eq_true rfl) (Nat.le_of_ble_eq_true rfl) (Nat.le_of_eq (Nat.zero_add _)) (Nat.le_of_eq (Nat.zero_add _)) (kR_byteAt hR ?_)
  refine V.icmp_eq (tgt := 392) dL_law_305 (by decide) (fun c_305 => ?_) (fun c_305 => ?_)
  · skip
    exact V.re [3, 1, 2, 0] rfl (V.mono (K _ ⟨_, _, _, _, _, _, _, _, _, _, _, _, _, _, _, _, _, hR, hC, hW.up⟩) (by omega) (by omega))
  · skip
    exact absurd rfl c_305
set_option maxHeartbeats 4000000 in
set_option maxRecDepth 100000 in
/-- a call of name -/
theorem kl_name {G : GG} {h : HH} {x o k c s : Nat} {Q : Option Value → HH → Prop} (hL : LI G h x o k) (hb0 : g_b G < g_0 G) (hin : ∀ d, d < 4 → vp_in (nI (4 * k + d)) (g_L G)) (hk : k < 512) (K : ∀ h', LI G h' x o (k + 1) → V G mL_law 392 [(3, .int (nI (4 * k))), (1, .ref x), (2, .ref o), (0, .ref (g_b G))] [] h' c s Q) : V G mL_law 336 [(3, .int (nI (4 * k))), (1, .ref x), (2, .ref o), (0, .ref (g_b G))] [] h (c + 3) (s + 8192) Q := by
  obtain ⟨T, p, len, hand, op, gone, ents, bl, ad, na, ch, ba, cp, ga, gb, gc, dp, hR, hC, hW⟩ := hL
  obtain ⟨hNK, hP, hO, hX, hCT, hB⟩ := id hC
  have hhd : T.1 hand = 2 := hP.2.2.2.2.2.1.2
  have h00 : T.1 0 = 2 := hCT.2.2.2.1.2.1
  have hen := hW.ents_ h00
  first | refine V.aload_n dL_law_336 rfl ?_ | refine V.aload_nN dL_law_336 rfl ?_
  first | refine V.aload_n dL_law_337 rfl ?_ | refine V.aload_nN dL_law_337 rfl ?_
  refine V.iload_n dL_law_338 rfl ?_
  refine V.iconst (v := (nI 1)) dL_law_339 (by decide) ?_
  refine V.iaddN dL_law_340 ?_
  refine V.sld dL_law_341 hb0 (hin 1 (by omega)) rfl ?_
  first | refine V.aload_n dL_law_342 rfl ?_ | refine V.aload_nN dL_law_342 rfl ?_
  refine V.iload_n dL_law_343 rfl ?_
  refine V.iconst (v := (nI 2)) dL_law_344 (by decide) ?_
  refine V.iaddN dL_law_345 ?_
  refine V.sld dL_law_346 hb0 (hin 2 (by omega)) rfl ?_
  refine V.callVk (kd := 0) 0 _ 0 _ [_, _] dL_law_347 okP_name n_L_59 hP.1 hP.2.1 rfl imP_name seP_name_P (by decide) (by decide) rfl rfl (Nat.le_of_ble_eq_true rfl) (Nat.le_of_ble_eq_true rfl) (Nat.le_of_eq (Nat.zero_add _)) (Nat.le_of_eq (Nat.zero_add _)) (k_name hC ?_)
  first | refine V.aload_n dL_law_350 rfl ?_ | refine V.aload_nN dL_law_350 rfl ?_
  first | refine V.aload_n dL_law_351 rfl ?_ | refine V.aload_nN dL_law_351 rfl ?_
  refine V.iload_n dL_law_352 rfl ?_
  refine V.iconst (v := (nI 1)) dL_law_353 (by decide) ?_
  refine V.iaddN dL_law_354 ?_
  refine V.sld dL_law_355 hb0 (hin 1 (by omega)) rfl ?_
  first | refine V.aload_n dL_law_356 rfl ?_ | refine V.aload_nN dL_law_356 rfl ?_
  refine V.iload_n dL_law_357 rfl ?_
  refine V.iconst (v := (nI 2)) dL_law_358 (by decide) ?_
  refine V.iaddN dL_law_359 ?_
  refine V.sld dL_law_360 hb0 (hin 2 (by omega)) rfl ?_
  refine V.callVk (kd := 4) 0 _ 0 _ [_, _] dL_law_361 okR_name n_L_63 ⟨hR.1.1.1, by (have h9 := hR.1.1.2; omega)⟩ hR.1.2.1 rfl imR_name seR_name_R (by decide) (by decide) rfl rfl (Nat.le_of_ble_eq_true rfl) (Nat.le_of_ble_eq_true rfl) (Nat.le_of_eq (Nat.zero_add _)) (Nat.le_of_eq (Nat.zero_add _)) (kR_name hR.1 hR.2.2.1 hR.2.2.2.1 ?_)
  refine V.icmp_eq (tgt := 392) dL_law_364 (by decide) (fun c_364 => ?_) (fun c_364 => ?_)
  · skip
    exact V.re [3, 1, 2, 0] rfl (V.mono (K _ ⟨_, _, _, _, _, _, _, _, _, _, _, _, _, _, _, _, _, hR, hC, hW.up⟩) (by omega) (by omega))
  · skip
    exact absurd rfl c_364
set_option maxHeartbeats 4000000 in
set_option maxRecDepth 100000 in
/-- a call of count -/
theorem kl_count {G : GG} {h : HH} {x o k c s : Nat} {Q : Option Value → HH → Prop} (hL : LI G h x o k) (hb0 : g_b G < g_0 G) (hin : ∀ d, d < 4 → vp_in (nI (4 * k + d)) (g_L G)) (hk : k < 512) (K : ∀ h', LI G h' x o (k + 1) → V G mL_law 392 [(3, .int (nI (4 * k))), (1, .ref x), (2, .ref o), (0, .ref (g_b G))] [] h' c s Q) : V G mL_law 369 [(3, .int (nI (4 * k))), (1, .ref x), (2, .ref o), (0, .ref (g_b G))] [] h (c + 3) (s + 8192) Q := by
  obtain ⟨T, p, len, hand, op, gone, ents, bl, ad, na, ch, ba, cp, ga, gb, gc, dp, hR, hC, hW⟩ := hL
  obtain ⟨hNK, hP, hO, hX, hCT, hB⟩ := id hC
  have hhd : T.1 hand = 2 := hP.2.2.2.2.2.1.2
  have h00 : T.1 0 = 2 := hCT.2.2.2.1.2.1
  have hen := hW.ents_ h00
  first | refine V.aload_n dL_law_369 rfl ?_ | refine V.aload_nN dL_law_369 rfl ?_
  first | refine V.aload_n dL_law_370 rfl ?_ | refine V.aload_nN dL_law_370 rfl ?_
  refine V.iload_n dL_law_371 rfl ?_
  refine V.iconst (v := (nI 1)) dL_law_372 (by decide) ?_
  refine V.iaddN dL_law_373 ?_
  refine V.sld dL_law_374 hb0 (hin 1 (by omega)) rfl ?_
  refine V.callVk (kd := 0) 0 _ 0 _ [_] dL_law_375 okP_count n_L_64 hP.1 hP.2.1 rfl imP_count seP_count_P (by decide) (by decide) rfl rfl (Nat.le_of_ble_eq_true rfl) (Nat.le_of_ble_eq_true rfl) (Nat.le_of_eq (Nat.zero_add _)) (Nat.le_of_eq (Nat.zero_add _)) (k_count (dp := dp) hC hW.2.2.1.1 hW.2.2.1.2.1 ?_)
  first | refine V.aload_n dL_law_378 rfl ?_ | refine V.aload_nN dL_law_378 rfl ?_
  first | refine V.aload_n dL_law_379 rfl ?_ | refine V.aload_nN dL_law_379 rfl ?_
  refine V.iload_n dL_law_380 rfl ?_
  refine V.iconst (v := (nI 1)) dL_law_381 (by decide) ?_
  refine V.iaddN dL_law_382 ?_
  refine V.sld dL_law_383 hb0 (hin 1 (by omega)) rfl ?_
  refine V.callVk (kd := 4) 0 _ 0 _ [_] dL_law_384 okR_count n_L_67 ⟨hR.1.1.1, by (have h9 := hR.1.1.2; omega)⟩ hR.1.2.1 rfl imR_count seR_count_R (by decide) (by decide) rfl rfl (Nat.le_of_ble_eq_true rfl) (Nat.le_of_ble_eq_true rfl) (Nat.le_of_eq (Nat.zero_add _)) (Nat.le_of_eq (Nat.zero_add _)) (kR_count hR hW.2.2.1.1 hW.2.2.1.2.1 hhd (by (have h9 := hW.2.2.1.2.2 hand; omega)) ?_)
  refine V.icmp_eq (tgt := 392) dL_law_387 (by decide) (fun c_387 => ?_) (fun c_387 => ?_)
  · skip
    exact V.re [3, 1, 2, 0] rfl (V.mono (K _ ⟨_, _, _, _, _, _, _, _, _, _, _, _, _, _, _, _, _, hR, hC, hW.up⟩) (by omega) (by omega))
  · skip
    exact absurd rfl c_387
set_option maxHeartbeats 4000000 in
set_option maxRecDepth 100000 in
/-- a call of go -/
theorem kl_go {G : GG} {h : HH} {x o k c s : Nat} {Q : Option Value → HH → Prop} (hL : LI G h x o k) (K : ∀ h', LI G h' x o (k + 1) → V G mL_law 392 [(3, .int (nI (4 * k))), (1, .ref x), (2, .ref o), (0, .ref (g_b G))] [] h' c s Q) : V G mL_law 185 [(3, .int (nI (4 * k))), (1, .ref x), (2, .ref o), (0, .ref (g_b G))] [] h (c + 3) (s + 8192) Q := by
  obtain ⟨T, p, len, hand, op, gone, ents, bl, ad, na, ch, ba, cp, ga, gb, gc, dp, hR, hC, hW⟩ := hL
  obtain ⟨hNK, hP, hO, hX, hCT, hB⟩ := id hC
  have hhd : T.1 hand = 2 := hP.2.2.2.2.2.1.2
  have h00 : T.1 0 = 2 := hCT.2.2.2.1.2.1
  have hen := hW.ents_ h00
  first | refine V.aload_n dL_law_185 rfl ?_ | refine V.aload_nN dL_law_185 rfl ?_
  refine V.callVk (kd := 0) 0 _ 0 _ [] dL_law_186 okP_go n_L_30 hP.1 hP.2.1 rfl imP_go seP_go_P (by decide) (by decide) rfl rfl (Nat.le_of_ble_eq_true rfl) (Nat.le_of_ble_eq_true rfl) (Nat.le_of_eq (Nat.zero_add _)) (Nat.le_of_eq (Nat.zero_add _)) (k_go hC (fun hd h1 hC1 hF1 => ?_) (fun e hd h1 hC1 hF1 => ?_))
  · have hR1 := hR.cfr hF1
    first | refine V.aload_n dL_law_189 rfl ?_ | refine V.aload_nN dL_law_189 rfl ?_
    refine V.callVk (kd := 4) 0 _ 0 _ [] dL_law_190 okR_go n_L_33 ⟨hR1.1.1.1, by (have h9 := hR1.1.1.2; omega)⟩ hR1.1.2.1 rfl imR_go seR_go_R (by decide) (by decide) rfl rfl (Nat.le_of_ble_eq_true rfl) (Nat.le_of_ble_eq_true rfl) (Nat.le_of_eq (Nat.zero_add _)) (Nat.le_of_eq (Nat.zero_add _)) (kR_go hR1 (fun hd2 h2 hR2 hF2 => ?_) (fun e2 hd2 h2 hR2 hF2 => ?_))
    · refine V.icmp_eq (tgt := 392) dL_law_193 (by decide) (fun c_193 => ?_) (fun c_193 => ?_)
      · skip
        exact V.re [3, 1, 2, 0] rfl (V.mono (K _ ⟨_, _, _, _, _, _, _, _, _, _, _, _, _, _, _, _, _, hR2, hC1.fro hF2, hW.up⟩) (by omega) (by omega))
      · skip
        exact absurd rfl c_193
    · rw [hd] at hd2; cases hd2
    skip
  · have hR1 := hR.cfr hF1
    first | refine V.aload_n dL_law_189 rfl ?_ | refine V.aload_nN dL_law_189 rfl ?_
    refine V.callVk (kd := 4) 0 _ 0 _ [] dL_law_190 okR_go n_L_33 ⟨hR1.1.1.1, by (have h9 := hR1.1.1.2; omega)⟩ hR1.1.2.1 rfl imR_go seR_go_R (by decide) (by decide) rfl rfl (Nat.le_of_ble_eq_true rfl) (Nat.le_of_ble_eq_true rfl) (Nat.le_of_eq (Nat.zero_add _)) (Nat.le_of_eq (Nat.zero_add _)) (kR_go hR1 (fun hd2 h2 hR2 hF2 => ?_) (fun e2 hd2 h2 hR2 hF2 => ?_))
    · rw [hd] at hd2; cases hd2
    · have e9 : e2 = e := Option.some.inj (hd2.symm.trans hd)
      subst e9
      refine V.icmp_eq (tgt := 392) dL_law_193 (by decide) (fun c_193 => ?_) (fun c_193 => ?_)
      · skip
        exact V.re [3, 1, 2, 0] rfl (V.mono (K _ ⟨_, _, _, _, _, _, _, _, _, _, _, _, _, _, _, _, _, hR2, hC1.fro hF2, hW.up⟩) (by omega) (by omega))
      · skip
        exact absurd rfl c_193
    skip
  skip
theorem CT.home2 {G : GG} {h : HH} {x : Nat} {T : TT} {p : Nat → Nat} {len hand : Nat} {ad na : Nat → Nat} {ch : Nat → List Nat} (hC : CT G h x T ad na ch) (hh : hand < 300 ∧ T.1 hand = 2) {d : Nat} (hr : s_home T p hand len = some d) : d < 300 ∧ T.1 d = 2 := by
  unfold s_home at hr
  split at hr
  · cases hr; exact hh
  · cases hq : s_lead0 T p hand (s_last p len - 1) with
    | none => rw [hq] at hr; cases hr
    | some e =>
      rw [hq] at hr
      unfold s_dir at hr
      dsimp only at hr
      split at hr
      · next h2 => cases hr; exact ⟨(hC.lead0 hh hq).1, h2⟩
      · cases hr
set_option maxHeartbeats 4000000 in
set_option maxRecDepth 100000 in
/-- a call of make -/
theorem kl_make {G : GG} {h : HH} {x o k c s : Nat} {Q : Option Value → HH → Prop} (hL : LI G h x o k) (K : ∀ h', LI G h' x o (k + 1) → V G mL_law 392 [(3, .int (nI (4 * k))), (1, .ref x), (2, .ref o), (0, .ref (g_b G))] [] h' c s Q) : V G mL_law 172 [(3, .int (nI (4 * k))), (1, .ref x), (2, .ref o), (0, .ref (g_b G))] [] h (c + 3) (s + 8192) Q := by
  obtain ⟨T, p, len, hand, op, gone, ents, bl, ad, na, ch, ba, cp, ga, gb, gc, dp, hR, hC, hW⟩ := hL
  obtain ⟨hNK, hP, hO, hX, hCT, hB⟩ := id hC
  have hhd : T.1 hand = 2 := hP.2.2.2.2.2.1.2
  have h00 : T.1 0 = 2 := hCT.2.2.2.1.2.1
  have hen := hW.ents_ h00
  first | refine V.aload_n dL_law_172 rfl ?_ | refine V.aload_nN dL_law_172 rfl ?_
  obtain ⟨y, hy, hyf⟩ := free_ex h00
  have hcan : ∀ d, s_can T p hand len (s_many T) = some d → d < 300 ∧ T.1 d = 2 := fun d hc => hCT.home2 hP.2.2.2.2.2.1 (s_can_home hc).1
  have hent := hW.1
  subst hent
  refine V.callVk (kd := 0) 2 c 65 s [] dL_law_173 okP_make n_L_25 hP.1 hP.2.1 rfl imP_make seP_make_P (by decide) (by decide) rfl rfl (Nat.le_of_ble_eq_true rfl) (Nat.le_of_ble_eq_true rfl) (by omega) (by omega) (k_make hC hy hW.bk hW.sp (fun hc h1 hC1 hF1 => ?_) (fun d hc h1 ad1 na1 ch1 ba1 cp1 hC1 hF1 => ?_))
  · have hR1 := hR.cfr hF1
    first | refine V.aload_n dL_law_176 rfl ?_ | refine V.aload_nN dL_law_176 rfl ?_
    refine V.callVk (kd := 4) 0 _ 0 _ [] dL_law_177 okR_make n_L_29 ⟨hR1.1.1.1, by (have h9 := hR1.1.1.2; omega)⟩ hR1.1.2.1 rfl imR_make seR_make_R (by decide) (by decide) rfl rfl (Nat.le_of_ble_eq_true rfl) (Nat.le_of_ble_eq_true rfl) (Nat.le_of_eq (Nat.zero_add _)) (Nat.le_of_eq (Nat.zero_add _)) (kR_make hR1 hhd h00 rfl hW.bk (fun hn h2 hR2 hF2 => ?_) (fun hl d2 hc2 e he1 he2 he3 he4 h2 hR2 hF2 => ?_))
    · refine V.icmp_eq (tgt := 392) dL_law_180 (by decide) (fun c_180 => ?_) (fun c_180 => ?_)
      · skip
        exact V.re [3, 1, 2, 0] rfl (V.mono (K _ ⟨_, _, _, _, _, _, _, _, _, _, _, _, _, _, _, _, _, hR2, hC1.fro hF2, hW.up⟩) (by omega) (by omega))
      · skip
        exact absurd rfl c_180
    · rw [hc] at hc2; cases hc2
    skip
  · have hR1 := hR.cfr hF1
    have hdd := hcan d hc
    have hm := (s_can_home hc).2.2.1
    first | refine V.aload_n dL_law_176 rfl ?_ | refine V.aload_nN dL_law_176 rfl ?_
    refine V.callVk (kd := 4) 0 _ 0 _ [] dL_law_177 okR_make n_L_29 ⟨hR1.1.1.1, by (have h9 := hR1.1.1.2; omega)⟩ hR1.1.2.1 rfl imR_make seR_make_R (by decide) (by decide) rfl rfl (Nat.le_of_ble_eq_true rfl) (Nat.le_of_ble_eq_true rfl) (Nat.le_of_eq (Nat.zero_add _)) (Nat.le_of_eq (Nat.zero_add _)) (kR_make hR1 hhd h00 rfl hW.bk (fun hn h2 hR2 hF2 => ?_) (fun hl d2 hc2 e he1 he2 he3 he4 h2 hR2 hF2 => ?_))
    · exact absurd hn (fun z => z.elim (fun w => w (s_can_lead hdd.2 hc)) (fun w => by (rw [hc] at w; cases w)))
    · have e9 : d2 = d := Option.some.inj (hc2.symm.trans hc)
      subst e9
      have e8 := first_eq (hy hm).2.2 (hyf hm) he3 he4
      subst e8
      refine V.icmp_eq (tgt := 392) dL_law_180 (by decide) (fun c_180 => ?_) (fun c_180 => ?_)
      · skip
        exact V.re [3, 1, 2, 0] rfl (V.mono (K _ ⟨_, _, _, _, _, _, _, _, _, _, _, _, _, _, _, _, _, hR2, hC1.fro hF2, hW.new2 ⟨he1, he2⟩ he3 hdd.2⟩) (by omega) (by omega))
      · skip
        exact absurd rfl c_180
    skip
  skip
set_option maxHeartbeats 4000000 in
set_option maxRecDepth 100000 in
/-- a call of open -/
theorem kl_open {G : GG} {h : HH} {x o k c s : Nat} {Q : Option Value → HH → Prop} (hL : LI G h x o k) (K : ∀ h', LI G h' x o (k + 1) → V G mL_law 392 [(3, .int (nI (4 * k))), (1, .ref x), (2, .ref o), (0, .ref (g_b G))] [] h' c s Q) : V G mL_law 198 [(3, .int (nI (4 * k))), (1, .ref x), (2, .ref o), (0, .ref (g_b G))] [] h (c + 3) (s + 8192) Q := by
  obtain ⟨T, p, len, hand, op, gone, ents, bl, ad, na, ch, ba, cp, ga, gb, gc, dp, hR, hC, hW⟩ := hL
  obtain ⟨hNK, hP, hO, hX, hCT, hB⟩ := id hC
  have hhd : T.1 hand = 2 := hP.2.2.2.2.2.1.2
  have h00 : T.1 0 = 2 := hCT.2.2.2.1.2.1
  have hen := hW.ents_ h00
  first | refine V.aload_n dL_law_198 rfl ?_ | refine V.aload_nN dL_law_198 rfl ?_
  obtain ⟨y, hy, hyf⟩ := free_ex h00
  have hcan : ∀ d, s_can T p hand len (s_many T) = some d → d < 300 ∧ T.1 d = 2 := fun d hc => hCT.home2 hP.2.2.2.2.2.1 (s_can_home hc).1
  have hent := hW.1
  subst hent
  refine V.callVk (kd := 0) 3 c 81 s [] dL_law_199 okP_open n_L_34 hP.1 hP.2.1 rfl imP_open seP_open_P (by decide) (by decide) rfl rfl (Nat.le_of_ble_eq_true rfl) (Nat.le_of_ble_eq_true rfl) (by omega) (by omega) (k_open hC hy hW.bk hW.sp (fun hA1 h1 hC1 hF1 => ?_) (fun e1 hl1 hk1 h1 hC1 hF1 => ?_) (fun hl1 d1 hc1 h1 ad1 na1 ch1 ba1 cp1 hC1 hF1 => ?_))
  · have hR1 := hR.cfr hF1
    first | refine V.aload_n dL_law_202 rfl ?_ | refine V.aload_nN dL_law_202 rfl ?_
    refine V.callVk (kd := 4) 0 _ 0 _ [] dL_law_203 okR_open n_L_37 ⟨hR1.1.1.1, by (have h9 := hR1.1.1.2; omega)⟩ hR1.1.2.1 rfl imR_open seR_open_R (by decide) (by decide) rfl rfl (Nat.le_of_ble_eq_true rfl) (Nat.le_of_ble_eq_true rfl) (Nat.le_of_eq (Nat.zero_add _)) (Nat.le_of_eq (Nat.zero_add _)) (kR_open hR1 hhd h00 rfl hW.bk (fun hA h2 hR2 hF2 => ?_) (fun e2 hl2 hk2 h2 hR2 hF2 => ?_) (fun hl2 d2 hc2 e he1 he2 he3 he4 h2 hR2 hF2 => ?_))
    · refine V.icmp_eq (tgt := 392) dL_law_206 (by decide) (fun c_206 => ?_) (fun c_206 => ?_)
      · skip
        exact V.re [3, 1, 2, 0] rfl (V.mono (K _ ⟨_, _, _, _, _, _, _, _, _, _, _, _, _, _, _, _, _, hR2, hC1.fro hF2, hW.up⟩) (by omega) (by omega))
      · skip
        exact absurd rfl c_206
    · exfalso
      rcases hA1 with ⟨e, q1, q2⟩ | ⟨q1, q2⟩
      · rw [hl2] at q1; cases q1; exact q2 hk2
      · rw [hl2] at q1; cases q1
    · exfalso
      rcases hA1 with ⟨e, q1, q2⟩ | ⟨q1, q2⟩
      · rw [hl2] at q1; cases q1
      · rw [hc2] at q2; cases q2
    skip
  · have hR1 := hR.cfr hF1
    first | refine V.aload_n dL_law_202 rfl ?_ | refine V.aload_nN dL_law_202 rfl ?_
    refine V.callVk (kd := 4) 0 _ 0 _ [] dL_law_203 okR_open n_L_37 ⟨hR1.1.1.1, by (have h9 := hR1.1.1.2; omega)⟩ hR1.1.2.1 rfl imR_open seR_open_R (by decide) (by decide) rfl rfl (Nat.le_of_ble_eq_true rfl) (Nat.le_of_ble_eq_true rfl) (Nat.le_of_eq (Nat.zero_add _)) (Nat.le_of_eq (Nat.zero_add _)) (kR_open hR1 hhd h00 rfl hW.bk (fun hA h2 hR2 hF2 => ?_) (fun e2 hl2 hk2 h2 hR2 hF2 => ?_) (fun hl2 d2 hc2 e he1 he2 he3 he4 h2 hR2 hF2 => ?_))
    · exfalso
      rcases hA with ⟨e, q1, q2⟩ | ⟨q1, q2⟩
      · rw [hl1] at q1; cases q1; exact q2 hk1
      · rw [hl1] at q1; cases q1
    · have e9 : e2 = e1 := Option.some.inj (hl2.symm.trans hl1)
      subst e9
      refine V.icmp_eq (tgt := 392) dL_law_206 (by decide) (fun c_206 => ?_) (fun c_206 => ?_)
      · skip
        exact V.re [3, 1, 2, 0] rfl (V.mono (K _ ⟨_, _, _, _, _, _, _, _, _, _, _, _, _, _, _, _, _, hR2, hC1.fro hF2, hW.up⟩) (by omega) (by omega))
      · skip
        exact absurd rfl c_206
    · rw [hl1] at hl2; cases hl2
    skip
  · have hR1 := hR.cfr hF1
    have hm := (s_can_home hc1).2.2.1
    first | refine V.aload_n dL_law_202 rfl ?_ | refine V.aload_nN dL_law_202 rfl ?_
    refine V.callVk (kd := 4) 0 _ 0 _ [] dL_law_203 okR_open n_L_37 ⟨hR1.1.1.1, by (have h9 := hR1.1.1.2; omega)⟩ hR1.1.2.1 rfl imR_open seR_open_R (by decide) (by decide) rfl rfl (Nat.le_of_ble_eq_true rfl) (Nat.le_of_ble_eq_true rfl) (Nat.le_of_eq (Nat.zero_add _)) (Nat.le_of_eq (Nat.zero_add _)) (kR_open hR1 hhd h00 rfl hW.bk (fun hA h2 hR2 hF2 => ?_) (fun e2 hl2 hk2 h2 hR2 hF2 => ?_) (fun hl2 d2 hc2 e he1 he2 he3 he4 h2 hR2 hF2 => ?_))
    · exfalso
      rcases hA with ⟨e, q1, q2⟩ | ⟨q1, q2⟩
      · rw [hl1] at q1; cases q1
      · rw [hc1] at q2; cases q2
    · rw [hl1] at hl2; cases hl2
    · have e9 : d2 = d1 := Option.some.inj (hc2.symm.trans hc1)
      subst e9
      have e8 := first_eq (hy hm).2.2 (hyf hm) he3 he4
      subst e8
      refine V.icmp_eq (tgt := 392) dL_law_206 (by decide) (fun c_206 => ?_) (fun c_206 => ?_)
      · skip
        exact V.re [3, 1, 2, 0] rfl (V.mono (K _ ⟨_, _, _, _, _, _, _, _, _, _, _, _, _, _, _, _, _, hR2, hC1.fro hF2, hW.new1 ⟨he1, he2⟩ he3⟩) (by omega) (by omega))
      · skip
        exact absurd rfl c_206
    skip
  skip
set_option maxHeartbeats 4000000 in
set_option maxRecDepth 100000 in
/-- a call of empty -/
theorem kl_empty {G : GG} {h : HH} {x o k c s : Nat} {Q : Option Value → HH → Prop} (hL : LI G h x o k) (K : ∀ h', LI G h' x o (k + 1) → V G mL_law 392 [(3, .int (nI (4 * k))), (1, .ref x), (2, .ref o), (0, .ref (g_b G))] [] h' c s Q) : V G mL_law 211 [(3, .int (nI (4 * k))), (1, .ref x), (2, .ref o), (0, .ref (g_b G))] [] h (c + 3) (s + 8192) Q := by
  obtain ⟨T, p, len, hand, op, gone, ents, bl, ad, na, ch, ba, cp, ga, gb, gc, dp, hR, hC, hW⟩ := hL
  obtain ⟨hNK, hP, hO, hX, hCT, hB⟩ := id hC
  have hhd : T.1 hand = 2 := hP.2.2.2.2.2.1.2
  have h00 : T.1 0 = 2 := hCT.2.2.2.1.2.1
  have hen := hW.ents_ h00
  first | refine V.aload_n dL_law_211 rfl ?_ | refine V.aload_nN dL_law_211 rfl ?_
  refine V.callVk (kd := 0) 0 _ 0 _ [] dL_law_212 okP_empty n_L_38 hP.1 hP.2.1 rfl imP_empty seP_empty_P (by decide) (by decide) rfl rfl (Nat.le_of_ble_eq_true rfl) (Nat.le_of_ble_eq_true rfl) (Nat.le_of_eq (Nat.zero_add _)) (Nat.le_of_eq (Nat.zero_add _)) (k_empty hC (fun v1 => ?_) (fun e v1 v2 h1 hC1 hF1 => ?_) (fun e v1 v2 h1 hC1 hF1 => ?_))
  · have hR1 := hR
    first | refine V.aload_n dL_law_215 rfl ?_ | refine V.aload_nN dL_law_215 rfl ?_
    refine V.callVk (kd := 4) 0 _ 0 _ [] dL_law_216 okR_empty n_L_41 ⟨hR1.1.1.1, by (have h9 := hR1.1.1.2; omega)⟩ hR1.1.2.1 rfl imR_empty seR_empty_R (by decide) (by decide) rfl rfl (Nat.le_of_ble_eq_true rfl) (Nat.le_of_ble_eq_true rfl) (Nat.le_of_eq (Nat.zero_add _)) (Nat.le_of_eq (Nat.zero_add _)) (kR_empty hR1 (fun w1 => ?_) (fun e2 w1 w2 => ?_) (fun e2 w1 w2 h2 hR2 hF2 => ?_))
    · refine V.icmp_eq (tgt := 392) dL_law_219 (by decide) (fun c_219 => ?_) (fun c_219 => ?_)
      · skip
        exact V.re [3, 1, 2, 0] rfl (V.mono (K _ ⟨_, _, _, _, _, _, _, _, _, _, _, _, _, _, _, _, _, hR, hC, hW.up⟩) (by omega) (by omega))
      · skip
        exact absurd rfl c_219
    · rw [v1] at w1; cases w1
    · rw [v1] at w1; cases w1
    skip
  · have hR1 := hR.cfr hF1
    first | refine V.aload_n dL_law_215 rfl ?_ | refine V.aload_nN dL_law_215 rfl ?_
    refine V.callVk (kd := 4) 0 _ 0 _ [] dL_law_216 okR_empty n_L_41 ⟨hR1.1.1.1, by (have h9 := hR1.1.1.2; omega)⟩ hR1.1.2.1 rfl imR_empty seR_empty_R (by decide) (by decide) rfl rfl (Nat.le_of_ble_eq_true rfl) (Nat.le_of_ble_eq_true rfl) (Nat.le_of_eq (Nat.zero_add _)) (Nat.le_of_eq (Nat.zero_add _)) (kR_empty hR1 (fun w1 => ?_) (fun e2 w1 w2 => ?_) (fun e2 w1 w2 h2 hR2 hF2 => ?_))
    · rw [v1] at w1; cases w1
    · refine V.icmp_eq (tgt := 392) dL_law_219 (by decide) (fun c_219 => ?_) (fun c_219 => ?_)
      · skip
        exact V.re [3, 1, 2, 0] rfl (V.mono (K _ ⟨_, _, _, _, _, _, _, _, _, _, _, _, _, _, _, _, _, hR1, hC1, hW.up⟩) (by omega) (by omega))
      · skip
        exact absurd rfl c_219
    · rw [v2] at w2; cases w2
    skip
  · have hR1 := hR.cfr hF1
    first | refine V.aload_n dL_law_215 rfl ?_ | refine V.aload_nN dL_law_215 rfl ?_
    refine V.callVk (kd := 4) 0 _ 0 _ [] dL_law_216 okR_empty n_L_41 ⟨hR1.1.1.1, by (have h9 := hR1.1.1.2; omega)⟩ hR1.1.2.1 rfl imR_empty seR_empty_R (by decide) (by decide) rfl rfl (Nat.le_of_ble_eq_true rfl) (Nat.le_of_ble_eq_true rfl) (Nat.le_of_eq (Nat.zero_add _)) (Nat.le_of_eq (Nat.zero_add _)) (kR_empty hR1 (fun w1 => ?_) (fun e2 w1 w2 => ?_) (fun e2 w1 w2 h2 hR2 hF2 => ?_))
    · rw [v1] at w1; cases w1
    · rw [v2] at w2; cases w2
    · have e9 : e2 = e := Option.some.inj (w1.symm.trans v1)
      subst e9
      refine V.icmp_eq (tgt := 392) dL_law_219 (by decide) (fun c_219 => ?_) (fun c_219 => ?_)
      · skip
        exact V.re [3, 1, 2, 0] rfl (V.mono (K _ ⟨_, _, _, _, _, _, _, _, _, _, _, _, _, _, _, _, _, hR2, hC1.fro hF2, hW.but⟩) (by omega) (by omega))
      · skip
        exact absurd rfl c_219
    skip
  skip
set_option maxHeartbeats 4000000 in
set_option maxRecDepth 100000 in
/-- a call of remove -/
theorem kl_remove {G : GG} {h : HH} {x o k c s : Nat} {Q : Option Value → HH → Prop} (hL : LI G h x o k) (K : ∀ h', LI G h' x o (k + 1) → V G mL_law 392 [(3, .int (nI (4 * k))), (1, .ref x), (2, .ref o), (0, .ref (g_b G))] [] h' c s Q) : V G mL_law 310 [(3, .int (nI (4 * k))), (1, .ref x), (2, .ref o), (0, .ref (g_b G))] [] h (c + 3) (s + 8192) Q := by
  obtain ⟨T, p, len, hand, op, gone, ents, bl, ad, na, ch, ba, cp, ga, gb, gc, dp, hR, hC, hW⟩ := hL
  obtain ⟨hNK, hP, hO, hX, hCT, hB⟩ := id hC
  have hhd : T.1 hand = 2 := hP.2.2.2.2.2.1.2
  have h00 : T.1 0 = 2 := hCT.2.2.2.1.2.1
  have hen := hW.ents_ h00
  first | refine V.aload_n dL_law_310 rfl ?_ | refine V.aload_nN dL_law_310 rfl ?_
  refine V.callVk (kd := 0) 0 _ 0 _ [] dL_law_311 okP_remove n_L_51 hP.1 hP.2.1 rfl imP_remove seP_remove_P (by decide) (by decide) rfl rfl (Nat.le_of_ble_eq_true rfl) (Nat.le_of_ble_eq_true rfl) (Nat.le_of_eq (Nat.zero_add _)) (Nat.le_of_eq (Nat.zero_add _)) (k_remove hC hW.sp (fun hn1 h1 hC1 hF1 => ?_) (fun e hl1 hk1 h1 ch1 ga1 gb1 gc1 hC1 hF1 => ?_))
  · have hR1 := hR.cfr hF1
    first | refine V.aload_n dL_law_314 rfl ?_ | refine V.aload_nN dL_law_314 rfl ?_
    refine V.callVk (kd := 4) 0 _ 0 _ [] dL_law_315 okR_remove n_L_54 ⟨hR1.1.1.1, by (have h9 := hR1.1.1.2; omega)⟩ hR1.1.2.1 rfl imR_remove seR_remove_R (by decide) (by decide) rfl rfl (Nat.le_of_ble_eq_true rfl) (Nat.le_of_ble_eq_true rfl) (Nat.le_of_eq (Nat.zero_add _)) (Nat.le_of_eq (Nat.zero_add _)) (kR_remove hR1 hen (fun hn2 h2 hR2 hF2 => ?_) (fun e2 hl2 hk2 h2 hR2 hF2 => ?_))
    · refine V.icmp_eq (tgt := 392) dL_law_318 (by decide) (fun c_318 => ?_) (fun c_318 => ?_)
      · skip
        exact V.re [3, 1, 2, 0] rfl (V.mono (K _ ⟨_, _, _, _, _, _, _, _, _, _, _, _, _, _, _, _, _, hR2, hC1.fro hF2, hW.up⟩) (by omega) (by omega))
      · skip
        exact absurd rfl c_318
    · exact absurd hk2 (hn1 e2 hl2)
    skip
  · have hR1 := hR.cfr hF1
    first | refine V.aload_n dL_law_314 rfl ?_ | refine V.aload_nN dL_law_314 rfl ?_
    refine V.callVk (kd := 4) 0 _ 0 _ [] dL_law_315 okR_remove n_L_54 ⟨hR1.1.1.1, by (have h9 := hR1.1.1.2; omega)⟩ hR1.1.2.1 rfl imR_remove seR_remove_R (by decide) (by decide) rfl rfl (Nat.le_of_ble_eq_true rfl) (Nat.le_of_ble_eq_true rfl) (Nat.le_of_eq (Nat.zero_add _)) (Nat.le_of_eq (Nat.zero_add _)) (kR_remove hR1 hen (fun hn2 h2 hR2 hF2 => ?_) (fun e2 hl2 hk2 h2 hR2 hF2 => ?_))
    · exact absurd hk1 (hn2 e hl1)
    · have e9 : e2 = e := Option.some.inj (hl2.symm.trans hl1)
      subst e9
      refine V.icmp_eq (tgt := 392) dL_law_318 (by decide) (fun c_318 => ?_) (fun c_318 => ?_)
      · skip
        exact V.re [3, 1, 2, 0] rfl (V.mono (K _ ⟨_, _, _, _, _, _, _, _, _, _, _, _, _, _, _, _, _, hR2, hC1.fro hF2, hW.rem (s_lead_lt (fun e he => (hCT.1 e he).2) hP.2.2.2.2.2.1.1 hl2) hk2⟩) (by omega) (by omega))
      · skip
        exact absurd rfl c_318
    skip
  skip
theorem there_live {T : TT} {p : Nat → Nat} {len f : Nat} {q : Nat × Bool} {t : Nat} (h : s_there T p len f q = some t) : t < 300 ∧ T.1 t ≠ 0 := by
  unfold s_there at h
  split at h
  · have h9 := s_ent_some h; exact ⟨h9.1, h9.2.1.2.1⟩
  · have h9 := s_ent_some h; exact ⟨h9.1, h9.2.1.2.1⟩
set_option maxHeartbeats 4000000 in
set_option maxRecDepth 100000 in
/-- a call of move -/
theorem kl_move {G : GG} {h : HH} {x o k c s : Nat} {Q : Option Value → HH → Prop} (hL : LI G h x o k) (K : ∀ h', LI G h' x o (k + 1) → V G mL_law 392 [(3, .int (nI (4 * k))), (1, .ref x), (2, .ref o), (0, .ref (g_b G))] [] h' c s Q) : V G mL_law 323 [(3, .int (nI (4 * k))), (1, .ref x), (2, .ref o), (0, .ref (g_b G))] [] h (c + 3) (s + 8192) Q := by
  obtain ⟨T, p, len, hand, op, gone, ents, bl, ad, na, ch, ba, cp, ga, gb, gc, dp, hR, hC, hW⟩ := hL
  obtain ⟨hNK, hP, hO, hX, hCT, hB⟩ := id hC
  have hhd : T.1 hand = 2 := hP.2.2.2.2.2.1.2
  have h00 : T.1 0 = 2 := hCT.2.2.2.1.2.1
  have hen := hW.ents_ h00
  first | refine V.aload_n dL_law_323 rfl ?_ | refine V.aload_nN dL_law_323 rfl ?_
  refine V.callVk (kd := 0) 1 c 60 s [] dL_law_324 okP_move n_L_55 hP.1 hP.2.1 rfl imP_move seP_move_P (by decide) (by decide) rfl rfl (Nat.le_of_ble_eq_true rfl) (Nat.le_of_ble_eq_true rfl) (by omega) (by omega) (k_move hC hW.sp (fun hn1 h1 hC1 hF1 => ?_) (fun f u1 u2 hn1 h1 hC1 hF1 => ?_) (fun f u1 u2 q hq hok h1 na1 ch1 ga1 gb1 gc1 hC1 hF1 => ?_))
  · have hR1 := hR.cfr hF1
    first | refine V.aload_n dL_law_327 rfl ?_ | refine V.aload_nN dL_law_327 rfl ?_
    refine V.callVk (kd := 4) 0 _ 0 _ [] dL_law_328 okR_move n_L_58 ⟨hR1.1.1.1, by (have h9 := hR1.1.1.2; omega)⟩ hR1.1.2.1 rfl imR_move seR_move_R (by decide) (by decide) rfl rfl (Nat.le_of_ble_eq_true rfl) (Nat.le_of_ble_eq_true rfl) (Nat.le_of_eq (Nat.zero_add _)) (Nat.le_of_eq (Nat.zero_add _)) (kR_move hR1 hhd hen (fun hn2 h2 hR2 hF2 => ?_) (fun f2 v1 v2 hn2 h2 hR2 hF2 => ?_) (fun f2 v1 v2 q2 hq2 hok2 h2 hR2 hF2 => ?_))
    · refine V.icmp_eq (tgt := 392) dL_law_331 (by decide) (fun c_331 => ?_) (fun c_331 => ?_)
      · skip
        exact V.re [3, 1, 2, 0] rfl (V.mono (K _ ⟨_, _, _, _, _, _, _, _, _, _, _, _, _, _, _, _, _, hR2, hC1.fro hF2, hW.up⟩) (by omega) (by omega))
      · skip
        exact absurd rfl c_331
    · refine V.icmp_eq (tgt := 392) dL_law_331 (by decide) (fun c_331 => ?_) (fun c_331 => ?_)
      · skip
        exact V.re [3, 1, 2, 0] rfl (V.mono (K _ ⟨_, _, _, _, _, _, _, _, _, _, _, _, _, _, _, _, _, hR2, hC1.fro hF2, hW.up⟩) (by omega) (by omega))
      · skip
        exact absurd rfl c_331
    · exfalso
      rcases hn1 with z | z
      · rw [z] at v1; cases v1
      · rw [z] at v2; cases v2
    skip
  · have hR1 := hR.cfr hF1
    first | refine V.aload_n dL_law_327 rfl ?_ | refine V.aload_nN dL_law_327 rfl ?_
    refine V.callVk (kd := 4) 0 _ 0 _ [] dL_law_328 okR_move n_L_58 ⟨hR1.1.1.1, by (have h9 := hR1.1.1.2; omega)⟩ hR1.1.2.1 rfl imR_move seR_move_R (by decide) (by decide) rfl rfl (Nat.le_of_ble_eq_true rfl) (Nat.le_of_ble_eq_true rfl) (Nat.le_of_eq (Nat.zero_add _)) (Nat.le_of_eq (Nat.zero_add _)) (kR_move hR1 hhd hen (fun hn2 h2 hR2 hF2 => ?_) (fun f2 v1 v2 hn2 h2 hR2 hF2 => ?_) (fun f2 v1 v2 q2 hq2 hok2 h2 hR2 hF2 => ?_))
    · refine V.icmp_eq (tgt := 392) dL_law_331 (by decide) (fun c_331 => ?_) (fun c_331 => ?_)
      · skip
        exact V.re [3, 1, 2, 0] rfl (V.mono (K _ ⟨_, _, _, _, _, _, _, _, _, _, _, _, _, _, _, _, _, hR2, hC1.fro hF2, hW.up⟩) (by omega) (by omega))
      · skip
        exact absurd rfl c_331
    · refine V.icmp_eq (tgt := 392) dL_law_331 (by decide) (fun c_331 => ?_) (fun c_331 => ?_)
      · skip
        exact V.re [3, 1, 2, 0] rfl (V.mono (K _ ⟨_, _, _, _, _, _, _, _, _, _, _, _, _, _, _, _, _, hR2, hC1.fro hF2, hW.up⟩) (by omega) (by omega))
      · skip
        exact absurd rfl c_331
    · exfalso
      have e9 : f2 = f := Option.some.inj (v1.symm.trans u1)
      subst e9
      rcases hn1 with z | ⟨q, z, w⟩
      · rw [z] at hq2; cases hq2
      · rw [z] at hq2; cases hq2; exact w hok2
    skip
  · have hR1 := hR.cfr hF1
    first | refine V.aload_n dL_law_327 rfl ?_ | refine V.aload_nN dL_law_327 rfl ?_
    refine V.callVk (kd := 4) 0 _ 0 _ [] dL_law_328 okR_move n_L_58 ⟨hR1.1.1.1, by (have h9 := hR1.1.1.2; omega)⟩ hR1.1.2.1 rfl imR_move seR_move_R (by decide) (by decide) rfl rfl (Nat.le_of_ble_eq_true rfl) (Nat.le_of_ble_eq_true rfl) (Nat.le_of_eq (Nat.zero_add _)) (Nat.le_of_eq (Nat.zero_add _)) (kR_move hR1 hhd hen (fun hn2 h2 hR2 hF2 => ?_) (fun f2 v1 v2 hn2 h2 hR2 hF2 => ?_) (fun f2 v1 v2 q2 hq2 hok2 h2 hR2 hF2 => ?_))
    · exfalso
      rcases hn2 with z | z
      · rw [z] at u1; cases u1
      · rw [z] at u2; cases u2
    · exfalso
      have e9 : f2 = f := Option.some.inj (v1.symm.trans u1)
      subst e9
      rcases hn2 with z | ⟨q, z, w⟩
      · rw [z] at hq; cases hq
      · rw [z] at hq; cases hq; exact w hok
    · have e9 : f2 = f := Option.some.inj (v1.symm.trans u1)
      have e8 : q2 = q := Option.some.inj (hq2.symm.trans hq)
      subst e9 e8
      refine V.icmp_eq (tgt := 392) dL_law_331 (by decide) (fun c_331 => ?_) (fun c_331 => ?_)
      · skip
        exact V.re [3, 1, 2, 0] rfl (V.mono (K _ ⟨_, _, _, _, _, _, _, _, _, _, _, _, _, _, _, _, _, hR2, hC1.fro hF2, hW.mv (hO.2.1 f2 v1 v2).2 (fun t ht => there_live ht) hok2 (fun e he => (hCT.1 e he).1)⟩) (by omega) (by omega))
      · skip
        exact absurd rfl c_331
    skip
  skip
set_option maxHeartbeats 4000000 in
set_option maxRecDepth 100000 in
/-- a call of path -/
theorem kl_path {G : GG} {h : HH} {x o k c s : Nat} {Q : Option Value → HH → Prop} (hL : LI G h x o k) (hb0 : g_b G < g_0 G) (hin : ∀ d, d < 4 → vp_in (nI (4 * k + d)) (g_L G)) (K : ∀ h', LI G h' x o (k + 1) → V G mL_law 392 [(3, .int (nI (4 * k))), (1, .ref x), (2, .ref o), (0, .ref (g_b G))] [] h' c s Q) : V G mL_law 96 [(3, .int (nI (4 * k))), (1, .ref x), (2, .ref o), (0, .ref (g_b G))] [] h (c + 3) (s + 8192) Q := by
  obtain ⟨T, p, len, hand, op, gone, ents, bl, ad, na, ch, ba, cp, ga, gb, gc, dp, hR, hC, hW⟩ := hL
  obtain ⟨hNK, hP, hO, hX, hCT, hB⟩ := id hC
  have hhd : T.1 hand = 2 := hP.2.2.2.2.2.1.2
  have h00 : T.1 0 = 2 := hCT.2.2.2.1.2.1
  have hen := hW.ents_ h00
  first | refine V.aload_n dL_law_96 rfl ?_ | refine V.aload_nN dL_law_96 rfl ?_
  first | refine V.aload_n dL_law_97 rfl ?_ | refine V.aload_nN dL_law_97 rfl ?_
  refine V.iload_n dL_law_98 rfl ?_
  refine V.iconst (v := (nI 1)) dL_law_99 (by decide) ?_
  refine V.iaddN dL_law_100 ?_
  refine V.sld dL_law_101 hb0 (hin 1 (by omega)) rfl ?_
  refine V.i2l dL_law_102 rfl ?_
  refine V.bipush (v := (nI 32)) dL_law_103 (by decide) ?_
  refine V.lshl dL_law_105 rfl ?_
  first | refine V.aload_n dL_law_106 rfl ?_ | refine V.aload_nN dL_law_106 rfl ?_
  refine V.iload_n dL_law_107 rfl ?_
  refine V.iconst (v := (nI 2)) dL_law_108 (by decide) ?_
  refine V.iaddN dL_law_109 ?_
  refine V.sld dL_law_110 hb0 (hin 2 (by omega)) rfl ?_
  refine V.i2l dL_law_111 rfl ?_
  refine V.ldc2 dL_law_112 co_L_13 ?_
  refine V.land dL_law_115 ?_
  refine V.lor dL_law_116 ?_
  first | refine V.aload_n dL_law_117 rfl ?_ | refine V.aload_nN dL_law_117 rfl ?_
  refine V.iload_n dL_law_118 rfl ?_
  refine V.iconst (v := (nI 3)) dL_law_119 (by decide) ?_
  refine V.iaddN dL_law_120 ?_
  refine V.sld dL_law_121 hb0 (hin 3 (by omega)) rfl ?_
  refine V.callVk (kd := 0) 0 _ 0 _ [_, _] dL_law_122 okP_path n_L_15 hP.1 hP.2.1 rfl imP_path seP_path_P (by decide) (by decide) rfl rfl (Nat.le_of_ble_eq_true rfl) (Nat.le_of_ble_eq_true rfl) (Nat.le_of_eq (Nat.zero_add _)) (Nat.le_of_eq (Nat.zero_add _)) (k_path hC (fun hn1 => ?_) (fun m u1 u2 hp1 h1 hC1 hF1 => ?_))
  · have hR1 := hR
    first | refine V.aload_n dL_law_125 rfl ?_ | refine V.aload_nN dL_law_125 rfl ?_
    first | refine V.aload_n dL_law_126 rfl ?_ | refine V.aload_nN dL_law_126 rfl ?_
    refine V.iload_n dL_law_127 rfl ?_
    refine V.iconst (v := (nI 1)) dL_law_128 (by decide) ?_
    refine V.iaddN dL_law_129 ?_
    refine V.sld dL_law_130 hb0 (hin 1 (by omega)) rfl ?_
    refine V.i2l dL_law_131 rfl ?_
    refine V.bipush (v := (nI 32)) dL_law_132 (by decide) ?_
    refine V.lshl dL_law_134 rfl ?_
    first | refine V.aload_n dL_law_135 rfl ?_ | refine V.aload_nN dL_law_135 rfl ?_
    refine V.iload_n dL_law_136 rfl ?_
    refine V.iconst (v := (nI 2)) dL_law_137 (by decide) ?_
    refine V.iaddN dL_law_138 ?_
    refine V.sld dL_law_139 hb0 (hin 2 (by omega)) rfl ?_
    refine V.i2l dL_law_140 rfl ?_
    refine V.ldc2 dL_law_141 co_L_13 ?_
    refine V.land dL_law_144 ?_
    refine V.lor dL_law_145 ?_
    first | refine V.aload_n dL_law_146 rfl ?_ | refine V.aload_nN dL_law_146 rfl ?_
    refine V.iload_n dL_law_147 rfl ?_
    refine V.iconst (v := (nI 3)) dL_law_148 (by decide) ?_
    refine V.iaddN dL_law_149 ?_
    refine V.sld dL_law_150 hb0 (hin 3 (by omega)) rfl ?_
    refine V.callVk (kd := 4) 0 _ 0 _ [_, _] dL_law_151 okR_path n_L_19 ⟨hR1.1.1.1, by (have h9 := hR1.1.1.2; omega)⟩ hR1.1.2.1 rfl imR_path seR_path_R (by decide) (by decide) rfl rfl (Nat.le_of_ble_eq_true rfl) (Nat.le_of_ble_eq_true rfl) (Nat.le_of_eq (Nat.zero_add _)) (Nat.le_of_eq (Nat.zero_add _)) (kR_path hR1 (fun hn2 => ?_) (fun m2 v1 v2 hp2 h2 hR2 hF2 => ?_))
    · refine V.icmp_eq (tgt := 392) dL_law_154 (by decide) (fun c_154 => ?_) (fun c_154 => ?_)
      · skip
        exact V.re [3, 1, 2, 0] rfl (V.mono (K _ ⟨_, _, _, _, _, _, _, _, _, _, _, _, _, _, _, _, _, hR, hC, hW.up⟩) (by omega) (by omega))
      · skip
        exact absurd rfl c_154
    · exact absurd hp2 hn1
    skip
  · have hR1 := hR.cfr hF1
    first | refine V.aload_n dL_law_125 rfl ?_ | refine V.aload_nN dL_law_125 rfl ?_
    first | refine V.aload_n dL_law_126 rfl ?_ | refine V.aload_nN dL_law_126 rfl ?_
    refine V.iload_n dL_law_127 rfl ?_
    refine V.iconst (v := (nI 1)) dL_law_128 (by decide) ?_
    refine V.iaddN dL_law_129 ?_
    refine V.sld dL_law_130 hb0 (hin 1 (by omega)) rfl ?_
    refine V.i2l dL_law_131 rfl ?_
    refine V.bipush (v := (nI 32)) dL_law_132 (by decide) ?_
    refine V.lshl dL_law_134 rfl ?_
    first | refine V.aload_n dL_law_135 rfl ?_ | refine V.aload_nN dL_law_135 rfl ?_
    refine V.iload_n dL_law_136 rfl ?_
    refine V.iconst (v := (nI 2)) dL_law_137 (by decide) ?_
    refine V.iaddN dL_law_138 ?_
    refine V.sld dL_law_139 hb0 (hin 2 (by omega)) rfl ?_
    refine V.i2l dL_law_140 rfl ?_
    refine V.ldc2 dL_law_141 co_L_13 ?_
    refine V.land dL_law_144 ?_
    refine V.lor dL_law_145 ?_
    first | refine V.aload_n dL_law_146 rfl ?_ | refine V.aload_nN dL_law_146 rfl ?_
    refine V.iload_n dL_law_147 rfl ?_
    refine V.iconst (v := (nI 3)) dL_law_148 (by decide) ?_
    refine V.iaddN dL_law_149 ?_
    refine V.sld dL_law_150 hb0 (hin 3 (by omega)) rfl ?_
    refine V.callVk (kd := 4) 0 _ 0 _ [_, _] dL_law_151 okR_path n_L_19 ⟨hR1.1.1.1, by (have h9 := hR1.1.1.2; omega)⟩ hR1.1.2.1 rfl imR_path seR_path_R (by decide) (by decide) rfl rfl (Nat.le_of_ble_eq_true rfl) (Nat.le_of_ble_eq_true rfl) (Nat.le_of_eq (Nat.zero_add _)) (Nat.le_of_eq (Nat.zero_add _)) (kR_path hR1 (fun hn2 => ?_) (fun m2 v1 v2 hp2 h2 hR2 hF2 => ?_))
    · exact absurd hp1 hn2
    · have e9 : m2 = m := nI_inj (by omega) (by omega) (v1.symm.trans u1)
      subst e9
      refine V.icmp_eq (tgt := 392) dL_law_154 (by decide) (fun c_154 => ?_) (fun c_154 => ?_)
      · skip
        exact V.re [3, 1, 2, 0] rfl (V.mono (K _ ⟨_, _, _, _, _, _, _, _, _, _, _, _, _, _, _, _, _, hR2, hC1.fro hF2, hW.up⟩) (by omega) (by omega))
      · skip
        exact absurd rfl c_154
    skip
  skip
set_option maxHeartbeats 4000000 in
set_option maxRecDepth 100000 in
/-- a call of write -/
theorem kl_write {G : GG} {h : HH} {x o k c s : Nat} {Q : Option Value → HH → Prop} (hL : LI G h x o k) (hb0 : g_b G < g_0 G) (hin : ∀ d, d < 4 → vp_in (nI (4 * k + d)) (g_L G)) (hk : k < 512) (K : ∀ h', LI G h' x o (k + 1) → V G mL_law 392 [(3, .int (nI (4 * k))), (1, .ref x), (2, .ref o), (0, .ref (g_b G))] [] h' c s Q) : V G mL_law 224 [(3, .int (nI (4 * k))), (1, .ref x), (2, .ref o), (0, .ref (g_b G))] [] h (c + 3) (s + 8192) Q := by
  obtain ⟨T, p, len, hand, op, gone, ents, bl, ad, na, ch, ba, cp, ga, gb, gc, dp, hR, hC, hW⟩ := hL
  obtain ⟨hNK, hP, hO, hX, hCT, hB⟩ := id hC
  have hhd : T.1 hand = 2 := hP.2.2.2.2.2.1.2
  have h00 : T.1 0 = 2 := hCT.2.2.2.1.2.1
  have hen := hW.ents_ h00
  first | refine V.aload_n dL_law_224 rfl ?_ | refine V.aload_nN dL_law_224 rfl ?_
  first | refine V.aload_n dL_law_225 rfl ?_ | refine V.aload_nN dL_law_225 rfl ?_
  refine V.iload_n dL_law_226 rfl ?_
  refine V.iconst (v := (nI 1)) dL_law_227 (by decide) ?_
  refine V.iaddN dL_law_228 ?_
  refine V.sld dL_law_229 hb0 (hin 1 (by omega)) rfl ?_
  refine V.i2l dL_law_230 rfl ?_
  refine V.bipush (v := (nI 32)) dL_law_231 (by decide) ?_
  refine V.lshl dL_law_233 rfl ?_
  first | refine V.aload_n dL_law_234 rfl ?_ | refine V.aload_nN dL_law_234 rfl ?_
  refine V.iload_n dL_law_235 rfl ?_
  refine V.iconst (v := (nI 2)) dL_law_236 (by decide) ?_
  refine V.iaddN dL_law_237 ?_
  refine V.sld dL_law_238 hb0 (hin 2 (by omega)) rfl ?_
  refine V.i2l dL_law_239 rfl ?_
  refine V.ldc2 dL_law_240 co_L_13 ?_
  refine V.land dL_law_243 ?_
  refine V.lor dL_law_244 ?_
  first | refine V.aload_n dL_law_245 rfl ?_ | refine V.aload_nN dL_law_245 rfl ?_
  refine V.iload_n dL_law_246 rfl ?_
  refine V.iconst (v := (nI 3)) dL_law_247 (by decide) ?_
  refine V.iaddN dL_law_248 ?_
  refine V.sld dL_law_249 hb0 (hin 3 (by omega)) rfl ?_
  refine V.callVk (kd := 0) 1 c 8192 s [_, _] dL_law_250 okP_write n_L_42 hP.1 hP.2.1 rfl imP_write seP_write_P (by decide) (by decide) rfl rfl (Nat.le_of_ble_eq_true rfl) (Nat.le_of_ble_eq_true rfl) (by omega) (by omega) (k_write hC (by (have h9 := hW.2.2.2; omega)) (fun hn1 => ?_) (fun e m u1 u2 u3 u4 => ?_) (fun e m u1 u2 u3 u4 h1 ba1 cp1 hC1 hF1 => ?_))
  · have hR1 := hR
    first | refine V.aload_n dL_law_253 rfl ?_ | refine V.aload_nN dL_law_253 rfl ?_
    first | refine V.aload_n dL_law_254 rfl ?_ | refine V.aload_nN dL_law_254 rfl ?_
    refine V.iload_n dL_law_255 rfl ?_
    refine V.iconst (v := (nI 1)) dL_law_256 (by decide) ?_
    refine V.iaddN dL_law_257 ?_
    refine V.sld dL_law_258 hb0 (hin 1 (by omega)) rfl ?_
    refine V.i2l dL_law_259 rfl ?_
    refine V.bipush (v := (nI 32)) dL_law_260 (by decide) ?_
    refine V.lshl dL_law_262 rfl ?_
    first | refine V.aload_n dL_law_263 rfl ?_ | refine V.aload_nN dL_law_263 rfl ?_
    refine V.iload_n dL_law_264 rfl ?_
    refine V.iconst (v := (nI 2)) dL_law_265 (by decide) ?_
    refine V.iaddN dL_law_266 ?_
    refine V.sld dL_law_267 hb0 (hin 2 (by omega)) rfl ?_
    refine V.i2l dL_law_268 rfl ?_
    refine V.ldc2 dL_law_269 co_L_13 ?_
    refine V.land dL_law_272 ?_
    refine V.lor dL_law_273 ?_
    first | refine V.aload_n dL_law_274 rfl ?_ | refine V.aload_nN dL_law_274 rfl ?_
    refine V.iload_n dL_law_275 rfl ?_
    refine V.iconst (v := (nI 3)) dL_law_276 (by decide) ?_
    refine V.iaddN dL_law_277 ?_
    refine V.sld dL_law_278 hb0 (hin 3 (by omega)) rfl ?_
    refine V.callVk (kd := 4) 0 _ 0 _ [_, _] dL_law_279 okR_write n_L_45 ⟨hR1.1.1.1, by (have h9 := hR1.1.1.2; omega)⟩ hR1.1.2.1 rfl imR_write seR_write_R (by decide) (by decide) rfl rfl (Nat.le_of_ble_eq_true rfl) (Nat.le_of_ble_eq_true rfl) (Nat.le_of_eq (Nat.zero_add _)) (Nat.le_of_eq (Nat.zero_add _)) (kR_write hR1 (by (have h9 := hW.2.2.2; omega)) (fun hn2 => ?_) (fun e2 m2 v1 v2 v3 v4 => ?_) (fun e2 m2 v1 v2 v3 v4 h2 hR2 hF2 => ?_))
    · refine V.icmp_eq (tgt := 392) dL_law_282 (by decide) (fun c_282 => ?_) (fun c_282 => ?_)
      · skip
        exact V.re [3, 1, 2, 0] rfl (V.mono (K _ ⟨_, _, _, _, _, _, _, _, _, _, _, _, _, _, _, _, _, hR, hC, hW.up⟩) (by omega) (by omega))
      · skip
        exact absurd rfl c_282
    · exfalso
      rcases hn1 with z | z
      · rw [z] at v1; cases v1
      · exact z ⟨_, v3, v4⟩
    · exfalso
      rcases hn1 with z | z
      · rw [z] at v1; cases v1
      · exact z ⟨_, v3, v4⟩
    skip
  · have hR1 := hR
    first | refine V.aload_n dL_law_253 rfl ?_ | refine V.aload_nN dL_law_253 rfl ?_
    first | refine V.aload_n dL_law_254 rfl ?_ | refine V.aload_nN dL_law_254 rfl ?_
    refine V.iload_n dL_law_255 rfl ?_
    refine V.iconst (v := (nI 1)) dL_law_256 (by decide) ?_
    refine V.iaddN dL_law_257 ?_
    refine V.sld dL_law_258 hb0 (hin 1 (by omega)) rfl ?_
    refine V.i2l dL_law_259 rfl ?_
    refine V.bipush (v := (nI 32)) dL_law_260 (by decide) ?_
    refine V.lshl dL_law_262 rfl ?_
    first | refine V.aload_n dL_law_263 rfl ?_ | refine V.aload_nN dL_law_263 rfl ?_
    refine V.iload_n dL_law_264 rfl ?_
    refine V.iconst (v := (nI 2)) dL_law_265 (by decide) ?_
    refine V.iaddN dL_law_266 ?_
    refine V.sld dL_law_267 hb0 (hin 2 (by omega)) rfl ?_
    refine V.i2l dL_law_268 rfl ?_
    refine V.ldc2 dL_law_269 co_L_13 ?_
    refine V.land dL_law_272 ?_
    refine V.lor dL_law_273 ?_
    first | refine V.aload_n dL_law_274 rfl ?_ | refine V.aload_nN dL_law_274 rfl ?_
    refine V.iload_n dL_law_275 rfl ?_
    refine V.iconst (v := (nI 3)) dL_law_276 (by decide) ?_
    refine V.iaddN dL_law_277 ?_
    refine V.sld dL_law_278 hb0 (hin 3 (by omega)) rfl ?_
    refine V.callVk (kd := 4) 0 _ 0 _ [_, _] dL_law_279 okR_write n_L_45 ⟨hR1.1.1.1, by (have h9 := hR1.1.1.2; omega)⟩ hR1.1.2.1 rfl imR_write seR_write_R (by decide) (by decide) rfl rfl (Nat.le_of_ble_eq_true rfl) (Nat.le_of_ble_eq_true rfl) (Nat.le_of_eq (Nat.zero_add _)) (Nat.le_of_eq (Nat.zero_add _)) (kR_write hR1 (by (have h9 := hW.2.2.2; omega)) (fun hn2 => ?_) (fun e2 m2 v1 v2 v3 v4 => ?_) (fun e2 m2 v1 v2 v3 v4 h2 hR2 hF2 => ?_))
    · exfalso
      rcases hn2 with z | z
      · rw [z] at u1; cases u1
      · exact z ⟨_, u3, u4⟩
    · refine V.icmp_eq (tgt := 392) dL_law_282 (by decide) (fun c_282 => ?_) (fun c_282 => ?_)
      · skip
        exact V.re [3, 1, 2, 0] rfl (V.mono (K _ ⟨_, _, _, _, _, _, _, _, _, _, _, _, _, _, _, _, _, hR, hC, hW.up⟩) (by omega) (by omega))
      · skip
        exact absurd rfl c_282
    · rw [u2] at v2; cases v2
    skip
  · have hR1 := hR.cfr hF1
    first | refine V.aload_n dL_law_253 rfl ?_ | refine V.aload_nN dL_law_253 rfl ?_
    first | refine V.aload_n dL_law_254 rfl ?_ | refine V.aload_nN dL_law_254 rfl ?_
    refine V.iload_n dL_law_255 rfl ?_
    refine V.iconst (v := (nI 1)) dL_law_256 (by decide) ?_
    refine V.iaddN dL_law_257 ?_
    refine V.sld dL_law_258 hb0 (hin 1 (by omega)) rfl ?_
    refine V.i2l dL_law_259 rfl ?_
    refine V.bipush (v := (nI 32)) dL_law_260 (by decide) ?_
    refine V.lshl dL_law_262 rfl ?_
    first | refine V.aload_n dL_law_263 rfl ?_ | refine V.aload_nN dL_law_263 rfl ?_
    refine V.iload_n dL_law_264 rfl ?_
    refine V.iconst (v := (nI 2)) dL_law_265 (by decide) ?_
    refine V.iaddN dL_law_266 ?_
    refine V.sld dL_law_267 hb0 (hin 2 (by omega)) rfl ?_
    refine V.i2l dL_law_268 rfl ?_
    refine V.ldc2 dL_law_269 co_L_13 ?_
    refine V.land dL_law_272 ?_
    refine V.lor dL_law_273 ?_
    first | refine V.aload_n dL_law_274 rfl ?_ | refine V.aload_nN dL_law_274 rfl ?_
    refine V.iload_n dL_law_275 rfl ?_
    refine V.iconst (v := (nI 3)) dL_law_276 (by decide) ?_
    refine V.iaddN dL_law_277 ?_
    refine V.sld dL_law_278 hb0 (hin 3 (by omega)) rfl ?_
    refine V.callVk (kd := 4) 0 _ 0 _ [_, _] dL_law_279 okR_write n_L_45 ⟨hR1.1.1.1, by (have h9 := hR1.1.1.2; omega)⟩ hR1.1.2.1 rfl imR_write seR_write_R (by decide) (by decide) rfl rfl (Nat.le_of_ble_eq_true rfl) (Nat.le_of_ble_eq_true rfl) (Nat.le_of_eq (Nat.zero_add _)) (Nat.le_of_eq (Nat.zero_add _)) (kR_write hR1 (by (have h9 := hW.2.2.2; omega)) (fun hn2 => ?_) (fun e2 m2 v1 v2 v3 v4 => ?_) (fun e2 m2 v1 v2 v3 v4 h2 hR2 hF2 => ?_))
    · exfalso
      rcases hn2 with z | z
      · rw [z] at u1; cases u1
      · exact z ⟨_, u3, u4⟩
    · rw [u2] at v2; cases v2
    · have e9 : e2 = e := Option.some.inj (v1.symm.trans u1)
      have e8 : m2 = m := nI_inj (by omega) (by omega) (v3.symm.trans u3)
      subst e9 e8
      refine V.icmp_eq (tgt := 392) dL_law_282 (by decide) (fun c_282 => ?_) (fun c_282 => ?_)
      · skip
        exact V.re [3, 1, 2, 0] rfl (V.mono (K _ ⟨_, _, _, _, _, _, _, _, _, _, _, _, _, _, _, _, _, hR2, hC1.fro hF2, hW.bs (hO.2.1 e2 v1 v2).2 v4⟩) (by omega) (by omega))
      · skip
        exact absurd rfl c_282
    skip
  skip
