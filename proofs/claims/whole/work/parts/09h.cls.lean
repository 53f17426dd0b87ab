set_option maxHeartbeats 4000000 in
set_option maxRecDepth 100000 in
/-- PathTree.write -/
theorem k_write {G : GG} {h : HH} {x o : Nat} {T : TT} {p : Nat → Nat} {len hand : Nat} {op : Option Nat} {gone : Bool} {bl : List (Nat × Nat)} {ad na : Nat → Nat} {ch : Nat → List Nat} {ba cp : Nat → Nat} {ga gb gc : Nat} {Q : Option Value → HH → Prop} {c : Int64} {n : Int32} (hI : CI G h x o T p len hand op gone bl ad na ch ba cp ga gb gc) (hbl : bl.length ≤ 4088) (q0 : op = none ∨ (¬ ∃ m, n = nI m ∧ m ≤ 8) → Q (some (.int (-1))) h) (q1 : ∀ e m, op = some e → gone = true → n = nI m → m ≤ 8 → Q (some (.int (nI 0))) h) (q2 : ∀ e m, op = some e → gone = false → n = nI m → m ≤ 8 → ∀ h' ba' cp', CI G h' x o T p len hand op gone (bl ++ s_bs c e m) ad na ch ba' cp' ga gb gc → CFr o h h' → Q (some (.int (nI (s_fb (bl ++ s_bs c e m) e).length))) h') : V G mP_write 0 (lv_args 0 [.ref x, .long c, .int n]) [] h 1 8192 Q := by
  obtain ⟨hNK, hP, hO, hX, hC, hB⟩ := id hI
  obtain ⟨ht, htk, hca, hln, hcs, hck, hch, hl2, hp⟩ := id hX
  obtain ⟨a1, a2, a3, a4, a5, a6, a7, a8, a9⟩ := id hP
  cases op with
  | none =>
    have h3 : h.2.1 x 3 = .null := hO.1
    first | refine V.aload_n dP_write_0 rfl ?_ | refine V.aload_nN dP_write_0 rfl ?_
    refine V.getk dP_write_1 a1 a2 f_P_28_0 h3 ?_
    refine V.ifnullN (tgt := 14) dP_write_4 (by decide) ?_
    refine V.iconst (v := (-1)) dP_write_14 (by decide) ?_
    refine V.ireturn dP_write_15 rfl rfl ?_
    exact q0 (Or.inl rfl)
  | some e =>
    cases gone with
    | true =>
      have h3 : h.2.1 x 3 = .ref ga := hO.1
      obtain ⟨hg, hn1, -⟩ := hO.2.2 e rfl rfl
      first | refine V.aload_n dP_write_0 rfl ?_ | refine V.aload_nN dP_write_0 rfl ?_
      refine V.getk dP_write_1 a1 a2 f_P_28_0 h3 ?_
      refine V.ifnull dP_write_4 ?_
      refine V.iload_n dP_write_7 rfl ?_
      refine V.callS 0 _ 0 _ [_] dP_write_8 okP_isByteCount n_P_42 stP_isByteCount (by decide) (by decide) rfl rfl (Nat.le_of_ble_eq_true rfl) (Nat.le_of_ble_eq_true rfl) (Nat.le_of_eq (Nat.zero_add _)) (Nat.le_of_eq (Nat.zero_add _)) (k_isByteCount (fun b hb => ?_))
      cases b with
      | false =>
        refine V.if_ne (tgt := 16) dP_write_11 (by decide) (fun c_11 => ?_) (fun c_11 => ?_)
        · skip
          exact absurd (by decide) c_11
        · skip
          refine V.iconst (v := (-1)) dP_write_14 (by decide) ?_
          refine V.ireturn dP_write_15 rfl rfl ?_
          exact q0 (Or.inr (fun z => by (have h9 := hb.mpr z; cases h9)))
      | true =>
        obtain ⟨m, rfl, hm⟩ := hb.mp rfl
        refine V.if_ne (tgt := 16) dP_write_11 (by decide) (fun c_11 => ?_) (fun c_11 => ?_)
        · skip
          first | refine V.aload_n dP_write_16 rfl ?_ | refine V.aload_nN dP_write_16 rfl ?_
          refine V.getk dP_write_17 a1 a2 f_P_28_0 h3 ?_
          refine V.getk dP_write_20 hg.1 hg.2.1 f_P_87_3 hn1 ?_
          refine V.ifnullN (tgt := 92) dP_write_23 (by decide) ?_
          first | refine V.aload_n dP_write_92 rfl ?_ | refine V.aload_nN dP_write_92 rfl ?_
          refine V.getk dP_write_93 a1 a2 f_P_28_0 h3 ?_
          refine V.getk dP_write_96 hg.1 hg.2.1 f_P_82_3 hg.2.2.2.1 ?_
          refine V.ireturn dP_write_99 rfl rfl ?_
          exact q1 e m rfl rfl rfl hm
        · skip
          exact absurd c_11 (by decide)
      skip
    | false =>
      have h3 : h.2.1 x 3 = .ref (ad e) := hO.1
      obtain ⟨he, h1⟩ := hO.2.1 e rfl rfl
      have hg := (hB.1 e he h1).1
      have hgl := fb_le bl e
      have hn1 := (hC.2.2.1 e he (by omega) (fun z => by (have h9 := hC.2.2.2.1.2.1; rw [z] at h1; omega))).1
      first | refine V.aload_n dP_write_0 rfl ?_ | refine V.aload_nN dP_write_0 rfl ?_
      refine V.getk dP_write_1 a1 a2 f_P_28_0 h3 ?_
      refine V.ifnull dP_write_4 ?_
      refine V.iload_n dP_write_7 rfl ?_
      refine V.callS 0 _ 0 _ [_] dP_write_8 okP_isByteCount n_P_42 stP_isByteCount (by decide) (by decide) rfl rfl (Nat.le_of_ble_eq_true rfl) (Nat.le_of_ble_eq_true rfl) (Nat.le_of_eq (Nat.zero_add _)) (Nat.le_of_eq (Nat.zero_add _)) (k_isByteCount (fun b hb => ?_))
      cases b with
      | false =>
        refine V.if_ne (tgt := 16) dP_write_11 (by decide) (fun c_11 => ?_) (fun c_11 => ?_)
        · skip
          exact absurd (by decide) c_11
        · skip
          refine V.iconst (v := (-1)) dP_write_14 (by decide) ?_
          refine V.ireturn dP_write_15 rfl rfl ?_
          exact q0 (Or.inr (fun z => by (have h9 := hb.mpr z; cases h9)))
      | true =>
        obtain ⟨m, rfl, hm⟩ := hb.mp rfl
        have loopB : ∀ q y blq hq ba cp, y + q = m → (s_fb blq e).length + q ≤ cp e → blq ++ s_bs c e q = bl ++ s_bs c e m → CI G hq x o T p len hand (some e) false blq ad na ch ba cp ga gb gc → CFr o h hq → V G mP_write 52 [(5, .int (nI y)), (4, .int (nI m)), (0, .ref x), (1, .long c), (3, .int (nI m))] [] hq 0 0 Q := by
          intro q
          induction q with
          | zero =>
            intro y blq hq ba cp hy hcap hap hIq hFq
            obtain ⟨hNKq, hPq, hOq, hXq, hCq, hBq⟩ := id hIq
            obtain ⟨c1, c2, c3, c4, c5, c6, c7, c8, c9⟩ := id hPq
            have d3 : hq.2.1 x 3 = .ref (ad e) := hOq.1
            have hf := (hBq.1 e he h1).1
            have hfl := fb_le blq e
            have hc16 := hf.2.2.2.2.2.2.1
            refine V.iload dP_write_52 rfl ?_
            refine V.iload dP_write_54 rfl ?_
            refine V.icmp_ge (tgt := 92) dP_write_56 (by decide) (fun c_56 => ?_) (fun c_56 => ?_)
            · try simp (disch := omega) only [nI_ltI, nI_leI, nI_eq, zz_lt0, zz_ge0, zz_gt0, zz_le0, zz_eq0, zz_m1lt, zz_m1ge, zz_m1eq, bI_eq0, decide_eq_false_iff_not, decide_eq_true_eq, Decidable.not_not, not_true_eq_false, not_false_eq_true, Nat.not_lt, Nat.not_le, Bool.not_eq_false, Bool.not_eq_true] at c_56
              first | refine V.aload_n dP_write_92 rfl ?_ | refine V.aload_nN dP_write_92 rfl ?_
              refine V.getk dP_write_93 c1 c2 f_P_28_0 d3 ?_
              refine V.getk dP_write_96 hf.1 hf.2.1 f_P_82_3 hf.2.2.2.1 ?_
              refine V.ireturn dP_write_99 rfl rfl ?_
              have e9 : blq = bl ++ s_bs c e m := by (rw [← hap]; simp [s_bs])
              rw [e9] at hIq ⊢
              exact q2 e m rfl rfl rfl hm hq _ _ hIq hFq
            · try simp (disch := omega) only [nI_ltI, nI_leI, nI_eq, zz_lt0, zz_ge0, zz_gt0, zz_le0, zz_eq0, zz_m1lt, zz_m1ge, zz_m1eq, bI_eq0, decide_eq_false_iff_not, decide_eq_true_eq, Decidable.not_not, not_true_eq_false, not_false_eq_true, Nat.not_lt, Nat.not_le, Bool.not_eq_false, Bool.not_eq_true] at c_56
              all_goals omega
          | succ q ih =>
            intro y blq hq ba cp hy hcap hap hIq hFq
            obtain ⟨hNKq, hPq, hOq, hXq, hCq, hBq⟩ := id hIq
            obtain ⟨c1, c2, c3, c4, c5, c6, c7, c8, c9⟩ := id hPq
            have d3 : hq.2.1 x 3 = .ref (ad e) := hOq.1
            have hf := (hBq.1 e he h1).1
            have hfl := fb_le blq e
            have hc16 := hf.2.2.2.2.2.2.1
            have hlen : blq.length + (q + 1) = bl.length + m := by (have h9 := congrArg List.length hap; rw [List.length_append, List.length_append, s_bs_len, s_bs_len] at h9; exact h9)
            refine V.iload dP_write_52 rfl ?_
            refine V.iload dP_write_54 rfl ?_
            refine V.icmp_ge (tgt := 92) dP_write_56 (by decide) (fun c_56 => ?_) (fun c_56 => ?_)
            · try simp (disch := omega) only [nI_ltI, nI_leI, nI_eq, zz_lt0, zz_ge0, zz_gt0, zz_le0, zz_eq0, zz_m1lt, zz_m1ge, zz_m1eq, bI_eq0, decide_eq_false_iff_not, decide_eq_true_eq, Decidable.not_not, not_true_eq_false, not_false_eq_true, Nat.not_lt, Nat.not_le, Bool.not_eq_false, Bool.not_eq_true] at c_56
              all_goals omega
            · try simp (disch := omega) only [nI_ltI, nI_leI, nI_eq, zz_lt0, zz_ge0, zz_gt0, zz_le0, zz_eq0, zz_m1lt, zz_m1ge, zz_m1eq, bI_eq0, decide_eq_false_iff_not, decide_eq_true_eq, Decidable.not_not, not_true_eq_false, not_false_eq_true, Nat.not_lt, Nat.not_le, Bool.not_eq_false, Bool.not_eq_true] at c_56
              first | refine V.aload_n dP_write_59 rfl ?_ | refine V.aload_nN dP_write_59 rfl ?_
              refine V.getk dP_write_60 c1 c2 f_P_28_0 d3 ?_
              refine V.lload_n dP_write_63 rfl ?_
              refine V.iload_n dP_write_64 rfl ?_
              refine V.iconst (v := (nI 1)) dP_write_65 (by decide) ?_
              refine V.isubN dP_write_66 (by omega) ?_
              refine V.iload dP_write_67 rfl ?_
              refine V.isubN dP_write_69 (by omega) ?_
              rw [show m - 1 - y = q by omega]
              refine V.callS 0 _ 0 _ [_, _] dP_write_70 okP_byteOf n_P_101 stP_byteOf (by decide) (by decide) rfl rfl (Nat.le_of_ble_eq_true rfl) (Nat.le_of_ble_eq_true rfl) (Nat.le_of_eq (Nat.zero_add _)) (Nat.le_of_eq (Nat.zero_add _)) (k_byteOf (k := q) (by omega) ?_)
              refine V.callVk (kd := 3) 0 _ 0 _ [_] dP_write_73 okF_append n_P_105 hf.1 hf.2.1 rfl imF_append seF_append_F (by decide) (by decide) rfl rfl (Nat.le_of_ble_eq_true rfl) (Nat.le_of_ble_eq_true rfl) (Nat.le_of_eq (Nat.zero_add _)) (Nat.le_of_eq (Nat.zero_add _)) (k_fapp0 hf (by omega) (by omega) (s_byt_lt c q) (fun h2 e2 => ?_))
              have hFk : FK (fun w j => (w = ad e ∧ (j = 3 ∨ j = 4)) ∨ w = ba e) hq h2 := (by rw [e2]; exact FK.of rfl rfl (fun w j hn => by rw [hp_ne (fun z => hn (Or.inl ⟨z.1, Or.inr z.2⟩)), hp_a (fun z => hn (Or.inr z))]))
              have hx2 : g_0 G ≤ x ∧ x < h2.2.2 := ⟨c1.1, Nat.lt_of_lt_of_le c1.2 hFk.1⟩
              have hk2 : (h2.1 x).1 = 0 := by (rw [hFk.2.1 x c1.2]; exact c2)
              have hxs : ∀ j, ¬ ((x = ad e ∧ (j = 3 ∨ j = 4)) ∨ x = ba e) := fun j z => by
                rcases z with z | z
                · have h9 := hf.2.1; rw [← z.1, c2] at h9; omega
                · have h9 := hf.2.2.2.2.2.1; rw [← z] at h9; rw [h9] at c2; exact absurd c2 (by show ¬ (102 = 0); decide)
              have h26 : h2.2.1 x 6 = .int (nI blq.length) := (hFk.2.2 x 6 c1.2 (hxs 6)).trans c9
              first | refine V.aload_n dP_write_76 rfl ?_ | refine V.aload_nN dP_write_76 rfl ?_
              refine V.dup dP_write_77 rfl ?_
              refine V.getk dP_write_78 hx2 hk2 f_P_39_0 h26 ?_
              refine V.iconst (v := (nI 1)) dP_write_81 (by decide) ?_
              refine V.iaddN dP_write_82 ?_
              refine V.putk dP_write_83 hx2 hk2 p_P_39_0 rfl rfl ?_
              intro h83 e83
              obtain ⟨hI83, hF83⟩ := hIq.push he h1 hFk (by rw [e2]; exact hf.push (by omega) (s_byt_lt c q)) (Or.inl rfl)
              rw [← e83] at hI83 hF83
              refine V.iincN dP_write_86 rfl (by decide) ?_
              refine V.goto (tgt := 52) dP_write_89 (by decide) ?_
              exact V.re [5, 4, 0, 1, 3] rfl (ih (y + 1) (blq ++ [(s_byt c q, e)]) h83 _ _ (by omega) (by rw [fu_s, fb_app, if_pos rfl, List.length_append, List.length_singleton]; omega) (by rw [List.append_assoc]; exact hap) hI83 (hFq.tr hF83))
        have loopA : ∀ q y blq hq ba cp, y + q = m → blq ++ s_bs c e q = bl ++ s_bs c e m → CI G hq x o T p len hand (some e) false blq ad na ch ba cp ga gb gc → CFr o h hq → V G mP_write 52 [(5, .int (nI y)), (4, .int (nI m)), (0, .ref x), (1, .long c), (3, .int (nI m))] [] hq 1 8192 Q := by
          intro q
          induction q with
          | zero =>
            intro y blq hq ba cp hy hap hIq hFq
            obtain ⟨hNKq, hPq, hOq, hXq, hCq, hBq⟩ := id hIq
            obtain ⟨c1, c2, c3, c4, c5, c6, c7, c8, c9⟩ := id hPq
            have d3 : hq.2.1 x 3 = .ref (ad e) := hOq.1
            have hf := (hBq.1 e he h1).1
            have hfl := fb_le blq e
            have hc16 := hf.2.2.2.2.2.2.1
            refine V.iload dP_write_52 rfl ?_
            refine V.iload dP_write_54 rfl ?_
            refine V.icmp_ge (tgt := 92) dP_write_56 (by decide) (fun c_56 => ?_) (fun c_56 => ?_)
            · try simp (disch := omega) only [nI_ltI, nI_leI, nI_eq, zz_lt0, zz_ge0, zz_gt0, zz_le0, zz_eq0, zz_m1lt, zz_m1ge, zz_m1eq, bI_eq0, decide_eq_false_iff_not, decide_eq_true_eq, Decidable.not_not, not_true_eq_false, not_false_eq_true, Nat.not_lt, Nat.not_le, Bool.not_eq_false, Bool.not_eq_true] at c_56
              first | refine V.aload_n dP_write_92 rfl ?_ | refine V.aload_nN dP_write_92 rfl ?_
              refine V.getk dP_write_93 c1 c2 f_P_28_0 d3 ?_
              refine V.getk dP_write_96 hf.1 hf.2.1 f_P_82_3 hf.2.2.2.1 ?_
              refine V.ireturn dP_write_99 rfl rfl ?_
              have e9 : blq = bl ++ s_bs c e m := by (rw [← hap]; simp [s_bs])
              rw [e9] at hIq ⊢
              exact q2 e m rfl rfl rfl hm hq _ _ hIq hFq
            · try simp (disch := omega) only [nI_ltI, nI_leI, nI_eq, zz_lt0, zz_ge0, zz_gt0, zz_le0, zz_eq0, zz_m1lt, zz_m1ge, zz_m1eq, bI_eq0, decide_eq_false_iff_not, decide_eq_true_eq, Decidable.not_not, not_true_eq_false, not_false_eq_true, Nat.not_lt, Nat.not_le, Bool.not_eq_false, Bool.not_eq_true] at c_56
              all_goals omega
          | succ q ih =>
            intro y blq hq ba cp hy hap hIq hFq
            obtain ⟨hNKq, hPq, hOq, hXq, hCq, hBq⟩ := id hIq
            obtain ⟨c1, c2, c3, c4, c5, c6, c7, c8, c9⟩ := id hPq
            have d3 : hq.2.1 x 3 = .ref (ad e) := hOq.1
            have hf := (hBq.1 e he h1).1
            have hfl := fb_le blq e
            have hc16 := hf.2.2.2.2.2.2.1
            have hlen : blq.length + (q + 1) = bl.length + m := by (have h9 := congrArg List.length hap; rw [List.length_append, List.length_append, s_bs_len, s_bs_len] at h9; exact h9)
            by_cases hcap : (s_fb blq e).length = cp e
            · refine V.iload dP_write_52 rfl ?_
              refine V.iload dP_write_54 rfl ?_
              refine V.icmp_ge (tgt := 92) dP_write_56 (by decide) (fun c_56 => ?_) (fun c_56 => ?_)
              · try simp (disch := omega) only [nI_ltI, nI_leI, nI_eq, zz_lt0, zz_ge0, zz_gt0, zz_le0, zz_eq0, zz_m1lt, zz_m1ge, zz_m1eq, bI_eq0, decide_eq_false_iff_not, decide_eq_true_eq, Decidable.not_not, not_true_eq_false, not_false_eq_true, Nat.not_lt, Nat.not_le, Bool.not_eq_false, Bool.not_eq_true] at c_56
                all_goals omega
              · try simp (disch := omega) only [nI_ltI, nI_leI, nI_eq, zz_lt0, zz_ge0, zz_gt0, zz_le0, zz_eq0, zz_m1lt, zz_m1ge, zz_m1eq, bI_eq0, decide_eq_false_iff_not, decide_eq_true_eq, Decidable.not_not, not_true_eq_false, not_false_eq_true, Nat.not_lt, Nat.not_le, Bool.not_eq_false, Bool.not_eq_true] at c_56
                first | refine V.aload_n dP_write_59 rfl ?_ | refine V.aload_nN dP_write_59 rfl ?_
                refine V.getk dP_write_60 c1 c2 f_P_28_0 d3 ?_
                refine V.lload_n dP_write_63 rfl ?_
                refine V.iload_n dP_write_64 rfl ?_
                refine V.iconst (v := (nI 1)) dP_write_65 (by decide) ?_
                refine V.isubN dP_write_66 (by omega) ?_
                refine V.iload dP_write_67 rfl ?_
                refine V.isubN dP_write_69 (by omega) ?_
                rw [show m - 1 - y = q by omega]
                refine V.callS 0 _ 0 _ [_, _] dP_write_70 okP_byteOf n_P_101 stP_byteOf (by decide) (by decide) rfl rfl (Nat.le_of_ble_eq_true rfl) (Nat.le_of_ble_eq_true rfl) (Nat.le_of_eq (Nat.zero_add _)) (Nat.le_of_eq (Nat.zero_add _)) (k_byteOf (k := q) (by omega) ?_)
                refine V.callVk (kd := 3) 1 0 8192 0 [_] dP_write_73 okF_append n_P_105 hf.1 hf.2.1 rfl imF_append seF_append_F (by decide) (by decide) rfl rfl (Nat.le_of_ble_eq_true rfl) (Nat.le_of_ble_eq_true rfl) (by omega) (by omega) (k_fapp1 hf hcap (by omega) (s_byt_lt c q) (fun h2 hB2 z2 k2 f2 => ?_))
                have hFk : FK (fun w j => (w = ad e ∧ (j = 3 ∨ j = 4)) ∨ w = ba e) hq h2 := ⟨by rw [z2]; exact Nat.le_succ _, k2, fun w j hw hn => f2 w j hw (fun z => hn (Or.inl z))⟩
                have hx2 : g_0 G ≤ x ∧ x < h2.2.2 := ⟨c1.1, Nat.lt_of_lt_of_le c1.2 hFk.1⟩
                have hk2 : (h2.1 x).1 = 0 := by (rw [hFk.2.1 x c1.2]; exact c2)
                have hxs : ∀ j, ¬ ((x = ad e ∧ (j = 3 ∨ j = 4)) ∨ x = ba e) := fun j z => by
                  rcases z with z | z
                  · have h9 := hf.2.1; rw [← z.1, c2] at h9; omega
                  · have h9 := hf.2.2.2.2.2.1; rw [← z] at h9; rw [h9] at c2; exact absurd c2 (by show ¬ (102 = 0); decide)
                have h26 : h2.2.1 x 6 = .int (nI blq.length) := (hFk.2.2 x 6 c1.2 (hxs 6)).trans c9
                first | refine V.aload_n dP_write_76 rfl ?_ | refine V.aload_nN dP_write_76 rfl ?_
                refine V.dup dP_write_77 rfl ?_
                refine V.getk dP_write_78 hx2 hk2 f_P_39_0 h26 ?_
                refine V.iconst (v := (nI 1)) dP_write_81 (by decide) ?_
                refine V.iaddN dP_write_82 ?_
                refine V.putk dP_write_83 hx2 hk2 p_P_39_0 rfl rfl ?_
                intro h83 e83
                obtain ⟨hI83, hF83⟩ := hIq.push he h1 hFk hB2 (Or.inr (Nat.le_refl _))
                rw [← e83] at hI83 hF83
                refine V.iincN dP_write_86 rfl (by decide) ?_
                refine V.goto (tgt := 52) dP_write_89 (by decide) ?_
                exact V.re [5, 4, 0, 1, 3] rfl (loopB q (y + 1) (blq ++ [(s_byt c q, e)]) h83 _ _ (by omega) (by rw [fu_s, fb_app, if_pos rfl, List.length_append, List.length_singleton]; omega) (by rw [List.append_assoc]; exact hap) hI83 (hFq.tr hF83))
            · have hcl := hf.2.2.2.2.2.2.2.1
              refine V.iload dP_write_52 rfl ?_
              refine V.iload dP_write_54 rfl ?_
              refine V.icmp_ge (tgt := 92) dP_write_56 (by decide) (fun c_56 => ?_) (fun c_56 => ?_)
              · try simp (disch := omega) only [nI_ltI, nI_leI, nI_eq, zz_lt0, zz_ge0, zz_gt0, zz_le0, zz_eq0, zz_m1lt, zz_m1ge, zz_m1eq, bI_eq0, decide_eq_false_iff_not, decide_eq_true_eq, Decidable.not_not, not_true_eq_false, not_false_eq_true, Nat.not_lt, Nat.not_le, Bool.not_eq_false, Bool.not_eq_true] at c_56
                all_goals omega
              · try simp (disch := omega) only [nI_ltI, nI_leI, nI_eq, zz_lt0, zz_ge0, zz_gt0, zz_le0, zz_eq0, zz_m1lt, zz_m1ge, zz_m1eq, bI_eq0, decide_eq_false_iff_not, decide_eq_true_eq, Decidable.not_not, not_true_eq_false, not_false_eq_true, Nat.not_lt, Nat.not_le, Bool.not_eq_false, Bool.not_eq_true] at c_56
                first | refine V.aload_n dP_write_59 rfl ?_ | refine V.aload_nN dP_write_59 rfl ?_
                refine V.getk dP_write_60 c1 c2 f_P_28_0 d3 ?_
                refine V.lload_n dP_write_63 rfl ?_
                refine V.iload_n dP_write_64 rfl ?_
                refine V.iconst (v := (nI 1)) dP_write_65 (by decide) ?_
                refine V.isubN dP_write_66 (by omega) ?_
                refine V.iload dP_write_67 rfl ?_
                refine V.isubN dP_write_69 (by omega) ?_
                rw [show m - 1 - y = q by omega]
                refine V.callS 0 _ 0 _ [_, _] dP_write_70 okP_byteOf n_P_101 stP_byteOf (by decide) (by decide) rfl rfl (Nat.le_of_ble_eq_true rfl) (Nat.le_of_ble_eq_true rfl) (Nat.le_of_eq (Nat.zero_add _)) (Nat.le_of_eq (Nat.zero_add _)) (k_byteOf (k := q) (by omega) ?_)
                refine V.callVk (kd := 3) 0 _ 0 _ [_] dP_write_73 okF_append n_P_105 hf.1 hf.2.1 rfl imF_append seF_append_F (by decide) (by decide) rfl rfl (Nat.le_of_ble_eq_true rfl) (Nat.le_of_ble_eq_true rfl) (Nat.le_of_eq (Nat.zero_add _)) (Nat.le_of_eq (Nat.zero_add _)) (k_fapp0 hf (by omega) (by omega) (s_byt_lt c q) (fun h2 e2 => ?_))
                have hFk : FK (fun w j => (w = ad e ∧ (j = 3 ∨ j = 4)) ∨ w = ba e) hq h2 := (by rw [e2]; exact FK.of rfl rfl (fun w j hn => by rw [hp_ne (fun z => hn (Or.inl ⟨z.1, Or.inr z.2⟩)), hp_a (fun z => hn (Or.inr z))]))
                have hx2 : g_0 G ≤ x ∧ x < h2.2.2 := ⟨c1.1, Nat.lt_of_lt_of_le c1.2 hFk.1⟩
                have hk2 : (h2.1 x).1 = 0 := by (rw [hFk.2.1 x c1.2]; exact c2)
                have hxs : ∀ j, ¬ ((x = ad e ∧ (j = 3 ∨ j = 4)) ∨ x = ba e) := fun j z => by
                  rcases z with z | z
                  · have h9 := hf.2.1; rw [← z.1, c2] at h9; omega
                  · have h9 := hf.2.2.2.2.2.1; rw [← z] at h9; rw [h9] at c2; exact absurd c2 (by show ¬ (102 = 0); decide)
                have h26 : h2.2.1 x 6 = .int (nI blq.length) := (hFk.2.2 x 6 c1.2 (hxs 6)).trans c9
                first | refine V.aload_n dP_write_76 rfl ?_ | refine V.aload_nN dP_write_76 rfl ?_
                refine V.dup dP_write_77 rfl ?_
                refine V.getk dP_write_78 hx2 hk2 f_P_39_0 h26 ?_
                refine V.iconst (v := (nI 1)) dP_write_81 (by decide) ?_
                refine V.iaddN dP_write_82 ?_
                refine V.putk dP_write_83 hx2 hk2 p_P_39_0 rfl rfl ?_
                intro h83 e83
                obtain ⟨hI83, hF83⟩ := hIq.push he h1 hFk (by rw [e2]; exact hf.push (by omega) (s_byt_lt c q)) (Or.inl rfl)
                rw [← e83] at hI83 hF83
                refine V.iincN dP_write_86 rfl (by decide) ?_
                refine V.goto (tgt := 52) dP_write_89 (by decide) ?_
                exact V.re [5, 4, 0, 1, 3] rfl (ih (y + 1) (blq ++ [(s_byt c q, e)]) h83 _ _ (by omega) (by rw [List.append_assoc]; exact hap) hI83 (hFq.tr hF83))
        refine V.if_ne (tgt := 16) dP_write_11 (by decide) (fun c_11 => ?_) (fun c_11 => ?_)
        · skip
          first | refine V.aload_n dP_write_16 rfl ?_ | refine V.aload_nN dP_write_16 rfl ?_
          refine V.getk dP_write_17 a1 a2 f_P_28_0 h3 ?_
          refine V.getk dP_write_20 hg.1 hg.2.1 f_P_87_3 hn1 ?_
          refine V.ifnull dP_write_23 ?_
          refine V.iload_n dP_write_26 rfl ?_
          first | refine V.aload_n dP_write_27 rfl ?_ | refine V.aload_nN dP_write_27 rfl ?_
          refine V.getk dP_write_28 a1 a2 f_P_28_0 h3 ?_
          refine V.callVk (kd := 3) 0 _ 0 _ [] dP_write_31 okF_room n_P_90 hg.1 hg.2.1 rfl imF_room seF_room_F (by decide) (by decide) rfl rfl (Nat.le_of_ble_eq_true rfl) (Nat.le_of_ble_eq_true rfl) (Nat.le_of_eq (Nat.zero_add _)) (Nat.le_of_eq (Nat.zero_add _)) (k_room hg (by omega) ?_)
          refine V.ldc (v := nI 65536) dP_write_34 co_P_94 ?_
          first | refine V.aload_n dP_write_36 rfl ?_ | refine V.aload_nN dP_write_36 rfl ?_
          refine V.getk dP_write_37 a1 a2 f_P_39_0 a9 ?_
          refine V.isubN dP_write_40 (by omega) ?_
          refine V.mmin dP_write_41 nl_P_95 mi_1 mi_2 mi_3 (by decide) (by decide) (Nat.le_of_ble_eq_true rfl) ?_
          rw [min_n (by omega) (by omega)]
          refine V.mmin dP_write_44 nl_P_95 mi_1 mi_2 mi_3 (by decide) (by decide) (Nat.le_of_ble_eq_true rfl) ?_
          rw [min_n (by omega) (by omega), Nat.min_eq_left (by omega)]
          refine V.istore dP_write_47 (by decide) ?_
          refine V.iconst (v := (nI 0)) dP_write_49 (by decide) ?_
          refine V.istore dP_write_50 (by decide) ?_
          exact V.re [5, 4, 0, 1, 3] rfl (loopA m 0 bl h ba cp (by omega) rfl hI CFr.rf)
        · skip
          exact absurd c_11 (by decide)
      skip
