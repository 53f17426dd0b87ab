theorem CT.lead0 {G : GG} {h : HH} {x : Nat} {T : TT} {p : Nat → Nat} {n hand : Nat} {ad na : Nat → Nat} {ch : Nat → List Nat} (hC : CT G h x T ad na ch) (hh : hand < 300 ∧ T.1 hand = 2) {e : Nat} (hr : s_lead0 T p hand n = some e) : e < 300 ∧ T.1 e ≠ 0 := by
  unfold s_lead0 at hr
  refine hC.w _ _ _ _ e ?_ ?_ hr
  · split <;> omega
  · split
    · rw [hC.2.2.2.1.2.1]; omega
    · omega
set_option maxHeartbeats 4000000 in
set_option maxRecDepth 100000 in
/-- PathTree.target -/
theorem k_target {G : GG} {h : HH} {x : Nat} {T : TT} {p : Nat → Nat} {len hand : Nat} {bl : List (Nat × Nat)} {ad na : Nat → Nat} {ch : Nat → List Nat} {Q : Option Value → HH → Prop} (hP : CP G h x T hand bl ad) (hX : TX G h (x + 1) p len) (hC : CT G h x T ad na ch) (q0 : s_lead T p hand len = none → Q (some .null) h) (q1 : ∀ e, s_lead T p hand len = some e → e < 300 → T.1 e ≠ 0 → Q (some (.ref (ad e))) h) : V G mP_target 0 (lv_args 0 [.ref x]) [] h 0 0 Q := by
  obtain ⟨ht, htk, hca, hln, hcs, hck, hch, hl2, hp⟩ := id hX
  obtain ⟨a1, a2, a3, a4, a5, a6, a7, a8, a9⟩ := id hP
  first | refine V.aload_n dP_target_0 rfl ?_ | refine V.aload_nN dP_target_0 rfl ?_
  refine V.getk dP_target_1 a1 a2 f_P_10_0 a3 ?_
  refine V.getk dP_target_4 ht htk f_P_54_1 hln ?_
  refine V.if_ne (tgt := 12) dP_target_7 (by decide) (fun c_7 => ?_) (fun c_7 => ?_)
  · try simp (disch := omega) only [nI_ltI, nI_leI, nI_eq, zz_lt0, zz_ge0, zz_gt0, zz_le0, zz_eq0, zz_m1lt, zz_m1ge, zz_m1eq, bI_eq0, decide_eq_false_iff_not, decide_eq_true_eq, Decidable.not_not, not_true_eq_false, not_false_eq_true, Nat.not_lt, Nat.not_le, Bool.not_eq_false, Bool.not_eq_true] at c_7
    first | refine V.aload_n dP_target_12 rfl ?_ | refine V.aload_nN dP_target_12 rfl ?_
    first | refine V.aload_n dP_target_13 rfl ?_ | refine V.aload_nN dP_target_13 rfl ?_
    refine V.getk dP_target_14 a1 a2 f_P_10_0 a3 ?_
    refine V.getk dP_target_17 ht htk f_P_54_1 hln ?_
    refine V.callVk (kd := 0) 0 _ 0 _ [_] dP_target_20 okP_entryBefore n_P_135 a1 a2 rfl imP_entryBefore seP_entryBefore_P (by decide) (by decide) rfl rfl (Nat.le_of_ble_eq_true rfl) (Nat.le_of_ble_eq_true rfl) (Nat.le_of_eq (Nat.zero_add _)) (Nat.le_of_eq (Nat.zero_add _)) (k_before hP hX hC (by omega) (by omega) (fun hr => ?_) (fun e hr => ?_))
    · first | refine V.astore_n dP_target_23 (by decide) ?_ | refine V.astore_nN dP_target_23 (by decide) ?_
      first | refine V.aload_n dP_target_24 rfl ?_ | refine V.aload_nN dP_target_24 rfl ?_
      refine V.getk dP_target_25 a1 a2 f_P_10_0 a3 ?_
      first | refine V.aload_n dP_target_28 rfl ?_ | refine V.aload_nN dP_target_28 rfl ?_
      refine V.getk dP_target_29 a1 a2 f_P_10_0 a3 ?_
      refine V.getk dP_target_32 ht htk f_P_54_1 hln ?_
      refine V.iconst (v := (nI 1)) dP_target_35 (by decide) ?_
      refine V.isubN dP_target_36 (by omega) ?_
      refine V.callVk (kd := 1) 0 _ 0 _ [_] dP_target_37 okT_isSlash n_P_138 ht htk rfl imT_isSlash seT_isSlash_T (by decide) (by decide) rfl rfl (Nat.le_of_ble_eq_true rfl) (Nat.le_of_ble_eq_true rfl) (Nat.le_of_eq (Nat.zero_add _)) (Nat.le_of_eq (Nat.zero_add _)) (k_isSlash hX (by omega) ?_)
      refine V.if_eq (tgt := 52) dP_target_40 (by decide) (fun c_40 => ?_) (fun c_40 => ?_)
      · try simp (disch := omega) only [nI_ltI, nI_leI, nI_eq, zz_lt0, zz_ge0, zz_gt0, zz_le0, zz_eq0, zz_m1lt, zz_m1ge, zz_m1eq, bI_eq0, decide_eq_false_iff_not, decide_eq_true_eq, Decidable.not_not, not_true_eq_false, not_false_eq_true, Nat.not_lt, Nat.not_le, Bool.not_eq_false, Bool.not_eq_true] at c_40
        first | refine V.aload_n dP_target_52 rfl ?_ | refine V.aload_nN dP_target_52 rfl ?_
        first | refine V.areturn dP_target_53 rfl (by simp) ?_ | refine V.areturnN dP_target_53 rfl (by simp) ?_
        exact q0 (by (unfold s_lead; rw [if_neg c_7, hr]))
      · try simp (disch := omega) only [nI_ltI, nI_leI, nI_eq, zz_lt0, zz_ge0, zz_gt0, zz_le0, zz_eq0, zz_m1lt, zz_m1ge, zz_m1eq, bI_eq0, decide_eq_false_iff_not, decide_eq_true_eq, Decidable.not_not, not_true_eq_false, not_false_eq_true, Nat.not_lt, Nat.not_le, Bool.not_eq_false, Bool.not_eq_true] at c_40
        first | refine V.aload_n dP_target_43 rfl ?_ | refine V.aload_nN dP_target_43 rfl ?_
        refine V.instN dP_target_44 ?_
        refine V.if_ne (tgt := 52) dP_target_47 (by decide) (fun c_47 => ?_) (fun c_47 => ?_)
        · skip
          exact absurd rfl c_47
        · skip
          refine V.null dP_target_50 ?_
          first | refine V.areturn dP_target_51 rfl (by simp) ?_ | refine V.areturnN dP_target_51 rfl (by simp) ?_
          exact q0 (by (unfold s_lead; rw [if_neg c_7, hr]))
    · have hle := hC.lead0 a6 hr
      have hk2 := (hC.1 e hle.1).1
      by_cases h2 : T.1 e = 2
      · have hd := hC.dir hle.1 h2
        first | refine V.astore_n dP_target_23 (by decide) ?_ | refine V.astore_nN dP_target_23 (by decide) ?_
        first | refine V.aload_n dP_target_24 rfl ?_ | refine V.aload_nN dP_target_24 rfl ?_
        refine V.getk dP_target_25 a1 a2 f_P_10_0 a3 ?_
        first | refine V.aload_n dP_target_28 rfl ?_ | refine V.aload_nN dP_target_28 rfl ?_
        refine V.getk dP_target_29 a1 a2 f_P_10_0 a3 ?_
        refine V.getk dP_target_32 ht htk f_P_54_1 hln ?_
        refine V.iconst (v := (nI 1)) dP_target_35 (by decide) ?_
        refine V.isubN dP_target_36 (by omega) ?_
        refine V.callVk (kd := 1) 0 _ 0 _ [_] dP_target_37 okT_isSlash n_P_138 ht htk rfl imT_isSlash seT_isSlash_T (by decide) (by decide) rfl rfl (Nat.le_of_ble_eq_true rfl) (Nat.le_of_ble_eq_true rfl) (Nat.le_of_eq (Nat.zero_add _)) (Nat.le_of_eq (Nat.zero_add _)) (k_isSlash hX (by omega) ?_)
        refine V.if_eq (tgt := 52) dP_target_40 (by decide) (fun c_40 => ?_) (fun c_40 => ?_)
        · try simp (disch := omega) only [nI_ltI, nI_leI, nI_eq, zz_lt0, zz_ge0, zz_gt0, zz_le0, zz_eq0, zz_m1lt, zz_m1ge, zz_m1eq, bI_eq0, decide_eq_false_iff_not, decide_eq_true_eq, Decidable.not_not, not_true_eq_false, not_false_eq_true, Nat.not_lt, Nat.not_le, Bool.not_eq_false, Bool.not_eq_true] at c_40
          first | refine V.aload_n dP_target_52 rfl ?_ | refine V.aload_nN dP_target_52 rfl ?_
          first | refine V.areturn dP_target_53 rfl (by simp) ?_ | refine V.areturnN dP_target_53 rfl (by simp) ?_
          exact q1 e (by unfold s_lead; rw [if_neg c_7, hr]; exact if_neg (fun z => z.2 h2)) hle.1 hle.2
        · try simp (disch := omega) only [nI_ltI, nI_leI, nI_eq, zz_lt0, zz_ge0, zz_gt0, zz_le0, zz_eq0, zz_m1lt, zz_m1ge, zz_m1eq, bI_eq0, decide_eq_false_iff_not, decide_eq_true_eq, Decidable.not_not, not_true_eq_false, not_false_eq_true, Nat.not_lt, Nat.not_le, Bool.not_eq_false, Bool.not_eq_true] at c_40
          first | refine V.aload_n dP_target_43 rfl ?_ | refine V.aload_nN dP_target_43 rfl ?_
          refine V.instk dP_target_44 hd.1 hd.2 rfl cl_P_16 ?_
          refine V.if_ne (tgt := 52) dP_target_47 (by decide) (fun c_47 => ?_) (fun c_47 => ?_)
          · skip
            first | refine V.aload_n dP_target_52 rfl ?_ | refine V.aload_nN dP_target_52 rfl ?_
            first | refine V.areturn dP_target_53 rfl (by simp) ?_ | refine V.areturnN dP_target_53 rfl (by simp) ?_
            exact q1 e (by unfold s_lead; rw [if_neg c_7, hr]; exact if_neg (fun z => z.2 h2)) hle.1 hle.2
          · skip
            exact absurd c_47 (by decide)
      · have hf := hC.file hle.1 (by omega)
        first | refine V.astore_n dP_target_23 (by decide) ?_ | refine V.astore_nN dP_target_23 (by decide) ?_
        first | refine V.aload_n dP_target_24 rfl ?_ | refine V.aload_nN dP_target_24 rfl ?_
        refine V.getk dP_target_25 a1 a2 f_P_10_0 a3 ?_
        first | refine V.aload_n dP_target_28 rfl ?_ | refine V.aload_nN dP_target_28 rfl ?_
        refine V.getk dP_target_29 a1 a2 f_P_10_0 a3 ?_
        refine V.getk dP_target_32 ht htk f_P_54_1 hln ?_
        refine V.iconst (v := (nI 1)) dP_target_35 (by decide) ?_
        refine V.isubN dP_target_36 (by omega) ?_
        refine V.callVk (kd := 1) 0 _ 0 _ [_] dP_target_37 okT_isSlash n_P_138 ht htk rfl imT_isSlash seT_isSlash_T (by decide) (by decide) rfl rfl (Nat.le_of_ble_eq_true rfl) (Nat.le_of_ble_eq_true rfl) (Nat.le_of_eq (Nat.zero_add _)) (Nat.le_of_eq (Nat.zero_add _)) (k_isSlash hX (by omega) ?_)
        refine V.if_eq (tgt := 52) dP_target_40 (by decide) (fun c_40 => ?_) (fun c_40 => ?_)
        · try simp (disch := omega) only [nI_ltI, nI_leI, nI_eq, zz_lt0, zz_ge0, zz_gt0, zz_le0, zz_eq0, zz_m1lt, zz_m1ge, zz_m1eq, bI_eq0, decide_eq_false_iff_not, decide_eq_true_eq, Decidable.not_not, not_true_eq_false, not_false_eq_true, Nat.not_lt, Nat.not_le, Bool.not_eq_false, Bool.not_eq_true] at c_40
          first | refine V.aload_n dP_target_52 rfl ?_ | refine V.aload_nN dP_target_52 rfl ?_
          first | refine V.areturn dP_target_53 rfl (by simp) ?_ | refine V.areturnN dP_target_53 rfl (by simp) ?_
          exact q1 e (by unfold s_lead; rw [if_neg c_7, hr]; exact if_neg (fun z => c_40 ⟨by omega, z.1⟩)) hle.1 hle.2
        · try simp (disch := omega) only [nI_ltI, nI_leI, nI_eq, zz_lt0, zz_ge0, zz_gt0, zz_le0, zz_eq0, zz_m1lt, zz_m1ge, zz_m1eq, bI_eq0, decide_eq_false_iff_not, decide_eq_true_eq, Decidable.not_not, not_true_eq_false, not_false_eq_true, Nat.not_lt, Nat.not_le, Bool.not_eq_false, Bool.not_eq_true] at c_40
          first | refine V.aload_n dP_target_43 rfl ?_ | refine V.aload_nN dP_target_43 rfl ?_
          refine V.instn dP_target_44 hf.1 hf.2 rfl cl_P_16 (by decide) ?_
          refine V.if_ne (tgt := 52) dP_target_47 (by decide) (fun c_47 => ?_) (fun c_47 => ?_)
          · skip
            exact absurd rfl c_47
          · skip
            refine V.null dP_target_50 ?_
            first | refine V.areturn dP_target_51 rfl (by simp) ?_ | refine V.areturnN dP_target_51 rfl (by simp) ?_
            exact q0 (by unfold s_lead; rw [if_neg c_7, hr]; exact if_pos ⟨c_40.2, h2⟩)
    skip
  · try simp (disch := omega) only [nI_ltI, nI_leI, nI_eq, zz_lt0, zz_ge0, zz_gt0, zz_le0, zz_eq0, zz_m1lt, zz_m1ge, zz_m1eq, bI_eq0, decide_eq_false_iff_not, decide_eq_true_eq, Decidable.not_not, not_true_eq_false, not_false_eq_true, Nat.not_lt, Nat.not_le, Bool.not_eq_false, Bool.not_eq_true] at c_7
    refine V.null dP_target_10 ?_
    first | refine V.areturn dP_target_11 rfl (by simp) ?_ | refine V.areturnN dP_target_11 rfl (by simp) ?_
    exact q0 (by unfold s_lead; rw [if_pos c_7])
set_option maxHeartbeats 4000000 in
set_option maxRecDepth 100000 in
/-- PathTree.home -/
theorem k_home {G : GG} {h : HH} {x : Nat} {T : TT} {p : Nat → Nat} {len hand : Nat} {bl : List (Nat × Nat)} {ad na : Nat → Nat} {ch : Nat → List Nat} {Q : Option Value → HH → Prop} (hP : CP G h x T hand bl ad) (hX : TX G h (x + 1) p len) (hC : CT G h x T ad na ch) (q0 : s_home T p hand len = none → Q (some .null) h) (q1 : ∀ d, s_home T p hand len = some d → d < 300 → T.1 d = 2 → Q (some (.ref (ad d))) h) : V G mP_home 0 (lv_args 0 [.ref x]) [] h 0 0 Q := by
  obtain ⟨ht, htk, hca, hln, hcs, hck, hch, hl2, hp⟩ := id hX
  obtain ⟨a1, a2, a3, a4, a5, a6, a7, a8, a9⟩ := id hP
  have hll := s_last_le p len
  cases hs : s_last p len with
  | zero =>
    first | refine V.aload_n dP_home_0 rfl ?_ | refine V.aload_nN dP_home_0 rfl ?_
    refine V.getk dP_home_1 a1 a2 f_P_10_0 a3 ?_
    refine V.callVk (kd := 1) 0 _ 0 _ [] dP_home_4 okT_lastSlash n_P_141 ht htk rfl imT_lastSlash seT_lastSlash_T (by decide) (by decide) rfl rfl (Nat.le_of_ble_eq_true rfl) (Nat.le_of_ble_eq_true rfl) (Nat.le_of_eq (Nat.zero_add _)) (Nat.le_of_eq (Nat.zero_add _)) (k_lastSlash hX ?_)
    rw [hs, lm_0]
    refine V.istore_n dP_home_7 (by decide) ?_
    refine V.iload_n dP_home_8 rfl ?_
    refine V.if_ge (tgt := 17) dP_home_9 (by decide) (fun c_9 => ?_) (fun c_9 => ?_)
    · try simp only [zz_m1lt, zz_m1ge, not_true_eq_false, not_false_eq_true] at c_9
      all_goals omega
    · try simp only [zz_m1lt, zz_m1ge, not_true_eq_false, not_false_eq_true] at c_9
      first | refine V.aload_n dP_home_12 rfl ?_ | refine V.aload_nN dP_home_12 rfl ?_
      refine V.getk dP_home_13 a1 a2 f_P_25_0 a5 ?_
      first | refine V.areturn dP_home_16 rfl (by simp) ?_ | refine V.areturnN dP_home_16 rfl (by simp) ?_
      exact q1 hand (by unfold s_home; rw [if_pos hs]) a6.1 a6.2
  | succ k =>
    first | refine V.aload_n dP_home_0 rfl ?_ | refine V.aload_nN dP_home_0 rfl ?_
    refine V.getk dP_home_1 a1 a2 f_P_10_0 a3 ?_
    refine V.callVk (kd := 1) 0 _ 0 _ [] dP_home_4 okT_lastSlash n_P_141 ht htk rfl imT_lastSlash seT_lastSlash_T (by decide) (by decide) rfl rfl (Nat.le_of_ble_eq_true rfl) (Nat.le_of_ble_eq_true rfl) (Nat.le_of_eq (Nat.zero_add _)) (Nat.le_of_eq (Nat.zero_add _)) (k_lastSlash hX ?_)
    rw [hs, lm_s]
    refine V.istore_n dP_home_7 (by decide) ?_
    refine V.iload_n dP_home_8 rfl ?_
    refine V.if_ge (tgt := 17) dP_home_9 (by decide) (fun c_9 => ?_) (fun c_9 => ?_)
    · try simp (disch := omega) only [nI_ltI, nI_leI, nI_eq, zz_lt0, zz_ge0, zz_gt0, zz_le0, zz_eq0, zz_m1lt, zz_m1ge, zz_m1eq, bI_eq0, decide_eq_false_iff_not, decide_eq_true_eq, Decidable.not_not, not_true_eq_false, not_false_eq_true, Nat.not_lt, Nat.not_le, Bool.not_eq_false, Bool.not_eq_true] at c_9
      first | refine V.aload_n dP_home_17 rfl ?_ | refine V.aload_nN dP_home_17 rfl ?_
      refine V.iload_n dP_home_18 rfl ?_
      refine V.callVk (kd := 0) 0 _ 0 _ [_] dP_home_19 okP_entryBefore n_P_135 a1 a2 rfl imP_entryBefore seP_entryBefore_P (by decide) (by decide) rfl rfl (Nat.le_of_ble_eq_true rfl) (Nat.le_of_ble_eq_true rfl) (Nat.le_of_eq (Nat.zero_add _)) (Nat.le_of_eq (Nat.zero_add _)) (k_before hP hX hC (n := k) (by omega) (by omega) (fun hr => ?_) (fun e hr => ?_))
      · first | refine V.astore_n dP_home_22 (by decide) ?_ | refine V.astore_nN dP_home_22 (by decide) ?_
        first | refine V.aload_n dP_home_23 rfl ?_ | refine V.aload_nN dP_home_23 rfl ?_
        refine V.instN dP_home_24 ?_
        refine V.if_eq (tgt := 39) dP_home_27 (by decide) (fun c_27 => ?_) (fun c_27 => ?_)
        · skip
          refine V.null dP_home_39 ?_
          first | refine V.areturn dP_home_40 rfl (by simp) ?_ | refine V.areturnN dP_home_40 rfl (by simp) ?_
          exact q0 (by unfold s_home; rw [if_neg (by omega), hs, Nat.add_sub_cancel, hr]; rfl)
        · skip
          exact absurd rfl c_27
      · have hle := hC.lead0 a6 hr
        have hk2 := (hC.1 e hle.1).1
        by_cases h2 : T.1 e = 2
        · have hd := hC.dir hle.1 h2
          first | refine V.astore_n dP_home_22 (by decide) ?_ | refine V.astore_nN dP_home_22 (by decide) ?_
          first | refine V.aload_n dP_home_23 rfl ?_ | refine V.aload_nN dP_home_23 rfl ?_
          refine V.instk dP_home_24 hd.1 hd.2 rfl cl_P_16 ?_
          refine V.if_eq (tgt := 39) dP_home_27 (by decide) (fun c_27 => ?_) (fun c_27 => ?_)
          · skip
            exact absurd c_27 (by decide)
          · skip
            first | refine V.aload_n dP_home_30 rfl ?_ | refine V.aload_nN dP_home_30 rfl ?_
            refine V.castk dP_home_31 hd.1 hd.2 rfl cl_P_16 ?_
            first | refine V.astore_n dP_home_34 (by decide) ?_ | refine V.astore_nN dP_home_34 (by decide) ?_
            first | refine V.aload_n dP_home_35 rfl ?_ | refine V.aload_nN dP_home_35 rfl ?_
            refine V.goto (tgt := 40) dP_home_36 (by decide) ?_
            first | refine V.areturn dP_home_40 rfl (by simp) ?_ | refine V.areturnN dP_home_40 rfl (by simp) ?_
            exact q1 e (by unfold s_home; rw [if_neg (by omega), hs, Nat.add_sub_cancel, hr]; exact if_pos h2) hle.1 h2
        · have hf := hC.file hle.1 (by omega)
          first | refine V.astore_n dP_home_22 (by decide) ?_ | refine V.astore_nN dP_home_22 (by decide) ?_
          first | refine V.aload_n dP_home_23 rfl ?_ | refine V.aload_nN dP_home_23 rfl ?_
          refine V.instn dP_home_24 hf.1 hf.2 rfl cl_P_16 (by decide) ?_
          refine V.if_eq (tgt := 39) dP_home_27 (by decide) (fun c_27 => ?_) (fun c_27 => ?_)
          · skip
            refine V.null dP_home_39 ?_
            first | refine V.areturn dP_home_40 rfl (by simp) ?_ | refine V.areturnN dP_home_40 rfl (by simp) ?_
            exact q0 (by unfold s_home; rw [if_neg (by omega), hs, Nat.add_sub_cancel, hr]; exact if_neg h2)
          · skip
            exact absurd rfl c_27
      skip
    · try simp (disch := omega) only [nI_ltI, nI_leI, nI_eq, zz_lt0, zz_ge0, zz_gt0, zz_le0, zz_eq0, zz_m1lt, zz_m1ge, zz_m1eq, bI_eq0, decide_eq_false_iff_not, decide_eq_true_eq, Decidable.not_not, not_true_eq_false, not_false_eq_true, Nat.not_lt, Nat.not_le, Bool.not_eq_false, Bool.not_eq_true] at c_9
      all_goals omega
set_option maxHeartbeats 4000000 in
set_option maxRecDepth 100000 in
/-- PathTree.homeOfNew -/
theorem k_new {G : GG} {h : HH} {x : Nat} {T : TT} {p : Nat → Nat} {len hand : Nat} {bl : List (Nat × Nat)} {ad na : Nat → Nat} {ch : Nat → List Nat} {Q : Option Value → HH → Prop} (hP : CP G h x T hand bl ad) (hX : TX G h (x + 1) p len) (hC : CT G h x T ad na ch) (q0 : s_can T p hand len (s_many T) = none → Q (some .null) h) (q1 : ∀ d, s_can T p hand len (s_many T) = some d → d < 300 → T.1 d = 2 → Q (some (.ref (ad d))) h) : V G mP_homeOfNew 0 (lv_args 0 [.ref x]) [] h 0 0 Q := by
  obtain ⟨ht, htk, hca, hln, hcs, hck, hch, hl2, hp⟩ := id hX
  obtain ⟨a1, a2, a3, a4, a5, a6, a7, a8, a9⟩ := id hP
  have hll := s_last_le p len
  have hm := s_many_two (T := T) (n := 300) (fun e he => (hC.1 e he).1)
  have hm3 := s_cnt_le (fun e => decide (T.1 e ≠ 0)) 300
  have hm1 := s_cnt_le (fun e => decide (T.1 e = 1)) 300
  have hm2 := s_cnt_le (fun e => decide (T.1 e = 2)) 300
  have hmm : s_many T = s_cnt (fun e => decide (T.1 e = 1)) 300 + s_cnt (fun e => decide (T.1 e = 2)) 300 := hm
  first | refine V.aload_n dP_homeOfNew_0 rfl ?_ | refine V.aload_nN dP_homeOfNew_0 rfl ?_
  refine V.getk dP_homeOfNew_1 a1 a2 f_P_32_0 a7 ?_
  first | refine V.aload_n dP_homeOfNew_4 rfl ?_ | refine V.aload_nN dP_homeOfNew_4 rfl ?_
  refine V.getk dP_homeOfNew_5 a1 a2 f_P_36_0 a8 ?_
  refine V.iaddN dP_homeOfNew_8 ?_
  refine V.sipush (v := (nI 300)) dP_homeOfNew_9 (by decide) ?_
  refine V.icmp_ge (tgt := 25) dP_homeOfNew_12 (by decide) (fun c_12 => ?_) (fun c_12 => ?_)
  · try simp (disch := omega) only [nI_ltI, nI_leI, nI_eq, zz_lt0, zz_ge0, zz_gt0, zz_le0, zz_eq0, zz_m1lt, zz_m1ge, zz_m1eq, bI_eq0, decide_eq_false_iff_not, decide_eq_true_eq, Decidable.not_not, not_true_eq_false, not_false_eq_true, Nat.not_lt, Nat.not_le, Bool.not_eq_false, Bool.not_eq_true] at c_12
    have hno : ∀ d, ¬ (s_isName p len ∧ s_many T ≠ 300 ∧ s_ent T p d (s_last p len) len = none) := fun d z => by (have := z.2.1; omega)
    refine V.null dP_homeOfNew_25 ?_
    refine V.areturnN dP_homeOfNew_26 rfl (by simp) ?_
    exact q0 (by unfold s_can; split; rfl; exact if_neg (hno _))
  · try simp (disch := omega) only [nI_ltI, nI_leI, nI_eq, zz_lt0, zz_ge0, zz_gt0, zz_le0, zz_eq0, zz_m1lt, zz_m1ge, zz_m1eq, bI_eq0, decide_eq_false_iff_not, decide_eq_true_eq, Decidable.not_not, not_true_eq_false, not_false_eq_true, Nat.not_lt, Nat.not_le, Bool.not_eq_false, Bool.not_eq_true] at c_12
    first | refine V.aload_n dP_homeOfNew_15 rfl ?_ | refine V.aload_nN dP_homeOfNew_15 rfl ?_
    refine V.getk dP_homeOfNew_16 a1 a2 f_P_10_0 a3 ?_
    refine V.callVk (kd := 1) 0 _ 0 _ [] dP_homeOfNew_19 okT_lastNameCanBe n_P_163 ht htk rfl imT_lastNameCanBe seT_lastNameCanBe_T (by decide) (by decide) rfl rfl (Nat.le_of_ble_eq_true rfl) (Nat.le_of_ble_eq_true rfl) (Nat.le_of_eq (Nat.zero_add _)) (Nat.le_of_eq (Nat.zero_add _)) (k_lastNameCanBe hX ?_)
    refine V.if_ne (tgt := 27) dP_homeOfNew_22 (by decide) (fun c_22 => ?_) (fun c_22 => ?_)
    · try simp (disch := omega) only [nI_ltI, nI_leI, nI_eq, zz_lt0, zz_ge0, zz_gt0, zz_le0, zz_eq0, zz_m1lt, zz_m1ge, zz_m1eq, bI_eq0, decide_eq_false_iff_not, decide_eq_true_eq, Decidable.not_not, not_true_eq_false, not_false_eq_true, Nat.not_lt, Nat.not_le, Bool.not_eq_false, Bool.not_eq_true] at c_22
      first | refine V.aload_n dP_homeOfNew_27 rfl ?_ | refine V.aload_nN dP_homeOfNew_27 rfl ?_
      refine V.callVk (kd := 0) 0 _ 0 _ [] dP_homeOfNew_28 okP_home n_P_167 a1 a2 rfl imP_home seP_home_P (by decide) (by decide) rfl rfl (Nat.le_of_ble_eq_true rfl) (Nat.le_of_ble_eq_true rfl) (Nat.le_of_eq (Nat.zero_add _)) (Nat.le_of_eq (Nat.zero_add _)) (k_home hP hX hC (fun hr => ?_) (fun d hr hd h2 => ?_))
      · first | refine V.astore_n dP_homeOfNew_31 (by decide) ?_ | refine V.astore_nN dP_homeOfNew_31 (by decide) ?_
        first | refine V.aload_n dP_homeOfNew_32 rfl ?_ | refine V.aload_nN dP_homeOfNew_32 rfl ?_
        refine V.ifnullN (tgt := 66) dP_homeOfNew_33 (by decide) ?_
        refine V.null dP_homeOfNew_66 ?_
        first | refine V.areturn dP_homeOfNew_67 rfl (by simp) ?_ | refine V.areturnN dP_homeOfNew_67 rfl (by simp) ?_
        exact q0 (by unfold s_can; rw [hr])
      · have hdd := hC.dir hd h2
        first | refine V.astore_n dP_homeOfNew_31 (by decide) ?_ | refine V.astore_nN dP_homeOfNew_31 (by decide) ?_
        first | refine V.aload_n dP_homeOfNew_32 rfl ?_ | refine V.aload_nN dP_homeOfNew_32 rfl ?_
        refine V.ifnull dP_homeOfNew_33 ?_
        first | refine V.aload_n dP_homeOfNew_36 rfl ?_ | refine V.aload_nN dP_homeOfNew_36 rfl ?_
        first | refine V.aload_n dP_homeOfNew_37 rfl ?_ | refine V.aload_nN dP_homeOfNew_37 rfl ?_
        refine V.getk dP_homeOfNew_38 a1 a2 f_P_10_0 a3 ?_
        refine V.getk dP_homeOfNew_41 ht htk f_P_156_1 hca ?_
        first | refine V.aload_n dP_homeOfNew_44 rfl ?_ | refine V.aload_nN dP_homeOfNew_44 rfl ?_
        refine V.getk dP_homeOfNew_45 a1 a2 f_P_10_0 a3 ?_
        refine V.callVk (kd := 1) 0 _ 0 _ [] dP_homeOfNew_48 okT_lastSlash n_P_141 ht htk rfl imT_lastSlash seT_lastSlash_T (by decide) (by decide) rfl rfl (Nat.le_of_ble_eq_true rfl) (Nat.le_of_ble_eq_true rfl) (Nat.le_of_eq (Nat.zero_add _)) (Nat.le_of_eq (Nat.zero_add _)) (k_lastSlash hX ?_)
        refine V.iconst (v := (nI 1)) dP_homeOfNew_51 (by decide) ?_
        refine V.iadd dP_homeOfNew_52 ?_
        rw [lm_add]
        first | refine V.aload_n dP_homeOfNew_53 rfl ?_ | refine V.aload_nN dP_homeOfNew_53 rfl ?_
        refine V.getk dP_homeOfNew_54 a1 a2 f_P_10_0 a3 ?_
        refine V.getk dP_homeOfNew_57 ht htk f_P_54_1 hln ?_
        refine V.callVk (kd := 2) 0 _ 0 _ [_, _, _] dP_homeOfNew_60 okD_entryCalled n_P_159 hdd.1 hdd.2 rfl imD_entryCalled seD_entryCalled_D (by decide) (by decide) rfl rfl (Nat.le_of_ble_eq_true rfl) (Nat.le_of_ble_eq_true rfl) (Nat.le_of_eq (Nat.zero_add _)) (Nat.le_of_eq (Nat.zero_add _)) (k_entryCalled hdd (hC.2.2.2.2.2 d hd h2).1 (hC.ens hd h2) (N := 250) (q := p) ⟨hcs, hck, by omega, hll, by omega, fun j h1 h2 => hch j (by omega), fun j h1 h2 => hp j (by omega)⟩ (fun hn => ?_) (fun i hi hs => ?_))
        · refine V.ifnullN (tgt := 68) dP_homeOfNew_63 (by decide) ?_
          first | refine V.aload_n dP_homeOfNew_68 rfl ?_ | refine V.aload_nN dP_homeOfNew_68 rfl ?_
          first | refine V.areturn dP_homeOfNew_69 rfl (by simp) ?_ | refine V.areturnN dP_homeOfNew_69 rfl (by simp) ?_
          exact q1 d (by unfold s_can; rw [hr]; exact if_pos ⟨c_22, by omega, hC.ent0 hd h2 hn⟩) hd h2
        · refine V.ifnull dP_homeOfNew_63 ?_
          refine V.null dP_homeOfNew_66 ?_
          first | refine V.areturn dP_homeOfNew_67 rfl (by simp) ?_ | refine V.areturnN dP_homeOfNew_67 rfl (by simp) ?_
          exact q0 (by unfold s_can; rw [hr]; exact if_neg (fun z => by (rw [hC.ent1 hd h2 hi hs] at z; cases z.2.2)))
        skip
      skip
    · try simp (disch := omega) only [nI_ltI, nI_leI, nI_eq, zz_lt0, zz_ge0, zz_gt0, zz_le0, zz_eq0, zz_m1lt, zz_m1ge, zz_m1eq, bI_eq0, decide_eq_false_iff_not, decide_eq_true_eq, Decidable.not_not, not_true_eq_false, not_false_eq_true, Nat.not_lt, Nat.not_le, Bool.not_eq_false, Bool.not_eq_true] at c_22
      have hno : ∀ d, ¬ (s_isName p len ∧ s_many T ≠ 300 ∧ s_ent T p d (s_last p len) len = none) := fun d z => c_22 z.1
      refine V.null dP_homeOfNew_25 ?_
      refine V.areturnN dP_homeOfNew_26 rfl (by simp) ?_
      exact q0 (by unfold s_can; split; rfl; exact if_neg (hno _))
