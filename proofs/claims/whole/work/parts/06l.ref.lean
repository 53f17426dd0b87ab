set_option maxHeartbeats 4000000 in
set_option maxRecDepth 100000 in
/-- PathTreeModel.open -/
theorem kR_open {G : GG} {h : HH} {o : Nat} {T : TT} {p : Nat → Nat} {len hand : Nat} {op : Option Nat} {gone : Bool} {ents : Nat} {bl : List (Nat × Nat)} {Q : Option Value → HH → Prop} (hI : RI G h o T p len hand op gone ents bl) (hhd : T.1 hand = 2) (h00 : T.1 0 = 2) (hen : ents = s_many T) (hbk : ∀ q ∈ bl, T.1 q.2 ≠ 0) (qA : (∃ e, s_lead T p hand len = some e ∧ T.1 e ≠ 1) ∨ (s_lead T p hand len = none ∧ s_can T p hand len ents = none) → ∀ h', RI G h' o T p 0 hand none false ents bl → FrO o h h' → Q (some (.int (nI 0))) h') (qB : ∀ e, s_lead T p hand len = some e → T.1 e = 1 → ∀ h', RI G h' o T p 0 hand (some e) false ents bl → FrO o h h' → Q (some (.int (nI 1))) h') (qC : s_lead T p hand len = none → ∀ d, s_can T p hand len ents = some d → ∀ e, 1 ≤ e → e < 300 → T.1 e = 0 → (∀ x, x < e → T.1 x ≠ 0) → ∀ h', RI G h' o (s_new T e 1 d p len) p 0 hand (some e) false (ents + 1) bl → FrO o h h' → Q (some (.int (nI 1))) h') : V G mR_open 0 (lv_args 0 [.ref o]) [] h 0 0 Q := by
  obtain ⟨hS, hP, hT, hH, hO, hg, hE, hB, hop⟩ := id hI
  obtain ⟨hz, hk0, hk1, hk2, hk3, hk4, hk5, hk6, hk7, hk8, hf0, hf2, hf3, hf4, hf5, hf6, hf12, hf13⟩ := id hS
  obtain ⟨hln, hpp, hl2, hp⟩ := id hP
  obtain ⟨hkd, hkd2, hin, hin2, hns, hns2, hnm, hnm2⟩ := id hT
  obtain ⟨hhand, hhl⟩ := id hH
  cases hr : s_lead T p hand len with
  | some e =>
    have he := s_lead_lt hin2 hhl hr
    have hke := hkd2 e he
    by_cases hk1e : T.1 e = 1
    · first | refine V.aload_n dR_open_0 rfl ?_ | refine V.aload_nN dR_open_0 rfl ?_
      first | refine V.aload_n dR_open_1 rfl ?_ | refine V.aload_nN dR_open_1 rfl ?_
      refine V.getk dR_open_2 (by omega) (by assumption) f_R_44_4 (by assumption) ?_
      refine V.callVk (kd := 4) 0 _ 0 _ [_] dR_open_5 okR_lead n_R_65 (by omega) (by assumption) rfl imR_lead seR_lead_R (by decide) (by decide) rfl rfl (Nat.le_of_ble_eq_true rfl) (Nat.le_of_ble_eq_true rfl) (Nat.le_of_eq (Nat.zero_add _)) (Nat.le_of_eq (Nat.zero_add _)) (kR_lead hS hP hT hH (by omega) ?_)
      rw [hr]
      show V G mR_open 8 _ [.int (nI e)] h 0 0 Q
      refine V.istore_n dR_open_8 (by decide) ?_
      refine V.iload_n dR_open_9 rfl ?_
      refine V.if_ge (tgt := 19) dR_open_10 (by decide) (fun c_10 => ?_) (fun c_10 => ?_)
      · try simp (disch := omega) only [nI_ltI, nI_leI, nI_eq, zz_lt0, zz_ge0, zz_gt0, zz_le0, zz_eq0, zz_m1lt, zz_m1ge, zz_m1eq, bI_eq0, decide_eq_false_iff_not, decide_eq_true_eq, Decidable.not_not, not_true_eq_false, not_false_eq_true, Nat.not_lt, Nat.not_le, Bool.not_eq_false, Bool.not_eq_true] at c_10
        first | refine V.aload_n dR_open_19 rfl ?_ | refine V.aload_nN dR_open_19 rfl ?_
        refine V.iconst (v := (nI 0)) dR_open_20 (by decide) ?_
        refine V.putk dR_open_21 (by omega) (by assumption) p_R_44_4 rfl rfl ?_
        intro h2 e2
        have hI2 : RI G h2 o T p 0 hand op gone ents bl := by (rw [e2]; exact hI.len)
        have hF2 : FrO o h h2 := by (rw [e2]; exact FrO.rf.put (by omega))
        obtain ⟨hSu, hPu, hTu, hHu, hOu, hgu, hEu, hBu, hopu⟩ := id hI2
        obtain ⟨hzu, hk0u, hk1u, hk2u, hk3u, hk4u, hk5u, hk6u, hk7u, hk8u, hf0u, hf2u, hf3u, hf4u, hf5u, hf6u, hf12u, hf13u⟩ := id hSu
        obtain ⟨hlnu, hppu, hl2u, hpu⟩ := id hPu
        obtain ⟨hkdu, hkd2u, hinu, hin2u, hnsu, hns2u, hnmu, hnm2u⟩ := id hTu
        obtain ⟨hhandu, hhlu⟩ := id hHu
        first | refine V.aload_n dR_open_24 rfl ?_ | refine V.aload_nN dR_open_24 rfl ?_
        refine V.iload_n dR_open_25 rfl ?_
        refine V.if_lt (tgt := 43) dR_open_26 (by decide) (fun c_26 => ?_) (fun c_26 => ?_)
        · try simp (disch := omega) only [nI_ltI, nI_leI, nI_eq, zz_lt0, zz_ge0, zz_gt0, zz_le0, zz_eq0, zz_m1lt, zz_m1ge, zz_m1eq, bI_eq0, decide_eq_false_iff_not, decide_eq_true_eq, Decidable.not_not, not_true_eq_false, not_false_eq_true, Nat.not_lt, Nat.not_le, Bool.not_eq_false, Bool.not_eq_true] at c_26
          all_goals omega
        · try simp (disch := omega) only [nI_ltI, nI_leI, nI_eq, zz_lt0, zz_ge0, zz_gt0, zz_le0, zz_eq0, zz_m1lt, zz_m1ge, zz_m1eq, bI_eq0, decide_eq_false_iff_not, decide_eq_true_eq, Decidable.not_not, not_true_eq_false, not_false_eq_true, Nat.not_lt, Nat.not_le, Bool.not_eq_false, Bool.not_eq_true] at c_26
          first | refine V.aload_n dR_open_29 rfl ?_ | refine V.aload_nN dR_open_29 rfl ?_
          refine V.getk dR_open_30 (by omega) (by assumption) f_R_13_4 (by assumption) ?_
          refine V.iload_n dR_open_33 rfl ?_
          refine V.ialoadN dR_open_34 (by omega) (by assumption) (by omega) (hkdu e he) ?_
          refine V.iconst (v := (nI 1)) dR_open_35 (by decide) ?_
          refine V.icmp_ne (tgt := 43) dR_open_36 (by decide) (fun c_36 => ?_) (fun c_36 => ?_)
          · try simp (disch := omega) only [nI_ltI, nI_leI, nI_eq, zz_lt0, zz_ge0, zz_gt0, zz_le0, zz_eq0, zz_m1lt, zz_m1ge, zz_m1eq, bI_eq0, decide_eq_false_iff_not, decide_eq_true_eq, Decidable.not_not, not_true_eq_false, not_false_eq_true, Nat.not_lt, Nat.not_le, Bool.not_eq_false, Bool.not_eq_true] at c_36
            all_goals omega
          · try simp (disch := omega) only [nI_ltI, nI_leI, nI_eq, zz_lt0, zz_ge0, zz_gt0, zz_le0, zz_eq0, zz_m1lt, zz_m1ge, zz_m1eq, bI_eq0, decide_eq_false_iff_not, decide_eq_true_eq, Decidable.not_not, not_true_eq_false, not_false_eq_true, Nat.not_lt, Nat.not_le, Bool.not_eq_false, Bool.not_eq_true] at c_36
            refine V.iload_n dR_open_39 rfl ?_
            refine V.goto (tgt := 44) dR_open_40 (by decide) ?_
            refine V.putk dR_open_44 (by omega) (by assumption) p_R_32_4 rfl rfl ?_
            intro h3 e3
            have hI3 : RI G h3 o T p 0 hand (some e) gone ents bl := by (rw [e3]; exact hI2.op_ rfl (fun x z => by (cases z; omega)))
            have hF3 : FrO o h h3 := by (rw [e3]; exact hF2.put (by omega))
            obtain ⟨hSv, hPv, hTv, hHv, hOv, hgv, hEv, hBv, hopv⟩ := id hI3
            obtain ⟨hzv, hk0v, hk1v, hk2v, hk3v, hk4v, hk5v, hk6v, hk7v, hk8v, hf0v, hf2v, hf3v, hf4v, hf5v, hf6v, hf12v, hf13v⟩ := id hSv
            obtain ⟨hlnv, hppv, hl2v, hpv⟩ := id hPv
            obtain ⟨hkdv, hkd2v, hinv, hin2v, hnsv, hns2v, hnmv, hnm2v⟩ := id hTv
            obtain ⟨hhandv, hhlv⟩ := id hHv
            first | refine V.aload_n dR_open_47 rfl ?_ | refine V.aload_nN dR_open_47 rfl ?_
            refine V.iconst (v := (nI 0)) dR_open_48 (by decide) ?_
            refine V.putk dR_open_49 (by omega) (by assumption) p_R_83_4 rfl rfl ?_
            intro h4 e4
            have hI4 : RI G h4 o T p 0 hand (some e) false ents bl := by (rw [e4]; exact hI3.gone_ rfl)
            have hF4 : FrO o h h4 := by (rw [e4]; exact hF3.put (by omega))
            obtain ⟨hSw, hPw, hTw, hHw, hOw, hgw, hEw, hBw, hopw⟩ := id hI4
            obtain ⟨hzw, hk0w, hk1w, hk2w, hk3w, hk4w, hk5w, hk6w, hk7w, hk8w, hf0w, hf2w, hf3w, hf4w, hf5w, hf6w, hf12w, hf13w⟩ := id hSw
            obtain ⟨hlnw, hppw, hl2w, hpw⟩ := id hPw
            obtain ⟨hkdw, hkd2w, hinw, hin2w, hnsw, hns2w, hnmw, hnm2w⟩ := id hTw
            obtain ⟨hhandw, hhlw⟩ := id hHw
            have hO9 : h4.2.1 o 9 = .int (nI e) := hOw
            first | refine V.aload_n dR_open_52 rfl ?_ | refine V.aload_nN dR_open_52 rfl ?_
            refine V.getk dR_open_53 (by omega) (by assumption) f_R_32_4 hO9 ?_
            refine V.if_lt (tgt := 63) dR_open_56 (by decide) (fun c_56 => ?_) (fun c_56 => ?_)
            · try simp (disch := omega) only [nI_ltI, nI_leI, nI_eq, zz_lt0, zz_ge0, zz_gt0, zz_le0, zz_eq0, zz_m1lt, zz_m1ge, zz_m1eq, bI_eq0, decide_eq_false_iff_not, decide_eq_true_eq, Decidable.not_not, not_true_eq_false, not_false_eq_true, Nat.not_lt, Nat.not_le, Bool.not_eq_false, Bool.not_eq_true] at c_56
              all_goals omega
            · try simp (disch := omega) only [nI_ltI, nI_leI, nI_eq, zz_lt0, zz_ge0, zz_gt0, zz_le0, zz_eq0, zz_m1lt, zz_m1ge, zz_m1eq, bI_eq0, decide_eq_false_iff_not, decide_eq_true_eq, Decidable.not_not, not_true_eq_false, not_false_eq_true, Nat.not_lt, Nat.not_le, Bool.not_eq_false, Bool.not_eq_true] at c_56
              refine V.iconst (v := (nI 1)) dR_open_59 (by decide) ?_
              refine V.goto (tgt := 64) dR_open_60 (by decide) ?_
              refine V.ireturn dR_open_64 rfl rfl ?_
              exact qB e hr hk1e h4 hI4 hF4
      · try simp (disch := omega) only [nI_ltI, nI_leI, nI_eq, zz_lt0, zz_ge0, zz_gt0, zz_le0, zz_eq0, zz_m1lt, zz_m1ge, zz_m1eq, bI_eq0, decide_eq_false_iff_not, decide_eq_true_eq, Decidable.not_not, not_true_eq_false, not_false_eq_true, Nat.not_lt, Nat.not_le, Bool.not_eq_false, Bool.not_eq_true] at c_10
        all_goals omega
    · first | refine V.aload_n dR_open_0 rfl ?_ | refine V.aload_nN dR_open_0 rfl ?_
      first | refine V.aload_n dR_open_1 rfl ?_ | refine V.aload_nN dR_open_1 rfl ?_
      refine V.getk dR_open_2 (by omega) (by assumption) f_R_44_4 (by assumption) ?_
      refine V.callVk (kd := 4) 0 _ 0 _ [_] dR_open_5 okR_lead n_R_65 (by omega) (by assumption) rfl imR_lead seR_lead_R (by decide) (by decide) rfl rfl (Nat.le_of_ble_eq_true rfl) (Nat.le_of_ble_eq_true rfl) (Nat.le_of_eq (Nat.zero_add _)) (Nat.le_of_eq (Nat.zero_add _)) (kR_lead hS hP hT hH (by omega) ?_)
      rw [hr]
      show V G mR_open 8 _ [.int (nI e)] h 0 0 Q
      refine V.istore_n dR_open_8 (by decide) ?_
      refine V.iload_n dR_open_9 rfl ?_
      refine V.if_ge (tgt := 19) dR_open_10 (by decide) (fun c_10 => ?_) (fun c_10 => ?_)
      · try simp (disch := omega) only [nI_ltI, nI_leI, nI_eq, zz_lt0, zz_ge0, zz_gt0, zz_le0, zz_eq0, zz_m1lt, zz_m1ge, zz_m1eq, bI_eq0, decide_eq_false_iff_not, decide_eq_true_eq, Decidable.not_not, not_true_eq_false, not_false_eq_true, Nat.not_lt, Nat.not_le, Bool.not_eq_false, Bool.not_eq_true] at c_10
        first | refine V.aload_n dR_open_19 rfl ?_ | refine V.aload_nN dR_open_19 rfl ?_
        refine V.iconst (v := (nI 0)) dR_open_20 (by decide) ?_
        refine V.putk dR_open_21 (by omega) (by assumption) p_R_44_4 rfl rfl ?_
        intro h2 e2
        have hI2 : RI G h2 o T p 0 hand op gone ents bl := by (rw [e2]; exact hI.len)
        have hF2 : FrO o h h2 := by (rw [e2]; exact FrO.rf.put (by omega))
        obtain ⟨hSu, hPu, hTu, hHu, hOu, hgu, hEu, hBu, hopu⟩ := id hI2
        obtain ⟨hzu, hk0u, hk1u, hk2u, hk3u, hk4u, hk5u, hk6u, hk7u, hk8u, hf0u, hf2u, hf3u, hf4u, hf5u, hf6u, hf12u, hf13u⟩ := id hSu
        obtain ⟨hlnu, hppu, hl2u, hpu⟩ := id hPu
        obtain ⟨hkdu, hkd2u, hinu, hin2u, hnsu, hns2u, hnmu, hnm2u⟩ := id hTu
        obtain ⟨hhandu, hhlu⟩ := id hHu
        first | refine V.aload_n dR_open_24 rfl ?_ | refine V.aload_nN dR_open_24 rfl ?_
        refine V.iload_n dR_open_25 rfl ?_
        refine V.if_lt (tgt := 43) dR_open_26 (by decide) (fun c_26 => ?_) (fun c_26 => ?_)
        · try simp (disch := omega) only [nI_ltI, nI_leI, nI_eq, zz_lt0, zz_ge0, zz_gt0, zz_le0, zz_eq0, zz_m1lt, zz_m1ge, zz_m1eq, bI_eq0, decide_eq_false_iff_not, decide_eq_true_eq, Decidable.not_not, not_true_eq_false, not_false_eq_true, Nat.not_lt, Nat.not_le, Bool.not_eq_false, Bool.not_eq_true] at c_26
          all_goals omega
        · try simp (disch := omega) only [nI_ltI, nI_leI, nI_eq, zz_lt0, zz_ge0, zz_gt0, zz_le0, zz_eq0, zz_m1lt, zz_m1ge, zz_m1eq, bI_eq0, decide_eq_false_iff_not, decide_eq_true_eq, Decidable.not_not, not_true_eq_false, not_false_eq_true, Nat.not_lt, Nat.not_le, Bool.not_eq_false, Bool.not_eq_true] at c_26
          first | refine V.aload_n dR_open_29 rfl ?_ | refine V.aload_nN dR_open_29 rfl ?_
          refine V.getk dR_open_30 (by omega) (by assumption) f_R_13_4 (by assumption) ?_
          refine V.iload_n dR_open_33 rfl ?_
          refine V.ialoadN dR_open_34 (by omega) (by assumption) (by omega) (hkdu e he) ?_
          refine V.iconst (v := (nI 1)) dR_open_35 (by decide) ?_
          refine V.icmp_ne (tgt := 43) dR_open_36 (by decide) (fun c_36 => ?_) (fun c_36 => ?_)
          · try simp (disch := omega) only [nI_ltI, nI_leI, nI_eq, zz_lt0, zz_ge0, zz_gt0, zz_le0, zz_eq0, zz_m1lt, zz_m1ge, zz_m1eq, bI_eq0, decide_eq_false_iff_not, decide_eq_true_eq, Decidable.not_not, not_true_eq_false, not_false_eq_true, Nat.not_lt, Nat.not_le, Bool.not_eq_false, Bool.not_eq_true] at c_36
            refine V.iconst (v := (-1)) dR_open_43 (by decide) ?_
            refine V.putk dR_open_44 (by omega) (by assumption) p_R_32_4 rfl rfl ?_
            intro h3 e3
            have hI3 : RI G h3 o T p 0 hand none gone ents bl := by (rw [e3]; exact hI2.op_ rfl (fun e z => by (cases z)))
            have hF3 : FrO o h h3 := by (rw [e3]; exact hF2.put (by omega))
            obtain ⟨hSv, hPv, hTv, hHv, hOv, hgv, hEv, hBv, hopv⟩ := id hI3
            obtain ⟨hzv, hk0v, hk1v, hk2v, hk3v, hk4v, hk5v, hk6v, hk7v, hk8v, hf0v, hf2v, hf3v, hf4v, hf5v, hf6v, hf12v, hf13v⟩ := id hSv
            obtain ⟨hlnv, hppv, hl2v, hpv⟩ := id hPv
            obtain ⟨hkdv, hkd2v, hinv, hin2v, hnsv, hns2v, hnmv, hnm2v⟩ := id hTv
            obtain ⟨hhandv, hhlv⟩ := id hHv
            first | refine V.aload_n dR_open_47 rfl ?_ | refine V.aload_nN dR_open_47 rfl ?_
            refine V.iconst (v := (nI 0)) dR_open_48 (by decide) ?_
            refine V.putk dR_open_49 (by omega) (by assumption) p_R_83_4 rfl rfl ?_
            intro h4 e4
            have hI4 : RI G h4 o T p 0 hand none false ents bl := by (rw [e4]; exact hI3.gone_ rfl)
            have hF4 : FrO o h h4 := by (rw [e4]; exact hF3.put (by omega))
            obtain ⟨hSw, hPw, hTw, hHw, hOw, hgw, hEw, hBw, hopw⟩ := id hI4
            obtain ⟨hzw, hk0w, hk1w, hk2w, hk3w, hk4w, hk5w, hk6w, hk7w, hk8w, hf0w, hf2w, hf3w, hf4w, hf5w, hf6w, hf12w, hf13w⟩ := id hSw
            obtain ⟨hlnw, hppw, hl2w, hpw⟩ := id hPw
            obtain ⟨hkdw, hkd2w, hinw, hin2w, hnsw, hns2w, hnmw, hnm2w⟩ := id hTw
            obtain ⟨hhandw, hhlw⟩ := id hHw
            have hO9 : h4.2.1 o 9 = .int (-1) := hOw
            first | refine V.aload_n dR_open_52 rfl ?_ | refine V.aload_nN dR_open_52 rfl ?_
            refine V.getk dR_open_53 (by omega) (by assumption) f_R_32_4 hO9 ?_
            refine V.if_lt (tgt := 63) dR_open_56 (by decide) (fun c_56 => ?_) (fun c_56 => ?_)
            · try simp only [zz_m1lt, zz_m1ge, not_true_eq_false, not_false_eq_true] at c_56
              refine V.iconst (v := (nI 0)) dR_open_63 (by decide) ?_
              refine V.ireturn dR_open_64 rfl rfl ?_
              exact qA (Or.inl ⟨e, hr, hk1e⟩) h4 hI4 hF4
            · try simp only [zz_m1lt, zz_m1ge, not_true_eq_false, not_false_eq_true] at c_56
              all_goals omega
          · try simp (disch := omega) only [nI_ltI, nI_leI, nI_eq, zz_lt0, zz_ge0, zz_gt0, zz_le0, zz_eq0, zz_m1lt, zz_m1ge, zz_m1eq, bI_eq0, decide_eq_false_iff_not, decide_eq_true_eq, Decidable.not_not, not_true_eq_false, not_false_eq_true, Nat.not_lt, Nat.not_le, Bool.not_eq_false, Bool.not_eq_true] at c_36
            all_goals omega
      · try simp (disch := omega) only [nI_ltI, nI_leI, nI_eq, zz_lt0, zz_ge0, zz_gt0, zz_le0, zz_eq0, zz_m1lt, zz_m1ge, zz_m1eq, bI_eq0, decide_eq_false_iff_not, decide_eq_true_eq, Decidable.not_not, not_true_eq_false, not_false_eq_true, Nat.not_lt, Nat.not_le, Bool.not_eq_false, Bool.not_eq_true] at c_10
        all_goals omega
  | none =>
    first | refine V.aload_n dR_open_0 rfl ?_ | refine V.aload_nN dR_open_0 rfl ?_
    first | refine V.aload_n dR_open_1 rfl ?_ | refine V.aload_nN dR_open_1 rfl ?_
    refine V.getk dR_open_2 (by omega) (by assumption) f_R_44_4 (by assumption) ?_
    refine V.callVk (kd := 4) 0 _ 0 _ [_] dR_open_5 okR_lead n_R_65 (by omega) (by assumption) rfl imR_lead seR_lead_R (by decide) (by decide) rfl rfl (Nat.le_of_ble_eq_true rfl) (Nat.le_of_ble_eq_true rfl) (Nat.le_of_eq (Nat.zero_add _)) (Nat.le_of_eq (Nat.zero_add _)) (kR_lead hS hP hT hH (by omega) ?_)
    rw [hr]
    show V G mR_open 8 _ [.int (-1)] h 0 0 Q
    refine V.istore_n dR_open_8 (by decide) ?_
    refine V.iload_n dR_open_9 rfl ?_
    refine V.if_ge (tgt := 19) dR_open_10 (by decide) (fun c_10 => ?_) (fun c_10 => ?_)
    · try simp only [zz_m1lt, zz_m1ge, not_true_eq_false, not_false_eq_true] at c_10
      all_goals omega
    · try simp only [zz_m1lt, zz_m1ge, not_true_eq_false, not_false_eq_true] at c_10
      first | refine V.aload_n dR_open_13 rfl ?_ | refine V.aload_nN dR_open_13 rfl ?_
      refine V.iconst (v := (nI 1)) dR_open_14 (by decide) ?_
      refine V.callVk (kd := 4) 0 _ 0 _ [_] dR_open_15 okR_made n_R_80 (by omega) (by assumption) rfl imR_made seR_made_R (by decide) (by decide) rfl rfl (Nat.le_of_ble_eq_true rfl) (Nat.le_of_ble_eq_true rfl) (Nat.le_of_eq (Nat.zero_add _)) (Nat.le_of_eq (Nat.zero_add _)) (kR_made hI hhd h00 hen hbk (by omega) (fun hc => ?_) (fun d hc e he1 he2 hfe hfst h9 hI9 hF9 => ?_))
      · show V G mR_open 18 _ [.int (-1)] h 0 0 Q
        refine V.istore_n dR_open_18 (by decide) ?_
        first | refine V.aload_n dR_open_19 rfl ?_ | refine V.aload_nN dR_open_19 rfl ?_
        refine V.iconst (v := (nI 0)) dR_open_20 (by decide) ?_
        refine V.putk dR_open_21 (by omega) (by assumption) p_R_44_4 rfl rfl ?_
        intro h2 e2
        have hI2 : RI G h2 o T p 0 hand op gone ents bl := by (rw [e2]; exact hI.len)
        have hF2 : FrO o h h2 := by (rw [e2]; exact FrO.rf.put (by omega))
        obtain ⟨hSu, hPu, hTu, hHu, hOu, hgu, hEu, hBu, hopu⟩ := id hI2
        obtain ⟨hzu, hk0u, hk1u, hk2u, hk3u, hk4u, hk5u, hk6u, hk7u, hk8u, hf0u, hf2u, hf3u, hf4u, hf5u, hf6u, hf12u, hf13u⟩ := id hSu
        obtain ⟨hlnu, hppu, hl2u, hpu⟩ := id hPu
        obtain ⟨hkdu, hkd2u, hinu, hin2u, hnsu, hns2u, hnmu, hnm2u⟩ := id hTu
        obtain ⟨hhandu, hhlu⟩ := id hHu
        first | refine V.aload_n dR_open_24 rfl ?_ | refine V.aload_nN dR_open_24 rfl ?_
        refine V.iload_n dR_open_25 rfl ?_
        refine V.if_lt (tgt := 43) dR_open_26 (by decide) (fun c_26 => ?_) (fun c_26 => ?_)
        · try simp only [zz_m1lt, zz_m1ge, not_true_eq_false, not_false_eq_true] at c_26
          refine V.iconst (v := (-1)) dR_open_43 (by decide) ?_
          refine V.putk dR_open_44 (by omega) (by assumption) p_R_32_4 rfl rfl ?_
          intro h3 e3
          have hI3 : RI G h3 o T p 0 hand none gone ents bl := by (rw [e3]; exact hI2.op_ rfl (fun e z => by (cases z)))
          have hF3 : FrO o h h3 := by (rw [e3]; exact hF2.put (by omega))
          obtain ⟨hSv, hPv, hTv, hHv, hOv, hgv, hEv, hBv, hopv⟩ := id hI3
          obtain ⟨hzv, hk0v, hk1v, hk2v, hk3v, hk4v, hk5v, hk6v, hk7v, hk8v, hf0v, hf2v, hf3v, hf4v, hf5v, hf6v, hf12v, hf13v⟩ := id hSv
          obtain ⟨hlnv, hppv, hl2v, hpv⟩ := id hPv
          obtain ⟨hkdv, hkd2v, hinv, hin2v, hnsv, hns2v, hnmv, hnm2v⟩ := id hTv
          obtain ⟨hhandv, hhlv⟩ := id hHv
          first | refine V.aload_n dR_open_47 rfl ?_ | refine V.aload_nN dR_open_47 rfl ?_
          refine V.iconst (v := (nI 0)) dR_open_48 (by decide) ?_
          refine V.putk dR_open_49 (by omega) (by assumption) p_R_83_4 rfl rfl ?_
          intro h4 e4
          have hI4 : RI G h4 o T p 0 hand none false ents bl := by (rw [e4]; exact hI3.gone_ rfl)
          have hF4 : FrO o h h4 := by (rw [e4]; exact hF3.put (by omega))
          obtain ⟨hSw, hPw, hTw, hHw, hOw, hgw, hEw, hBw, hopw⟩ := id hI4
          obtain ⟨hzw, hk0w, hk1w, hk2w, hk3w, hk4w, hk5w, hk6w, hk7w, hk8w, hf0w, hf2w, hf3w, hf4w, hf5w, hf6w, hf12w, hf13w⟩ := id hSw
          obtain ⟨hlnw, hppw, hl2w, hpw⟩ := id hPw
          obtain ⟨hkdw, hkd2w, hinw, hin2w, hnsw, hns2w, hnmw, hnm2w⟩ := id hTw
          obtain ⟨hhandw, hhlw⟩ := id hHw
          have hO9 : h4.2.1 o 9 = .int (-1) := hOw
          first | refine V.aload_n dR_open_52 rfl ?_ | refine V.aload_nN dR_open_52 rfl ?_
          refine V.getk dR_open_53 (by omega) (by assumption) f_R_32_4 hO9 ?_
          refine V.if_lt (tgt := 63) dR_open_56 (by decide) (fun c_56 => ?_) (fun c_56 => ?_)
          · try simp only [zz_m1lt, zz_m1ge, not_true_eq_false, not_false_eq_true] at c_56
            refine V.iconst (v := (nI 0)) dR_open_63 (by decide) ?_
            refine V.ireturn dR_open_64 rfl rfl ?_
            exact qA (Or.inr ⟨hr, hc⟩) h4 hI4 hF4
          · try simp only [zz_m1lt, zz_m1ge, not_true_eq_false, not_false_eq_true] at c_56
            all_goals omega
        · try simp only [zz_m1lt, zz_m1ge, not_true_eq_false, not_false_eq_true] at c_26
          all_goals omega
      · have hkne : (s_new T e 1 d p len).1 e = 1 := fu_s
        obtain ⟨hSb, hPb, hTb, hHb, hOb, hgb, hEb, hBb, hopb⟩ := id hI9
        obtain ⟨hzb, hk0b, hk1b, hk2b, hk3b, hk4b, hk5b, hk6b, hk7b, hk8b, hf0b, hf2b, hf3b, hf4b, hf5b, hf6b, hf12b, hf13b⟩ := id hSb
        obtain ⟨hlnb, hppb, hl2b, hpb⟩ := id hPb
        obtain ⟨hkdb, hkd2b, hinb, hin2b, hnsb, hns2b, hnmb, hnm2b⟩ := id hTb
        obtain ⟨hhandb, hhlb⟩ := id hHb
        refine V.istore_n dR_open_18 (by decide) ?_
        first | refine V.aload_n dR_open_19 rfl ?_ | refine V.aload_nN dR_open_19 rfl ?_
        refine V.iconst (v := (nI 0)) dR_open_20 (by decide) ?_
        refine V.putk dR_open_21 (by omega) (by assumption) p_R_44_4 rfl rfl ?_
        intro h2 e2
        have hI2 : RI G h2 o (s_new T e 1 d p len) p 0 hand op gone (ents + 1) bl := by (rw [e2]; exact hI9.len)
        have hF2 : FrO o h h2 := by (rw [e2]; exact hF9.put (by omega))
        obtain ⟨hSu, hPu, hTu, hHu, hOu, hgu, hEu, hBu, hopu⟩ := id hI2
        obtain ⟨hzu, hk0u, hk1u, hk2u, hk3u, hk4u, hk5u, hk6u, hk7u, hk8u, hf0u, hf2u, hf3u, hf4u, hf5u, hf6u, hf12u, hf13u⟩ := id hSu
        obtain ⟨hlnu, hppu, hl2u, hpu⟩ := id hPu
        obtain ⟨hkdu, hkd2u, hinu, hin2u, hnsu, hns2u, hnmu, hnm2u⟩ := id hTu
        obtain ⟨hhandu, hhlu⟩ := id hHu
        first | refine V.aload_n dR_open_24 rfl ?_ | refine V.aload_nN dR_open_24 rfl ?_
        refine V.iload_n dR_open_25 rfl ?_
        refine V.if_lt (tgt := 43) dR_open_26 (by decide) (fun c_26 => ?_) (fun c_26 => ?_)
        · try simp (disch := omega) only [nI_ltI, nI_leI, nI_eq, zz_lt0, zz_ge0, zz_gt0, zz_le0, zz_eq0, zz_m1lt, zz_m1ge, zz_m1eq, bI_eq0, decide_eq_false_iff_not, decide_eq_true_eq, Decidable.not_not, not_true_eq_false, not_false_eq_true, Nat.not_lt, Nat.not_le, Bool.not_eq_false, Bool.not_eq_true] at c_26
          all_goals omega
        · try simp (disch := omega) only [nI_ltI, nI_leI, nI_eq, zz_lt0, zz_ge0, zz_gt0, zz_le0, zz_eq0, zz_m1lt, zz_m1ge, zz_m1eq, bI_eq0, decide_eq_false_iff_not, decide_eq_true_eq, Decidable.not_not, not_true_eq_false, not_false_eq_true, Nat.not_lt, Nat.not_le, Bool.not_eq_false, Bool.not_eq_true] at c_26
          first | refine V.aload_n dR_open_29 rfl ?_ | refine V.aload_nN dR_open_29 rfl ?_
          refine V.getk dR_open_30 (by omega) (by assumption) f_R_13_4 (by assumption) ?_
          refine V.iload_n dR_open_33 rfl ?_
          refine V.ialoadN dR_open_34 (by omega) (by assumption) (by omega) (hkdu e he2) ?_
          refine V.iconst (v := (nI 1)) dR_open_35 (by decide) ?_
          refine V.icmp_ne (tgt := 43) dR_open_36 (by decide) (fun c_36 => ?_) (fun c_36 => ?_)
          · try simp (disch := omega) only [nI_ltI, nI_leI, nI_eq, zz_lt0, zz_ge0, zz_gt0, zz_le0, zz_eq0, zz_m1lt, zz_m1ge, zz_m1eq, bI_eq0, decide_eq_false_iff_not, decide_eq_true_eq, Decidable.not_not, not_true_eq_false, not_false_eq_true, Nat.not_lt, Nat.not_le, Bool.not_eq_false, Bool.not_eq_true] at c_36
            all_goals omega
          · try simp (disch := omega) only [nI_ltI, nI_leI, nI_eq, zz_lt0, zz_ge0, zz_gt0, zz_le0, zz_eq0, zz_m1lt, zz_m1ge, zz_m1eq, bI_eq0, decide_eq_false_iff_not, decide_eq_true_eq, Decidable.not_not, not_true_eq_false, not_false_eq_true, Nat.not_lt, Nat.not_le, Bool.not_eq_false, Bool.not_eq_true] at c_36
            refine V.iload_n dR_open_39 rfl ?_
            refine V.goto (tgt := 44) dR_open_40 (by decide) ?_
            refine V.putk dR_open_44 (by omega) (by assumption) p_R_32_4 rfl rfl ?_
            intro h3 e3
            have hI3 : RI G h3 o (s_new T e 1 d p len) p 0 hand (some e) gone (ents + 1) bl := by (rw [e3]; exact hI2.op_ rfl (fun x z => by (cases z; omega)))
            have hF3 : FrO o h h3 := by (rw [e3]; exact hF2.put (by omega))
            obtain ⟨hSv, hPv, hTv, hHv, hOv, hgv, hEv, hBv, hopv⟩ := id hI3
            obtain ⟨hzv, hk0v, hk1v, hk2v, hk3v, hk4v, hk5v, hk6v, hk7v, hk8v, hf0v, hf2v, hf3v, hf4v, hf5v, hf6v, hf12v, hf13v⟩ := id hSv
            obtain ⟨hlnv, hppv, hl2v, hpv⟩ := id hPv
            obtain ⟨hkdv, hkd2v, hinv, hin2v, hnsv, hns2v, hnmv, hnm2v⟩ := id hTv
            obtain ⟨hhandv, hhlv⟩ := id hHv
            first | refine V.aload_n dR_open_47 rfl ?_ | refine V.aload_nN dR_open_47 rfl ?_
            refine V.iconst (v := (nI 0)) dR_open_48 (by decide) ?_
            refine V.putk dR_open_49 (by omega) (by assumption) p_R_83_4 rfl rfl ?_
            intro h4 e4
            have hI4 : RI G h4 o (s_new T e 1 d p len) p 0 hand (some e) false (ents + 1) bl := by (rw [e4]; exact hI3.gone_ rfl)
            have hF4 : FrO o h h4 := by (rw [e4]; exact hF3.put (by omega))
            obtain ⟨hSw, hPw, hTw, hHw, hOw, hgw, hEw, hBw, hopw⟩ := id hI4
            obtain ⟨hzw, hk0w, hk1w, hk2w, hk3w, hk4w, hk5w, hk6w, hk7w, hk8w, hf0w, hf2w, hf3w, hf4w, hf5w, hf6w, hf12w, hf13w⟩ := id hSw
            obtain ⟨hlnw, hppw, hl2w, hpw⟩ := id hPw
            obtain ⟨hkdw, hkd2w, hinw, hin2w, hnsw, hns2w, hnmw, hnm2w⟩ := id hTw
            obtain ⟨hhandw, hhlw⟩ := id hHw
            have hO9 : h4.2.1 o 9 = .int (nI e) := hOw
            first | refine V.aload_n dR_open_52 rfl ?_ | refine V.aload_nN dR_open_52 rfl ?_
            refine V.getk dR_open_53 (by omega) (by assumption) f_R_32_4 hO9 ?_
            refine V.if_lt (tgt := 63) dR_open_56 (by decide) (fun c_56 => ?_) (fun c_56 => ?_)
            · try simp (disch := omega) only [nI_ltI, nI_leI, nI_eq, zz_lt0, zz_ge0, zz_gt0, zz_le0, zz_eq0, zz_m1lt, zz_m1ge, zz_m1eq, bI_eq0, decide_eq_false_iff_not, decide_eq_true_eq, Decidable.not_not, not_true_eq_false, not_false_eq_true, Nat.not_lt, Nat.not_le, Bool.not_eq_false, Bool.not_eq_true] at c_56
              all_goals omega
            · try simp (disch := omega) only [nI_ltI, nI_leI, nI_eq, zz_lt0, zz_ge0, zz_gt0, zz_le0, zz_eq0, zz_m1lt, zz_m1ge, zz_m1eq, bI_eq0, decide_eq_false_iff_not, decide_eq_true_eq, Decidable.not_not, not_true_eq_false, not_false_eq_true, Nat.not_lt, Nat.not_le, Bool.not_eq_false, Bool.not_eq_true] at c_56
              refine V.iconst (v := (nI 1)) dR_open_59 (by decide) ?_
              refine V.goto (tgt := 64) dR_open_60 (by decide) ?_
              refine V.ireturn dR_open_64 rfl rfl ?_
              exact qC hr d hc e he1 he2 hfe hfst h4 hI4 hF4
      skip
set_option maxHeartbeats 4000000 in
set_option maxRecDepth 100000 in
/-- PathTreeModel.removeFile -/
theorem kR_removeFile {G : GG} {h : HH} {o : Nat} {T : TT} {p : Nat → Nat} {len hand : Nat} {op : Option Nat} {gone : Bool} {ents : Nat} {bl : List (Nat × Nat)} {Q : Option Value → HH → Prop} {e : Nat} (hI : RI G h o T p len hand op gone ents bl) (he : e < 300) (hen : 1 ≤ ents ∧ ents ≤ 300) (hQ : ∀ h', RI G h' o (fu T.1 e 0, T.2) p len hand op (gone || decide (op = some e)) (ents - 1) (s_but bl e) → FrO o h h' → Q none h') : V G mR_removeFile 0 (lv_args 0 [.ref o, .int (nI e)]) [] h 0 0 Q := by
  obtain ⟨hS, hP, hT, hH, hO, hg, hE, hB, hop⟩ := id hI
  obtain ⟨hz, hk0, hk1, hk2, hk3, hk4, hk5, hk6, hk7, hk8, hf0, hf2, hf3, hf4, hf5, hf6, hf12, hf13⟩ := id hS
  obtain ⟨hln, hpp, hl2, hp⟩ := id hP
  obtain ⟨hkd, hkd2, hin, hin2, hns, hns2, hnm, hnm2⟩ := id hT
  obtain ⟨hhand, hhl⟩ := id hH
  cases hop2 : op with
  | none =>
    subst hop2
    have q : ∀ g : Bool, (g || decide ((none : Option Nat) = some e)) = g := fun g => by (rw [decide_eq_false (fun z => by (cases z)), Bool.or_false])
    rw [q] at hQ
    first | refine V.aload_n dR_removeFile_0 rfl ?_ | refine V.aload_nN dR_removeFile_0 rfl ?_
    refine V.iload_n dR_removeFile_1 rfl ?_
    refine V.callVk (kd := 4) 0 _ 0 _ [_] dR_removeFile_2 okR_lose n_R_90 (by omega) (by assumption) rfl imR_lose seR_lose_R (by decide) (by decide) rfl rfl (Nat.le_of_ble_eq_true rfl) (Nat.le_of_ble_eq_true rfl) (Nat.le_of_eq (Nat.zero_add _)) (Nat.le_of_eq (Nat.zero_add _)) (kR_lose hI he (fun h9 hI9 hF9 => ?_))
    obtain ⟨hSb, hPb, hTb, hHb, hOb, hgb, hEb, hBb, hopb⟩ := id hI9
    obtain ⟨hzb, hk0b, hk1b, hk2b, hk3b, hk4b, hk5b, hk6b, hk7b, hk8b, hf0b, hf2b, hf3b, hf4b, hf5b, hf6b, hf12b, hf13b⟩ := id hSb
    obtain ⟨hlnb, hppb, hl2b, hpb⟩ := id hPb
    obtain ⟨hkdb, hkd2b, hinb, hin2b, hnsb, hns2b, hnmb, hnm2b⟩ := id hTb
    obtain ⟨hhandb, hhlb⟩ := id hHb
    refine V.istore_n dR_removeFile_5 (by decide) ?_
    first | refine V.aload_n dR_removeFile_6 rfl ?_ | refine V.aload_nN dR_removeFile_6 rfl ?_
    refine V.getk dR_removeFile_7 (by omega) (by assumption) f_R_13_4 (by assumption) ?_
    refine V.iload_n dR_removeFile_10 rfl ?_
    refine V.iconst (v := (nI 0)) dR_removeFile_11 (by decide) ?_
    refine V.iastoreN dR_removeFile_12 (by omega) (by assumption) (by omega) rfl ?_
    intro h12 e12
    have hI12 : RI G h12 o (fu T.1 e 0, T.2) p len hand none gone ents (s_but bl e) := by (rw [e12]; exact hI9.kind (by omega))
    have hF12 : FrO o h h12 := by (rw [e12]; exact hF9.put (by omega))
    obtain ⟨hSc, hPc, hTc, hHc, hOc, hgc, hEc, hBc, hopc⟩ := id hI12
    obtain ⟨hzc, hk0c, hk1c, hk2c, hk3c, hk4c, hk5c, hk6c, hk7c, hk8c, hf0c, hf2c, hf3c, hf4c, hf5c, hf6c, hf12c, hf13c⟩ := id hSc
    obtain ⟨hlnc, hppc, hl2c, hpc⟩ := id hPc
    obtain ⟨hkdc, hkd2c, hinc, hin2c, hnsc, hns2c, hnmc, hnm2c⟩ := id hTc
    obtain ⟨hhandc, hhlc⟩ := id hHc
    first | refine V.aload_n dR_removeFile_13 rfl ?_ | refine V.aload_nN dR_removeFile_13 rfl ?_
    refine V.dup dR_removeFile_14 rfl ?_
    refine V.getk dR_removeFile_15 (by omega) (by assumption) f_R_28_4 (by assumption) ?_
    refine V.iconst (v := (nI 1)) dR_removeFile_18 (by decide) ?_
    refine V.isubN dR_removeFile_19 (by omega) ?_
    refine V.putk dR_removeFile_20 (by omega) (by assumption) p_R_28_4 rfl rfl ?_
    intro h20 e20
    have hI20 : RI G h20 o (fu T.1 e 0, T.2) p len hand none gone (ents - 1) (s_but bl e) := by (rw [e20]; exact hI12.ents_)
    have hF20 : FrO o h h20 := by (rw [e20]; exact hF12.put (by omega))
    obtain ⟨hSd, hPd, hTd, hHd, hOd, hgd, hEd, hBd, hopd⟩ := id hI20
    obtain ⟨hzd, hk0d, hk1d, hk2d, hk3d, hk4d, hk5d, hk6d, hk7d, hk8d, hf0d, hf2d, hf3d, hf4d, hf5d, hf6d, hf12d, hf13d⟩ := id hSd
    obtain ⟨hlnd, hppd, hl2d, hpd⟩ := id hPd
    obtain ⟨hkdd, hkd2d, hind, hin2d, hnsd, hns2d, hnmd, hnm2d⟩ := id hTd
    obtain ⟨hhandd, hhld⟩ := id hHd
    first | refine V.aload_n dR_removeFile_23 rfl ?_ | refine V.aload_nN dR_removeFile_23 rfl ?_
    first | refine V.aload_n dR_removeFile_24 rfl ?_ | refine V.aload_nN dR_removeFile_24 rfl ?_
    refine V.getk dR_removeFile_25 (by omega) (by assumption) f_R_83_4 (by assumption) ?_
    refine V.if_ne (tgt := 39) dR_removeFile_28 (by decide) (fun c_28 => ?_) (fun c_28 => ?_)
    · try simp only [bI_eq0, Bool.not_eq_false] at c_28
      refine V.iconst (v := (nI 1)) dR_removeFile_39 (by decide) ?_
      refine V.goto (tgt := 44) dR_removeFile_40 (by decide) ?_
      refine V.putk dR_removeFile_44 (by omega) (by assumption) p_R_83_4 (by decide) (by decide) ?_
      intro h44 e44
      refine V.vreturn dR_removeFile_47 rfl ?_
      refine hQ h44 ?_ (by rw [e44]; exact hF20.put (by omega))
      rw [e44]
      refine hI20.gone_ ?_
      rw [c_28]; rfl
    · try simp only [bI_eq0, Bool.not_eq_false] at c_28
      refine V.iload_n dR_removeFile_31 rfl ?_
      first | refine V.aload_n dR_removeFile_32 rfl ?_ | refine V.aload_nN dR_removeFile_32 rfl ?_
      refine V.getk dR_removeFile_33 (by omega) (by assumption) f_R_32_4 (show h20.2.1 o 9 = .int (-1) from hOd) ?_
      refine V.icmp_ne (tgt := 43) dR_removeFile_36 (by decide) (fun c_36 => ?_) (fun c_36 => ?_)
      · try simp (disch := omega) only [zz_m1eq, not_false_eq_true, not_true_eq_false] at c_36
        refine V.iconst (v := (nI 0)) dR_removeFile_43 (by decide) ?_
        refine V.putk dR_removeFile_44 (by omega) (by assumption) p_R_83_4 (by decide) (by decide) ?_
        intro h44 e44
        refine V.vreturn dR_removeFile_47 rfl ?_
        refine hQ h44 ?_ (by rw [e44]; exact hF20.put (by omega))
        rw [e44]
        refine hI20.gone_ ?_
        rw [c_28]; rfl
      · try simp (disch := omega) only [zz_m1eq, not_false_eq_true, not_true_eq_false] at c_36
        all_goals omega
  | some x =>
    subst hop2
    have hx := hop x rfl
    first | refine V.aload_n dR_removeFile_0 rfl ?_ | refine V.aload_nN dR_removeFile_0 rfl ?_
    refine V.iload_n dR_removeFile_1 rfl ?_
    refine V.callVk (kd := 4) 0 _ 0 _ [_] dR_removeFile_2 okR_lose n_R_90 (by omega) (by assumption) rfl imR_lose seR_lose_R (by decide) (by decide) rfl rfl (Nat.le_of_ble_eq_true rfl) (Nat.le_of_ble_eq_true rfl) (Nat.le_of_eq (Nat.zero_add _)) (Nat.le_of_eq (Nat.zero_add _)) (kR_lose hI he (fun h9 hI9 hF9 => ?_))
    obtain ⟨hSb, hPb, hTb, hHb, hOb, hgb, hEb, hBb, hopb⟩ := id hI9
    obtain ⟨hzb, hk0b, hk1b, hk2b, hk3b, hk4b, hk5b, hk6b, hk7b, hk8b, hf0b, hf2b, hf3b, hf4b, hf5b, hf6b, hf12b, hf13b⟩ := id hSb
    obtain ⟨hlnb, hppb, hl2b, hpb⟩ := id hPb
    obtain ⟨hkdb, hkd2b, hinb, hin2b, hnsb, hns2b, hnmb, hnm2b⟩ := id hTb
    obtain ⟨hhandb, hhlb⟩ := id hHb
    refine V.istore_n dR_removeFile_5 (by decide) ?_
    first | refine V.aload_n dR_removeFile_6 rfl ?_ | refine V.aload_nN dR_removeFile_6 rfl ?_
    refine V.getk dR_removeFile_7 (by omega) (by assumption) f_R_13_4 (by assumption) ?_
    refine V.iload_n dR_removeFile_10 rfl ?_
    refine V.iconst (v := (nI 0)) dR_removeFile_11 (by decide) ?_
    refine V.iastoreN dR_removeFile_12 (by omega) (by assumption) (by omega) rfl ?_
    intro h12 e12
    have hI12 : RI G h12 o (fu T.1 e 0, T.2) p len hand (some x) gone ents (s_but bl e) := by (rw [e12]; exact hI9.kind (by omega))
    have hF12 : FrO o h h12 := by (rw [e12]; exact hF9.put (by omega))
    obtain ⟨hSc, hPc, hTc, hHc, hOc, hgc, hEc, hBc, hopc⟩ := id hI12
    obtain ⟨hzc, hk0c, hk1c, hk2c, hk3c, hk4c, hk5c, hk6c, hk7c, hk8c, hf0c, hf2c, hf3c, hf4c, hf5c, hf6c, hf12c, hf13c⟩ := id hSc
    obtain ⟨hlnc, hppc, hl2c, hpc⟩ := id hPc
    obtain ⟨hkdc, hkd2c, hinc, hin2c, hnsc, hns2c, hnmc, hnm2c⟩ := id hTc
    obtain ⟨hhandc, hhlc⟩ := id hHc
    first | refine V.aload_n dR_removeFile_13 rfl ?_ | refine V.aload_nN dR_removeFile_13 rfl ?_
    refine V.dup dR_removeFile_14 rfl ?_
    refine V.getk dR_removeFile_15 (by omega) (by assumption) f_R_28_4 (by assumption) ?_
    refine V.iconst (v := (nI 1)) dR_removeFile_18 (by decide) ?_
    refine V.isubN dR_removeFile_19 (by omega) ?_
    refine V.putk dR_removeFile_20 (by omega) (by assumption) p_R_28_4 rfl rfl ?_
    intro h20 e20
    have hI20 : RI G h20 o (fu T.1 e 0, T.2) p len hand (some x) gone (ents - 1) (s_but bl e) := by (rw [e20]; exact hI12.ents_)
    have hF20 : FrO o h h20 := by (rw [e20]; exact hF12.put (by omega))
    obtain ⟨hSd, hPd, hTd, hHd, hOd, hgd, hEd, hBd, hopd⟩ := id hI20
    obtain ⟨hzd, hk0d, hk1d, hk2d, hk3d, hk4d, hk5d, hk6d, hk7d, hk8d, hf0d, hf2d, hf3d, hf4d, hf5d, hf6d, hf12d, hf13d⟩ := id hSd
    obtain ⟨hlnd, hppd, hl2d, hpd⟩ := id hPd
    obtain ⟨hkdd, hkd2d, hind, hin2d, hnsd, hns2d, hnmd, hnm2d⟩ := id hTd
    obtain ⟨hhandd, hhld⟩ := id hHd
    first | refine V.aload_n dR_removeFile_23 rfl ?_ | refine V.aload_nN dR_removeFile_23 rfl ?_
    first | refine V.aload_n dR_removeFile_24 rfl ?_ | refine V.aload_nN dR_removeFile_24 rfl ?_
    refine V.getk dR_removeFile_25 (by omega) (by assumption) f_R_83_4 (by assumption) ?_
    refine V.if_ne (tgt := 39) dR_removeFile_28 (by decide) (fun c_28 => ?_) (fun c_28 => ?_)
    · try simp only [bI_eq0, Bool.not_eq_false] at c_28
      refine V.iconst (v := (nI 1)) dR_removeFile_39 (by decide) ?_
      refine V.goto (tgt := 44) dR_removeFile_40 (by decide) ?_
      refine V.putk dR_removeFile_44 (by omega) (by assumption) p_R_83_4 (by decide) (by decide) ?_
      intro h44 e44
      refine V.vreturn dR_removeFile_47 rfl ?_
      refine hQ h44 ?_ (by rw [e44]; exact hF20.put (by omega))
      rw [e44]
      refine hI20.gone_ ?_
      rw [c_28]
      first | rfl | (simp [bI, show x = e from c_36.symm]; done) | (simp [bI, show ¬ x = e from fun z => c_36 z.symm]; done)
    · try simp only [bI_eq0, Bool.not_eq_false] at c_28
      refine V.iload_n dR_removeFile_31 rfl ?_
      first | refine V.aload_n dR_removeFile_32 rfl ?_ | refine V.aload_nN dR_removeFile_32 rfl ?_
      refine V.getk dR_removeFile_33 (by omega) (by assumption) f_R_32_4 (show h20.2.1 o 9 = .int (nI x) from hOd) ?_
      refine V.icmp_ne (tgt := 43) dR_removeFile_36 (by decide) (fun c_36 => ?_) (fun c_36 => ?_)
      · try simp (disch := omega) only [nI_ltI, nI_leI, nI_eq, zz_lt0, zz_ge0, zz_gt0, zz_le0, zz_eq0, zz_m1lt, zz_m1ge, zz_m1eq, bI_eq0, decide_eq_false_iff_not, decide_eq_true_eq, Decidable.not_not, not_true_eq_false, not_false_eq_true, Nat.not_lt, Nat.not_le, Bool.not_eq_false, Bool.not_eq_true] at c_36
        refine V.iconst (v := (nI 0)) dR_removeFile_43 (by decide) ?_
        refine V.putk dR_removeFile_44 (by omega) (by assumption) p_R_83_4 (by decide) (by decide) ?_
        intro h44 e44
        refine V.vreturn dR_removeFile_47 rfl ?_
        refine hQ h44 ?_ (by rw [e44]; exact hF20.put (by omega))
        rw [e44]
        refine hI20.gone_ ?_
        rw [c_28]
        first | rfl | (simp [bI, show x = e from c_36.symm]; done) | (simp [bI, show ¬ x = e from fun z => c_36 z.symm]; done)
      · try simp (disch := omega) only [nI_ltI, nI_leI, nI_eq, zz_lt0, zz_ge0, zz_gt0, zz_le0, zz_eq0, zz_m1lt, zz_m1ge, zz_m1eq, bI_eq0, decide_eq_false_iff_not, decide_eq_true_eq, Decidable.not_not, not_true_eq_false, not_false_eq_true, Nat.not_lt, Nat.not_le, Bool.not_eq_false, Bool.not_eq_true] at c_36
        refine V.iconst (v := (nI 1)) dR_removeFile_39 (by decide) ?_
        refine V.goto (tgt := 44) dR_removeFile_40 (by decide) ?_
        refine V.putk dR_removeFile_44 (by omega) (by assumption) p_R_83_4 (by decide) (by decide) ?_
        intro h44 e44
        refine V.vreturn dR_removeFile_47 rfl ?_
        refine hQ h44 ?_ (by rw [e44]; exact hF20.put (by omega))
        rw [e44]
        refine hI20.gone_ ?_
        rw [c_28]
        first | rfl | (simp [bI, show x = e from c_36.symm]; done) | (simp [bI, show ¬ x = e from fun z => c_36 z.symm]; done)
set_option maxHeartbeats 4000000 in
set_option maxRecDepth 100000 in
/-- PathTreeModel.remove -/
theorem kR_remove {G : GG} {h : HH} {o : Nat} {T : TT} {p : Nat → Nat} {len hand : Nat} {op : Option Nat} {gone : Bool} {ents : Nat} {bl : List (Nat × Nat)} {Q : Option Value → HH → Prop} (hI : RI G h o T p len hand op gone ents bl) (hen : 1 ≤ ents ∧ ents ≤ 300) (h0 : (∀ e, s_lead T p hand len = some e → T.1 e ≠ 1) → ∀ h', RI G h' o T p 0 hand op gone ents bl → FrO o h h' → Q (some (.int (nI 0))) h') (h1 : ∀ e, s_lead T p hand len = some e → T.1 e = 1 → ∀ h', RI G h' o (fu T.1 e 0, T.2) p 0 hand op (gone || decide (op = some e)) (ents - 1) (s_but bl e) → FrO o h h' → Q (some (.int (nI 1))) h') : V G mR_remove 0 (lv_args 0 [.ref o]) [] h 0 0 Q := by
  obtain ⟨hS, hP, hT, hH, hO, hg, hE, hB, hop⟩ := id hI
  obtain ⟨hz, hk0, hk1, hk2, hk3, hk4, hk5, hk6, hk7, hk8, hf0, hf2, hf3, hf4, hf5, hf6, hf12, hf13⟩ := id hS
  obtain ⟨hln, hpp, hl2, hp⟩ := id hP
  obtain ⟨hkd, hkd2, hin, hin2, hns, hns2, hnm, hnm2⟩ := id hT
  obtain ⟨hhand, hhl⟩ := id hH
  cases hr : s_lead T p hand len with
  | none =>
    first | refine V.aload_n dR_remove_0 rfl ?_ | refine V.aload_nN dR_remove_0 rfl ?_
    first | refine V.aload_n dR_remove_1 rfl ?_ | refine V.aload_nN dR_remove_1 rfl ?_
    refine V.getk dR_remove_2 (by omega) (by assumption) f_R_44_4 (by assumption) ?_
    refine V.callVk (kd := 4) 0 _ 0 _ [_] dR_remove_5 okR_lead n_R_65 (by omega) (by assumption) rfl imR_lead seR_lead_R (by decide) (by decide) rfl rfl (Nat.le_of_ble_eq_true rfl) (Nat.le_of_ble_eq_true rfl) (Nat.le_of_eq (Nat.zero_add _)) (Nat.le_of_eq (Nat.zero_add _)) (kR_lead hS hP hT hH (by omega) ?_)
    rw [hr]
    show V G mR_remove 8 _ [.int (-1)] h 0 0 Q
    refine V.istore_n dR_remove_8 (by decide) ?_
    first | refine V.aload_n dR_remove_9 rfl ?_ | refine V.aload_nN dR_remove_9 rfl ?_
    refine V.iconst (v := (nI 0)) dR_remove_10 (by decide) ?_
    refine V.putk dR_remove_11 (by omega) (by assumption) p_R_44_4 rfl rfl ?_
    intro h2 e2
    have hI2 : RI G h2 o T p 0 hand op gone ents bl := by (rw [e2]; exact hI.len)
    have hF2 : FrO o h h2 := by (rw [e2]; exact FrO.rf.put (by omega))
    obtain ⟨hSa, hPa, hTa, hHa, hOa, hga, hEa, hBa, hopa⟩ := id hI2
    obtain ⟨hza, hk0a, hk1a, hk2a, hk3a, hk4a, hk5a, hk6a, hk7a, hk8a, hf0a, hf2a, hf3a, hf4a, hf5a, hf6a, hf12a, hf13a⟩ := id hSa
    obtain ⟨hlna, hppa, hl2a, hpa⟩ := id hPa
    obtain ⟨hkda, hkd2a, hina, hin2a, hnsa, hns2a, hnma, hnm2a⟩ := id hTa
    obtain ⟨hhanda, hhla⟩ := id hHa
    refine V.iload_n dR_remove_14 rfl ?_
    refine V.if_lt (tgt := 28) dR_remove_15 (by decide) (fun c_15 => ?_) (fun c_15 => ?_)
    · try simp only [zz_m1lt, zz_m1ge, not_true_eq_false, not_false_eq_true] at c_15
      refine V.iconst (v := (nI 0)) dR_remove_28 (by decide) ?_
      refine V.ireturn dR_remove_29 rfl rfl ?_
      exact h0 (fun e z => by (rw [hr] at z; cases z)) h2 hI2 hF2
    · try simp only [zz_m1lt, zz_m1ge, not_true_eq_false, not_false_eq_true] at c_15
      all_goals omega
  | some e =>
    have he := s_lead_lt hin2 hhl hr
    have hke := hkd2 e he
    first | refine V.aload_n dR_remove_0 rfl ?_ | refine V.aload_nN dR_remove_0 rfl ?_
    first | refine V.aload_n dR_remove_1 rfl ?_ | refine V.aload_nN dR_remove_1 rfl ?_
    refine V.getk dR_remove_2 (by omega) (by assumption) f_R_44_4 (by assumption) ?_
    refine V.callVk (kd := 4) 0 _ 0 _ [_] dR_remove_5 okR_lead n_R_65 (by omega) (by assumption) rfl imR_lead seR_lead_R (by decide) (by decide) rfl rfl (Nat.le_of_ble_eq_true rfl) (Nat.le_of_ble_eq_true rfl) (Nat.le_of_eq (Nat.zero_add _)) (Nat.le_of_eq (Nat.zero_add _)) (kR_lead hS hP hT hH (by omega) ?_)
    rw [hr]
    show V G mR_remove 8 _ [.int (nI e)] h 0 0 Q
    refine V.istore_n dR_remove_8 (by decide) ?_
    first | refine V.aload_n dR_remove_9 rfl ?_ | refine V.aload_nN dR_remove_9 rfl ?_
    refine V.iconst (v := (nI 0)) dR_remove_10 (by decide) ?_
    refine V.putk dR_remove_11 (by omega) (by assumption) p_R_44_4 rfl rfl ?_
    intro h2 e2
    have hI2 : RI G h2 o T p 0 hand op gone ents bl := by (rw [e2]; exact hI.len)
    have hF2 : FrO o h h2 := by (rw [e2]; exact FrO.rf.put (by omega))
    obtain ⟨hSa, hPa, hTa, hHa, hOa, hga, hEa, hBa, hopa⟩ := id hI2
    obtain ⟨hza, hk0a, hk1a, hk2a, hk3a, hk4a, hk5a, hk6a, hk7a, hk8a, hf0a, hf2a, hf3a, hf4a, hf5a, hf6a, hf12a, hf13a⟩ := id hSa
    obtain ⟨hlna, hppa, hl2a, hpa⟩ := id hPa
    obtain ⟨hkda, hkd2a, hina, hin2a, hnsa, hns2a, hnma, hnm2a⟩ := id hTa
    obtain ⟨hhanda, hhla⟩ := id hHa
    refine V.iload_n dR_remove_14 rfl ?_
    refine V.if_lt (tgt := 28) dR_remove_15 (by decide) (fun c_15 => ?_) (fun c_15 => ?_)
    · try simp (disch := omega) only [nI_ltI, nI_leI, nI_eq, zz_lt0, zz_ge0, zz_gt0, zz_le0, zz_eq0, zz_m1lt, zz_m1ge, zz_m1eq, bI_eq0, decide_eq_false_iff_not, decide_eq_true_eq, Decidable.not_not, not_true_eq_false, not_false_eq_true, Nat.not_lt, Nat.not_le, Bool.not_eq_false, Bool.not_eq_true] at c_15
      all_goals omega
    · try simp (disch := omega) only [nI_ltI, nI_leI, nI_eq, zz_lt0, zz_ge0, zz_gt0, zz_le0, zz_eq0, zz_m1lt, zz_m1ge, zz_m1eq, bI_eq0, decide_eq_false_iff_not, decide_eq_true_eq, Decidable.not_not, not_true_eq_false, not_false_eq_true, Nat.not_lt, Nat.not_le, Bool.not_eq_false, Bool.not_eq_true] at c_15
      first | refine V.aload_n dR_remove_18 rfl ?_ | refine V.aload_nN dR_remove_18 rfl ?_
      refine V.getk dR_remove_19 (by omega) (by assumption) f_R_13_4 (by assumption) ?_
      refine V.iload_n dR_remove_22 rfl ?_
      refine V.ialoadN dR_remove_23 (by omega) (by assumption) (by omega) (hkda e he) ?_
      refine V.iconst (v := (nI 1)) dR_remove_24 (by decide) ?_
      refine V.icmp_eq (tgt := 30) dR_remove_25 (by decide) (fun c_25 => ?_) (fun c_25 => ?_)
      · try simp (disch := omega) only [nI_ltI, nI_leI, nI_eq, zz_lt0, zz_ge0, zz_gt0, zz_le0, zz_eq0, zz_m1lt, zz_m1ge, zz_m1eq, bI_eq0, decide_eq_false_iff_not, decide_eq_true_eq, Decidable.not_not, not_true_eq_false, not_false_eq_true, Nat.not_lt, Nat.not_le, Bool.not_eq_false, Bool.not_eq_true] at c_25
        first | refine V.aload_n dR_remove_30 rfl ?_ | refine V.aload_nN dR_remove_30 rfl ?_
        refine V.iload_n dR_remove_31 rfl ?_
        refine V.callVk (kd := 4) 0 _ 0 _ [_] dR_remove_32 okR_removeFile n_R_93 (by omega) (by assumption) rfl imR_removeFile seR_removeFile_R (by decide) (by decide) rfl rfl (Nat.le_of_ble_eq_true rfl) (Nat.le_of_ble_eq_true rfl) (Nat.le_of_eq (Nat.zero_add _)) (Nat.le_of_eq (Nat.zero_add _)) (kR_removeFile hI2 he hen (fun h9 hI9 hF9 => ?_))
        refine V.iconst (v := (nI 1)) dR_remove_35 (by decide) ?_
        refine V.ireturn dR_remove_36 rfl rfl ?_
        exact h1 e hr c_25 h9 hI9 (hF2.tr hF9)
      · try simp (disch := omega) only [nI_ltI, nI_leI, nI_eq, zz_lt0, zz_ge0, zz_gt0, zz_le0, zz_eq0, zz_m1lt, zz_m1ge, zz_m1eq, bI_eq0, decide_eq_false_iff_not, decide_eq_true_eq, Decidable.not_not, not_true_eq_false, not_false_eq_true, Nat.not_lt, Nat.not_le, Bool.not_eq_false, Bool.not_eq_true] at c_25
        refine V.iconst (v := (nI 0)) dR_remove_28 (by decide) ?_
        refine V.ireturn dR_remove_29 rfl rfl ?_
        exact h0 (fun x z => by (rw [hr] at z; cases z; exact c_25)) h2 hI2 hF2
set_option maxHeartbeats 4000000 in
set_option maxRecDepth 100000 in
/-- PathTreeModel.empty -/
theorem kR_empty {G : GG} {h : HH} {o : Nat} {T : TT} {p : Nat → Nat} {len hand : Nat} {op : Option Nat} {gone : Bool} {ents : Nat} {bl : List (Nat × Nat)} {Q : Option Value → HH → Prop} (hI : RI G h o T p len hand op gone ents bl) (h0 : op = none → Q (some (.int (-1))) h) (h1 : ∀ e, op = some e → gone = true → Q (some (.int (nI 0))) h) (h2 : ∀ e, op = some e → gone = false → ∀ h', RI G h' o T p len hand op gone ents (s_but bl e) → FrO o h h' → Q (some (.int (nI (s_fb bl e).length))) h') : V G mR_empty 0 (lv_args 0 [.ref o]) [] h 0 0 Q := by
  obtain ⟨hS, hP, hT, hH, hO, hg, hE, hB, hop⟩ := id hI
  obtain ⟨hz, hk0, hk1, hk2, hk3, hk4, hk5, hk6, hk7, hk8, hf0, hf2, hf3, hf4, hf5, hf6, hf12, hf13⟩ := id hS
  obtain ⟨hln, hpp, hl2, hp⟩ := id hP
  obtain ⟨hkd, hkd2, hin, hin2, hns, hns2, hnm, hnm2⟩ := id hT
  obtain ⟨hhand, hhl⟩ := id hH
  cases hop2 : op with
  | none =>
    subst hop2
    have hO9 : h.2.1 o 9 = .int (-1) := hO
    first | refine V.aload_n dR_empty_0 rfl ?_ | refine V.aload_nN dR_empty_0 rfl ?_
    refine V.getk dR_empty_1 (by omega) (by assumption) f_R_32_4 hO9 ?_
    refine V.if_ge (tgt := 9) dR_empty_4 (by decide) (fun c_4 => ?_) (fun c_4 => ?_)
    · try simp only [zz_m1lt, zz_m1ge, not_true_eq_false, not_false_eq_true] at c_4
      all_goals omega
    · try simp only [zz_m1lt, zz_m1ge, not_true_eq_false, not_false_eq_true] at c_4
      refine V.iconst (v := (-1)) dR_empty_7 (by decide) ?_
      refine V.ireturn dR_empty_8 rfl rfl ?_
      exact h0 rfl
  | some e =>
    subst hop2
    have he := hop e rfl
    have hO9 : h.2.1 o 9 = .int (nI e) := hO
    first | refine V.aload_n dR_empty_0 rfl ?_ | refine V.aload_nN dR_empty_0 rfl ?_
    refine V.getk dR_empty_1 (by omega) (by assumption) f_R_32_4 hO9 ?_
    refine V.if_ge (tgt := 9) dR_empty_4 (by decide) (fun c_4 => ?_) (fun c_4 => ?_)
    · try simp (disch := omega) only [nI_ltI, nI_leI, nI_eq, zz_lt0, zz_ge0, zz_gt0, zz_le0, zz_eq0, zz_m1lt, zz_m1ge, zz_m1eq, bI_eq0, decide_eq_false_iff_not, decide_eq_true_eq, Decidable.not_not, not_true_eq_false, not_false_eq_true, Nat.not_lt, Nat.not_le, Bool.not_eq_false, Bool.not_eq_true] at c_4
      first | refine V.aload_n dR_empty_9 rfl ?_ | refine V.aload_nN dR_empty_9 rfl ?_
      refine V.getk dR_empty_10 (by omega) (by assumption) f_R_83_4 (by assumption) ?_
      refine V.if_eq (tgt := 20) dR_empty_13 (by decide) (fun c_13 => ?_) (fun c_13 => ?_)
      · try simp only [bI_eq0, Bool.not_eq_false] at c_13
        first | refine V.aload_n dR_empty_20 rfl ?_ | refine V.aload_nN dR_empty_20 rfl ?_
        first | refine V.aload_n dR_empty_21 rfl ?_ | refine V.aload_nN dR_empty_21 rfl ?_
        refine V.getk dR_empty_22 (by omega) (by assumption) f_R_32_4 hO9 ?_
        refine V.callVk (kd := 4) 0 _ 0 _ [_] dR_empty_25 okR_lose n_R_90 (by omega) (by assumption) rfl imR_lose seR_lose_R (by decide) (by decide) rfl rfl (Nat.le_of_ble_eq_true rfl) (Nat.le_of_ble_eq_true rfl) (Nat.le_of_eq (Nat.zero_add _)) (Nat.le_of_eq (Nat.zero_add _)) (kR_lose hI he (fun h9 hI9 hF9 => ?_))
        refine V.ireturn dR_empty_28 rfl rfl ?_
        first | exact h2 e rfl c_13 h9 hI9 hF9 | exact h1 e rfl c_13
      · try simp only [bI_eq0, Bool.not_eq_false] at c_13
        refine V.iconst (v := (nI 0)) dR_empty_16 (by decide) ?_
        refine V.goto (tgt := 28) dR_empty_17 (by decide) ?_
        refine V.ireturn dR_empty_28 rfl rfl ?_
        first | exact h2 e rfl c_13 h9 hI9 hF9 | exact h1 e rfl c_13
    · try simp (disch := omega) only [nI_ltI, nI_leI, nI_eq, zz_lt0, zz_ge0, zz_gt0, zz_le0, zz_eq0, zz_m1lt, zz_m1ge, zz_m1eq, bI_eq0, decide_eq_false_iff_not, decide_eq_true_eq, Decidable.not_not, not_true_eq_false, not_false_eq_true, Nat.not_lt, Nat.not_le, Bool.not_eq_false, Bool.not_eq_true] at c_4
      all_goals omega
