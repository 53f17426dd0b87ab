theorem ent_shift {T : TT} {p : Nat → Nat} {d a b : Nat} : s_ent T (fun k => p (a + k)) d 0 (b - a) = s_ent T p d a b := by
  unfold s_ent
  congr 1
  funext e
  congr 1
  show (s_mt T (fun k => p (a + k)) d 0 (b - a) e) = (s_mt T p d a b e)
  unfold s_mt
  simp only [Nat.sub_zero, Nat.zero_add]
set_option maxHeartbeats 4000000 in
set_option maxRecDepth 100000 in
/-- PathTree.moveToPath -/
theorem k_moveTo {G : GG} {h : HH} {x o : Nat} {T : TT} {p : Nat → Nat} {len hand : Nat} {bl : List (Nat × Nat)} {ad na : Nat → Nat} {ch : Nat → List Nat} {ba cp : Nat → Nat} {ga gb gc : Nat} {Q : Option Value → HH → Prop} {f : Nat} (hI : CI G h x o T p len hand (some f) false bl ad na ch ba cp ga gb gc) (hsp : ∀ e, e < 300 → T.1 e = 2 → e ≠ 0 → T.2.1 e ≠ e) (hf : f < 300) (hf1 : T.1 f = 1) (q0 : (s_tgt T p hand len = none ∨ ∃ q, s_tgt T p hand len = some q ∧ ¬ s_mok T f (s_there T p len f q)) → ∀ h', CI G h' x o T p len hand (some f) false bl ad na ch ba cp ga gb gc → CFr o h h' → Q (some (.int (nI 0))) h') (q1 : ∀ q, s_tgt T p hand len = some q → s_mok T f (s_there T p len f q) → ∀ h' na' ch' ga' gb' gc', CI G h' x o (s_mN (s_mT T (s_there T p len f q)) f q p len) p len hand (some f) false (s_mB bl (s_there T p len f q)) ad na' ch' ba cp ga' gb' gc' → CFr o h h' → Q (some (.int (nI 1))) h') : V G mP_moveToPath 0 (lv_args 0 [.ref x, .ref (ad f)]) [] h 1 60 Q := by
  obtain ⟨hNK, hP, hO, hX, hC, hB⟩ := id hI
  obtain ⟨ht, htk, hca, hln, hcs, hck, hch, hl2, hp⟩ := id hX
  obtain ⟨a1, a2, a3, a4, a5, a6, a7, a8, a9⟩ := id hP
  have tail : s_dir T (s_lead T p hand len) = none → V G mP_moveToPath 28 [(0, .ref x), (1, .ref (ad f))] [] h 1 60 Q := by
    intro hsd
    first | refine V.aload_n dP_moveToPath_28 rfl ?_ | refine V.aload_nN dP_moveToPath_28 rfl ?_
    refine V.callVk (kd := 0) 0 _ 0 _ [] dP_moveToPath_29 okP_home n_P_167 a1 a2 rfl imP_home seP_home_P (by decide) (by decide) rfl rfl (Nat.le_of_ble_eq_true rfl) (Nat.le_of_ble_eq_true rfl) (Nat.le_of_eq (Nat.zero_add _)) (Nat.le_of_eq (Nat.zero_add _)) (k_home hP hX hC (fun hh => ?_) (fun d hh hd hd2 => ?_))
    · first | refine V.astore_n dP_moveToPath_32 (by decide) ?_ | refine V.astore_nN dP_moveToPath_32 (by decide) ?_
      first | refine V.aload_n dP_moveToPath_33 rfl ?_ | refine V.aload_nN dP_moveToPath_33 rfl ?_
      refine V.ifnullN (tgt := 47) dP_moveToPath_34 (by decide) ?_
      refine V.iconst (v := (nI 0)) dP_moveToPath_47 (by decide) ?_
      refine V.ireturn dP_moveToPath_48 rfl rfl ?_
      exact q0 (Or.inl (by unfold s_tgt; rw [hsd, hh])) h hI CFr.rf
    · first | refine V.astore_n dP_moveToPath_32 (by decide) ?_ | refine V.astore_nN dP_moveToPath_32 (by decide) ?_
      first | refine V.aload_n dP_moveToPath_33 rfl ?_ | refine V.aload_nN dP_moveToPath_33 rfl ?_
      refine V.ifnull dP_moveToPath_34 ?_
      first | refine V.aload_n dP_moveToPath_37 rfl ?_ | refine V.aload_nN dP_moveToPath_37 rfl ?_
      refine V.getk dP_moveToPath_38 a1 a2 f_P_10_0 a3 ?_
      refine V.callVk (kd := 1) 0 _ 0 _ [] dP_moveToPath_41 okT_lastNameCanBe n_P_163 ht htk rfl imT_lastNameCanBe seT_lastNameCanBe_T (by decide) (by decide) rfl rfl (Nat.le_of_ble_eq_true rfl) (Nat.le_of_ble_eq_true rfl) (Nat.le_of_eq (Nat.zero_add _)) (Nat.le_of_eq (Nat.zero_add _)) (k_lastNameCanBe hX ?_)
      refine V.if_ne (tgt := 49) dP_moveToPath_44 (by decide) (fun c_44 => ?_) (fun c_44 => ?_)
      · try simp (disch := omega) only [nI_ltI, nI_leI, nI_eq, zz_lt0, zz_ge0, zz_gt0, zz_le0, zz_eq0, zz_m1lt, zz_m1ge, zz_m1eq, bI_eq0, decide_eq_false_iff_not, decide_eq_true_eq, Decidable.not_not, not_true_eq_false, not_false_eq_true, Nat.not_lt, Nat.not_le, Bool.not_eq_false, Bool.not_eq_true] at c_44
        first | refine V.aload_n dP_moveToPath_49 rfl ?_ | refine V.aload_nN dP_moveToPath_49 rfl ?_
        first | refine V.aload_n dP_moveToPath_50 rfl ?_ | refine V.aload_nN dP_moveToPath_50 rfl ?_
        first | refine V.aload_n dP_moveToPath_51 rfl ?_ | refine V.aload_nN dP_moveToPath_51 rfl ?_
        refine V.getk dP_moveToPath_52 a1 a2 f_P_10_0 a3 ?_
        refine V.callVk (kd := 1) 1 0 (len - s_last p len) 0 [] dP_moveToPath_55 okT_lastName n_P_68 ht htk rfl imT_lastName seT_lastName_T (by decide) (by decide) rfl rfl (Nat.le_of_ble_eq_true rfl) (Nat.le_of_ble_eq_true rfl) (by omega) (by (have h9 := c_44.2.1; omega)) (k_lastName hX c_44.2.1 (fun h2 hN2 => ?_))
        have hst : s_tgt T p hand len = some (d, false) := by (unfold s_tgt; rw [hsd, hh]; exact if_pos c_44)
        have hnl := c_44.2.1
        have hll := s_last_le p len
        have hI2 := hI.fk0 hN2.fk
        obtain ⟨hNK2, hP2, hO2, hX2, hC2, hB2⟩ := id hI2
        have hNA : NA G h2 x h.2.2 (len - s_last p len) (fun k => p (s_last p len + k)) := ⟨⟨by omega, by rw [hN2.1]; omega⟩, hN2.2.1, hnl, hN2.2.2.1, fun k hk => hp _ (by omega), by omega⟩
        have hF2 := hN2.fk.cfr hNK (fun _ _ _ z => z.elim)
        have hth : s_there T p len f (d, false) = s_ent T (fun k => p (s_last p len + k)) d 0 (len - s_last p len) := by (rw [ent_shift]; rfl)
        first | refine V.aload_n dP_moveToPath_58 rfl ?_ | refine V.aload_nN dP_moveToPath_58 rfl ?_
        refine V.callVk (kd := 0) 0 _ 0 _ [_, _, _] dP_moveToPath_59 okP_moveInto n_P_178 hP2.1 hP2.2.1 rfl imP_moveInto seP_moveInto_P (by decide) (by decide) rfl rfl (Nat.le_of_ble_eq_true rfl) (Nat.le_of_ble_eq_true rfl) (Nat.le_of_eq (Nat.zero_add _)) (Nat.le_of_eq (Nat.zero_add _)) (k_moveInto hI2 hsp hf hf1 hd hd2 hNA (fun hno => ?_) (fun hok h9 na9 ch9 ga9 gb9 gc9 hI9 hF9 => ?_))
        · refine V.ireturn dP_moveToPath_62 rfl rfl ?_
          exact q0 (Or.inr ⟨_, hst, by rw [hth]; exact hno⟩) h2 hI2 hF2
        · refine V.ireturn dP_moveToPath_62 rfl rfl ?_
          have h8 := q1 _ hst (by rw [hth]; exact hok) h9 na9 ch9 ga9 gb9 gc9
          rw [hth] at h8
          refine h8 ?_ (hF2.tr hF9)
          cases hrr : s_ent T (fun k => p (s_last p len + k)) d 0 (len - s_last p len) with
          | none => rw [hrr] at hI9; exact hI9
          | some t => rw [hrr] at hI9; exact hI9
        skip
      · try simp (disch := omega) only [nI_ltI, nI_leI, nI_eq, zz_lt0, zz_ge0, zz_gt0, zz_le0, zz_eq0, zz_m1lt, zz_m1ge, zz_m1eq, bI_eq0, decide_eq_false_iff_not, decide_eq_true_eq, Decidable.not_not, not_true_eq_false, not_false_eq_true, Nat.not_lt, Nat.not_le, Bool.not_eq_false, Bool.not_eq_true] at c_44
        refine V.iconst (v := (nI 0)) dP_moveToPath_47 (by decide) ?_
        refine V.ireturn dP_moveToPath_48 rfl rfl ?_
        exact q0 (Or.inl (by unfold s_tgt; rw [hsd, hh]; exact if_neg c_44)) h hI CFr.rf
    skip
  obtain ⟨hE, hEk, hEn⟩ := hC.2.1 f hf (by omega)
  have hfk := hC.file hf hf1
  have hNA : NA G h x (na f) (T.2.2.1 f) (T.2.2.2 f) := ⟨hE.2.2.2.1, hE.2.2.2.2.1, hE.2.2.2.2.2.1, hE.2.2.2.2.2.2.1, hE.2.2.2.2.2.2.2, hEn⟩
  first | refine V.aload_n dP_moveToPath_0 rfl ?_ | refine V.aload_nN dP_moveToPath_0 rfl ?_
  refine V.callVk (kd := 0) 0 _ 0 _ [] dP_moveToPath_1 okP_target n_P_57 a1 a2 rfl imP_target seP_target_P (by decide) (by decide) rfl rfl (Nat.le_of_ble_eq_true rfl) (Nat.le_of_ble_eq_true rfl) (Nat.le_of_eq (Nat.zero_add _)) (Nat.le_of_eq (Nat.zero_add _)) (k_target hP hX hC (fun hr => ?_) (fun e hr he hl => ?_))
  · first | refine V.astore_n dP_moveToPath_4 (by decide) ?_ | refine V.astore_nN dP_moveToPath_4 (by decide) ?_
    first | refine V.aload_n dP_moveToPath_5 rfl ?_ | refine V.aload_nN dP_moveToPath_5 rfl ?_
    refine V.instN dP_moveToPath_6 ?_
    refine V.if_eq (tgt := 28) dP_moveToPath_9 (by decide) (fun c_9 => ?_) (fun c_9 => ?_)
    · skip
      exact V.re [0, 1] rfl (tail (by rw [hr]; rfl))
    · skip
      exact absurd rfl c_9
  · have hk2 := (hC.1 e he).1
    by_cases h2 : T.1 e = 2
    · have hek := hC.dir he h2
      have hst : s_tgt T p hand len = some (e, true) := by (unfold s_tgt; rw [hr, show s_dir T (some e) = some e from if_pos h2])
      have hth : s_there T p len f (e, true) = s_ent T (T.2.2.2 f) e 0 (T.2.2.1 f) := rfl
      first | refine V.astore_n dP_moveToPath_4 (by decide) ?_ | refine V.astore_nN dP_moveToPath_4 (by decide) ?_
      first | refine V.aload_n dP_moveToPath_5 rfl ?_ | refine V.aload_nN dP_moveToPath_5 rfl ?_
      refine V.instk dP_moveToPath_6 hek.1 hek.2 rfl cl_P_16 ?_
      refine V.if_eq (tgt := 28) dP_moveToPath_9 (by decide) (fun c_9 => ?_) (fun c_9 => ?_)
      · skip
        exact absurd c_9 (by decide)
      · skip
        first | refine V.aload_n dP_moveToPath_12 rfl ?_ | refine V.aload_nN dP_moveToPath_12 rfl ?_
        refine V.castk dP_moveToPath_13 hek.1 hek.2 rfl cl_P_16 ?_
        first | refine V.astore_n dP_moveToPath_16 (by decide) ?_ | refine V.astore_nN dP_moveToPath_16 (by decide) ?_
        first | refine V.aload_n dP_moveToPath_17 rfl ?_ | refine V.aload_nN dP_moveToPath_17 rfl ?_
        first | refine V.aload_n dP_moveToPath_18 rfl ?_ | refine V.aload_nN dP_moveToPath_18 rfl ?_
        first | refine V.aload_n dP_moveToPath_19 rfl ?_ | refine V.aload_nN dP_moveToPath_19 rfl ?_
        refine V.getk dP_moveToPath_20 hfk.1 hfk.2 f_P_177_3 hE.2.2.1 ?_
        first | refine V.aload_n dP_moveToPath_23 rfl ?_ | refine V.aload_nN dP_moveToPath_23 rfl ?_
        refine V.callVk (kd := 0) 0 _ 0 _ [_, _, _] dP_moveToPath_24 okP_moveInto n_P_178 a1 a2 rfl imP_moveInto seP_moveInto_P (by decide) (by decide) rfl rfl (Nat.le_of_ble_eq_true rfl) (Nat.le_of_ble_eq_true rfl) (Nat.le_of_eq (Nat.zero_add _)) (Nat.le_of_eq (Nat.zero_add _)) (k_moveInto hI hsp hf hf1 he h2 hNA (fun hno => ?_) (fun hok h9 na9 ch9 ga9 gb9 gc9 hI9 hF9 => ?_))
        · refine V.ireturn dP_moveToPath_27 rfl rfl ?_
          exact q0 (Or.inr ⟨_, hst, by rw [hth]; exact hno⟩) h hI CFr.rf
        · refine V.ireturn dP_moveToPath_27 rfl rfl ?_
          have h8 := q1 _ hst (by rw [hth]; exact hok) h9 na9 ch9 ga9 gb9 gc9
          rw [hth] at h8
          refine h8 ?_ hF9
          rw [fu_id, fn_id] at hI9
          cases hrr : s_ent T (T.2.2.2 f) e 0 (T.2.2.1 f) with
          | none => rw [hrr] at hI9; exact hI9
          | some t => rw [hrr] at hI9; exact hI9
        skip
    · have hek := hC.file he (by omega)
      first | refine V.astore_n dP_moveToPath_4 (by decide) ?_ | refine V.astore_nN dP_moveToPath_4 (by decide) ?_
      first | refine V.aload_n dP_moveToPath_5 rfl ?_ | refine V.aload_nN dP_moveToPath_5 rfl ?_
      refine V.instn dP_moveToPath_6 hek.1 hek.2 rfl cl_P_16 (by decide) ?_
      refine V.if_eq (tgt := 28) dP_moveToPath_9 (by decide) (fun c_9 => ?_) (fun c_9 => ?_)
      · skip
        exact V.re [0, 1] rfl (tail (by rw [hr]; exact if_neg h2))
      · skip
        exact absurd rfl c_9
  skip
set_option maxHeartbeats 4000000 in
set_option maxRecDepth 100000 in
/-- PathTree.move -/
theorem k_move {G : GG} {h : HH} {x o : Nat} {T : TT} {p : Nat → Nat} {len hand : Nat} {op : Option Nat} {gone : Bool} {bl : List (Nat × Nat)} {ad na : Nat → Nat} {ch : Nat → List Nat} {ba cp : Nat → Nat} {ga gb gc : Nat} {Q : Option Value → HH → Prop} (hI : CI G h x o T p len hand op gone bl ad na ch ba cp ga gb gc) (hsp : ∀ e, e < 300 → T.1 e = 2 → e ≠ 0 → T.2.1 e ≠ e) (qn : op = none ∨ gone = true → ∀ h', CI G h' x o T p 0 hand op gone bl ad na ch ba cp ga gb gc → CFr o h h' → Q (some (.int (nI 0))) h') (q0 : ∀ f, op = some f → gone = false → (s_tgt T p hand len = none ∨ ∃ q, s_tgt T p hand len = some q ∧ ¬ s_mok T f (s_there T p len f q)) → ∀ h', CI G h' x o T p 0 hand op gone bl ad na ch ba cp ga gb gc → CFr o h h' → Q (some (.int (nI 0))) h') (q1 : ∀ f, op = some f → gone = false → ∀ q, s_tgt T p hand len = some q → s_mok T f (s_there T p len f q) → ∀ h' na' ch' ga' gb' gc', CI G h' x o (s_mN (s_mT T (s_there T p len f q)) f q p len) p 0 hand (some f) false (s_mB bl (s_there T p len f q)) ad na' ch' ba cp ga' gb' gc' → CFr o h h' → Q (some (.int (nI 1))) h') : V G mP_move 0 (lv_args 0 [.ref x]) [] h 1 60 Q := by
  obtain ⟨hNK, hP, hO, hX, hC, hB⟩ := id hI
  obtain ⟨ht, htk, hca, hln, hcs, hck, hch, hl2, hp⟩ := id hX
  obtain ⟨a1, a2, a3, a4, a5, a6, a7, a8, a9⟩ := id hP
  cases op with
  | none =>
    have h3 : h.2.1 x 3 = .null := hO.1
    first | refine V.aload_n dP_move_0 rfl ?_ | refine V.aload_nN dP_move_0 rfl ?_
    refine V.getk dP_move_1 a1 a2 f_P_28_0 h3 ?_
    refine V.ifnullN (tgt := 32) dP_move_4 (by decide) ?_
    refine V.iconst (v := (nI 0)) dP_move_32 (by decide) ?_
    refine V.istore_n dP_move_33 (by decide) ?_
    first | refine V.aload_n dP_move_34 rfl ?_ | refine V.aload_nN dP_move_34 rfl ?_
    refine V.getk dP_move_35 a1 a2 f_P_10_0 a3 ?_
    refine V.callVk (kd := 1) 0 _ 0 _ [] dP_move_38 okT_clear n_P_61 hX.1 hX.2.1 rfl imT_clear seT_clear_T (by decide) (by decide) rfl rfl (Nat.le_of_ble_eq_true rfl) (Nat.le_of_ble_eq_true rfl) (Nat.le_of_eq (Nat.zero_add _)) (Nat.le_of_eq (Nat.zero_add _)) (k_clear hX (fun h9 e9 => ?_))
    obtain ⟨hI9, hF9⟩ := hI.clr e9
    refine V.iload_n dP_move_41 rfl ?_
    refine V.ireturn dP_move_42 rfl rfl ?_
    exact qn (Or.inl rfl) h9 hI9 hF9
  | some e =>
    cases gone with
    | true =>
      have h3 : h.2.1 x 3 = .ref ga := hO.1
      obtain ⟨hg, hn1, -⟩ := hO.2.2 e rfl rfl
      first | refine V.aload_n dP_move_0 rfl ?_ | refine V.aload_nN dP_move_0 rfl ?_
      refine V.getk dP_move_1 a1 a2 f_P_28_0 h3 ?_
      refine V.ifnull dP_move_4 ?_
      first | refine V.aload_n dP_move_7 rfl ?_ | refine V.aload_nN dP_move_7 rfl ?_
      refine V.getk dP_move_8 a1 a2 f_P_28_0 h3 ?_
      refine V.getk dP_move_11 hg.1 hg.2.1 f_P_87_3 hn1 ?_
      refine V.ifnullN (tgt := 32) dP_move_14 (by decide) ?_
      refine V.iconst (v := (nI 0)) dP_move_32 (by decide) ?_
      refine V.istore_n dP_move_33 (by decide) ?_
      first | refine V.aload_n dP_move_34 rfl ?_ | refine V.aload_nN dP_move_34 rfl ?_
      refine V.getk dP_move_35 a1 a2 f_P_10_0 a3 ?_
      refine V.callVk (kd := 1) 0 _ 0 _ [] dP_move_38 okT_clear n_P_61 hX.1 hX.2.1 rfl imT_clear seT_clear_T (by decide) (by decide) rfl rfl (Nat.le_of_ble_eq_true rfl) (Nat.le_of_ble_eq_true rfl) (Nat.le_of_eq (Nat.zero_add _)) (Nat.le_of_eq (Nat.zero_add _)) (k_clear hX (fun h9 e9 => ?_))
      obtain ⟨hI9, hF9⟩ := hI.clr e9
      refine V.iload_n dP_move_41 rfl ?_
      refine V.ireturn dP_move_42 rfl rfl ?_
      exact qn (Or.inr rfl) h9 hI9 hF9
    | false =>
      have h3 : h.2.1 x 3 = .ref (ad e) := hO.1
      obtain ⟨he, h1⟩ := hO.2.1 e rfl rfl
      have hg := hC.file he h1
      have hn1 := (hC.2.2.1 e he (by omega) (fun z => by (have h9 := hC.2.2.2.1.2.1; rw [z] at h1; omega))).1
      first | refine V.aload_n dP_move_0 rfl ?_ | refine V.aload_nN dP_move_0 rfl ?_
      refine V.getk dP_move_1 a1 a2 f_P_28_0 h3 ?_
      refine V.ifnull dP_move_4 ?_
      first | refine V.aload_n dP_move_7 rfl ?_ | refine V.aload_nN dP_move_7 rfl ?_
      refine V.getk dP_move_8 a1 a2 f_P_28_0 h3 ?_
      refine V.getk dP_move_11 hg.1 hg.2 f_P_87_3 hn1 ?_
      refine V.ifnull dP_move_14 ?_
      first | refine V.aload_n dP_move_17 rfl ?_ | refine V.aload_nN dP_move_17 rfl ?_
      first | refine V.aload_n dP_move_18 rfl ?_ | refine V.aload_nN dP_move_18 rfl ?_
      refine V.getk dP_move_19 a1 a2 f_P_28_0 h3 ?_
      refine V.callVk (kd := 0) 1 0 60 0 [_] dP_move_22 okP_moveToPath n_P_115 a1 a2 rfl imP_moveToPath seP_moveToPath_P (by decide) (by decide) rfl rfl (Nat.le_of_ble_eq_true rfl) (Nat.le_of_ble_eq_true rfl) (by omega) (by omega) (k_moveTo hI hsp he h1 (fun hno h8 hI8 hF8 => ?_) (fun q hst hok h8 na8 ch8 ga8 gb8 gc8 hI8 hF8 => ?_))
      · obtain ⟨hNK8, hP8, hO8, hX8, hC8, hB8⟩ := id hI8
        refine V.if_eq (tgt := 32) dP_move_25 (by decide) (fun c_25 => ?_) (fun c_25 => ?_)
        · skip
          refine V.iconst (v := (nI 0)) dP_move_32 (by decide) ?_
          refine V.istore_n dP_move_33 (by decide) ?_
          first | refine V.aload_n dP_move_34 rfl ?_ | refine V.aload_nN dP_move_34 rfl ?_
          refine V.getk dP_move_35 hP8.1 hP8.2.1 f_P_10_0 hP8.2.2.1 ?_
          refine V.callVk (kd := 1) 0 _ 0 _ [] dP_move_38 okT_clear n_P_61 hX8.1 hX8.2.1 rfl imT_clear seT_clear_T (by decide) (by decide) rfl rfl (Nat.le_of_ble_eq_true rfl) (Nat.le_of_ble_eq_true rfl) (Nat.le_of_eq (Nat.zero_add _)) (Nat.le_of_eq (Nat.zero_add _)) (k_clear hX8 (fun h9 e9 => ?_))
          obtain ⟨hI9, hF9⟩ := hI8.clr e9
          refine V.iload_n dP_move_41 rfl ?_
          refine V.ireturn dP_move_42 rfl rfl ?_
          exact q0 e rfl rfl hno h9 hI9 (hF8.tr hF9)
        · skip
          exact absurd (by decide) c_25
      · obtain ⟨hNK8, hP8, hO8, hX8, hC8, hB8⟩ := id hI8
        refine V.if_eq (tgt := 32) dP_move_25 (by decide) (fun c_25 => ?_) (fun c_25 => ?_)
        · skip
          exact absurd c_25 (by decide)
        · skip
          refine V.iconst (v := (nI 1)) dP_move_28 (by decide) ?_
          refine V.goto (tgt := 33) dP_move_29 (by decide) ?_
          refine V.istore_n dP_move_33 (by decide) ?_
          first | refine V.aload_n dP_move_34 rfl ?_ | refine V.aload_nN dP_move_34 rfl ?_
          refine V.getk dP_move_35 hP8.1 hP8.2.1 f_P_10_0 hP8.2.2.1 ?_
          refine V.callVk (kd := 1) 0 _ 0 _ [] dP_move_38 okT_clear n_P_61 hX8.1 hX8.2.1 rfl imT_clear seT_clear_T (by decide) (by decide) rfl rfl (Nat.le_of_ble_eq_true rfl) (Nat.le_of_ble_eq_true rfl) (Nat.le_of_eq (Nat.zero_add _)) (Nat.le_of_eq (Nat.zero_add _)) (k_clear hX8 (fun h9 e9 => ?_))
          obtain ⟨hI9, hF9⟩ := hI8.clr e9
          refine V.iload_n dP_move_41 rfl ?_
          refine V.ireturn dP_move_42 rfl rfl ?_
          exact q1 e rfl rfl q hst hok h9 na8 ch8 ga8 gb8 gc8 hI9 (hF8.tr hF9)
      skip
