theorem s_can_home {T : TT} {p : Nat → Nat} {hand len ents d : Nat} (h : s_can T p hand len ents = some d) : s_home T p hand len = some d ∧ s_isName p len ∧ ents ≠ 300 ∧ s_ent T p d (s_last p len) len = none := by
  unfold s_can at h
  split at h
  · cases h
  · next d2 hq =>
    split at h
    · next hc => cases h; exact ⟨hq, hc⟩
    · cases h
set_option maxHeartbeats 4000000 in
set_option maxRecDepth 100000 in
/-- PathTreeModel.made -/
theorem kR_made {G : GG} {h : HH} {o : Nat} {T : TT} {p : Nat → Nat} {len hand : Nat} {op : Option Nat} {gone : Bool} {ents : Nat} {bl : List (Nat × Nat)} {Q : Option Value → HH → Prop} {w : Nat} (hI : RI G h o T p len hand op gone ents bl) (hhd : T.1 hand = 2) (h00 : T.1 0 = 2) (hen : ents = s_many T) (hbk : ∀ q ∈ bl, T.1 q.2 ≠ 0) (hw : 1 ≤ w ∧ w ≤ 2) (h0 : s_can T p hand len ents = none → Q (some (.int (-1))) h) (h1 : ∀ d, s_can T p hand len ents = some d → ∀ e, 1 ≤ e → e < 300 → T.1 e = 0 → (∀ x, x < e → T.1 x ≠ 0) → ∀ h', RI G h' o (s_new T e w d p len) p len hand op gone (ents + 1) bl → FrO o h h' → Q (some (.int (nI e))) h') : V G mR_made 0 (lv_args 0 [.ref o, .int (nI w)]) [] h 0 0 Q := by
  obtain ⟨hS, hP, hT, hH, hO, hg, hE, hB, hop⟩ := id hI
  obtain ⟨hz, hk0, hk1, hk2, hk3, hk4, hk5, hk6, hk7, hk8, hf0, hf2, hf3, hf4, hf5, hf6, hf12, hf13⟩ := id hS
  obtain ⟨hln, hpp, hl2, hp⟩ := id hP
  obtain ⟨hkd, hkd2, hin, hin2, hns, hns2, hnm, hnm2⟩ := id hT
  obtain ⟨hhand, hhl⟩ := id hH
  have hll := s_last_le p len
  have hmle : ents ≤ 300 := by (rw [hen]; exact s_cnt_le _ 300)
  cases hh : s_home T p hand len with
  | none =>
    first | refine V.aload_n dR_made_0 rfl ?_ | refine V.aload_nN dR_made_0 rfl ?_
    refine V.callVk (kd := 4) 0 _ 0 _ [] dR_made_1 okR_home n_R_69 (by omega) (by assumption) rfl imR_home seR_home_R (by decide) (by decide) rfl rfl (Nat.le_of_ble_eq_true rfl) (Nat.le_of_ble_eq_true rfl) (Nat.le_of_eq (Nat.zero_add _)) (Nat.le_of_eq (Nat.zero_add _)) (kR_home hS hP hT hH hhd ?_)
    rw [hh]
    show V G mR_made 4 _ [.int (-1)] h 0 0 Q
    refine V.istore_n dR_made_4 (by decide) ?_
    refine V.iload_n dR_made_5 rfl ?_
    refine V.if_lt (tgt := 42) dR_made_6 (by decide) (fun c_6 => ?_) (fun c_6 => ?_)
    · try simp only [zz_m1lt, zz_m1ge, not_true_eq_false, not_false_eq_true] at c_6
      refine V.iconst (v := (-1)) dR_made_42 (by decide) ?_
      refine V.ireturn dR_made_43 rfl rfl ?_
      exact h0 (by unfold s_can; rw [hh])
    · try simp only [zz_m1lt, zz_m1ge, not_true_eq_false, not_false_eq_true] at c_6
      all_goals omega
  | some d =>
    have hd := s_home_lt hin2 hhl hh
    cases hr : s_ent T p d (s_last p len) len with
    | some e2 =>
      have he2 := s_ent_lt hr
      first | refine V.aload_n dR_made_0 rfl ?_ | refine V.aload_nN dR_made_0 rfl ?_
      refine V.callVk (kd := 4) 0 _ 0 _ [] dR_made_1 okR_home n_R_69 (by omega) (by assumption) rfl imR_home seR_home_R (by decide) (by decide) rfl rfl (Nat.le_of_ble_eq_true rfl) (Nat.le_of_ble_eq_true rfl) (Nat.le_of_eq (Nat.zero_add _)) (Nat.le_of_eq (Nat.zero_add _)) (kR_home hS hP hT hH hhd ?_)
      rw [hh]
      show V G mR_made 4 _ [.int (nI d)] h 0 0 Q
      refine V.istore_n dR_made_4 (by decide) ?_
      refine V.iload_n dR_made_5 rfl ?_
      refine V.if_lt (tgt := 42) dR_made_6 (by decide) (fun c_6 => ?_) (fun c_6 => ?_)
      · try simp (disch := omega) only [nI_ltI, nI_leI, nI_eq, zz_lt0, zz_ge0, zz_gt0, zz_le0, zz_eq0, zz_m1lt, zz_m1ge, zz_m1eq, bI_eq0, decide_eq_false_iff_not, decide_eq_true_eq, Decidable.not_not, not_true_eq_false, not_false_eq_true, Nat.not_lt, Nat.not_le, Bool.not_eq_false, Bool.not_eq_true] at c_6
        all_goals omega
      · try simp (disch := omega) only [nI_ltI, nI_leI, nI_eq, zz_lt0, zz_ge0, zz_gt0, zz_le0, zz_eq0, zz_m1lt, zz_m1ge, zz_m1eq, bI_eq0, decide_eq_false_iff_not, decide_eq_true_eq, Decidable.not_not, not_true_eq_false, not_false_eq_true, Nat.not_lt, Nat.not_le, Bool.not_eq_false, Bool.not_eq_true] at c_6
        first | refine V.aload_n dR_made_9 rfl ?_ | refine V.aload_nN dR_made_9 rfl ?_
        refine V.callVk (kd := 4) 0 _ 0 _ [] dR_made_10 okR_isName n_R_72 (by omega) (by assumption) rfl imR_isName seR_isName_R (by decide) (by decide) rfl rfl (Nat.le_of_ble_eq_true rfl) (Nat.le_of_ble_eq_true rfl) (Nat.le_of_eq (Nat.zero_add _)) (Nat.le_of_eq (Nat.zero_add _)) (kR_isName hS hP ?_)
        refine V.if_eq (tgt := 42) dR_made_13 (by decide) (fun c_13 => ?_) (fun c_13 => ?_)
        · try simp (disch := omega) only [nI_ltI, nI_leI, nI_eq, zz_lt0, zz_ge0, zz_gt0, zz_le0, zz_eq0, zz_m1lt, zz_m1ge, zz_m1eq, bI_eq0, decide_eq_false_iff_not, decide_eq_true_eq, Decidable.not_not, not_true_eq_false, not_false_eq_true, Nat.not_lt, Nat.not_le, Bool.not_eq_false, Bool.not_eq_true] at c_13
          refine V.iconst (v := (-1)) dR_made_42 (by decide) ?_
          refine V.ireturn dR_made_43 rfl rfl ?_
          have hno : ¬ (s_isName p len ∧ ents ≠ 300 ∧ s_ent T p d (s_last p len) len = none) := by first | exact fun z => c_13 z.1 | exact fun z => z.2.1 c_23 | exact fun z => by (rw [hr] at z; cases z.2.2)
          exact h0 (by unfold s_can; rw [hh]; dsimp only; rw [if_neg hno])
        · try simp (disch := omega) only [nI_ltI, nI_leI, nI_eq, zz_lt0, zz_ge0, zz_gt0, zz_le0, zz_eq0, zz_m1lt, zz_m1ge, zz_m1eq, bI_eq0, decide_eq_false_iff_not, decide_eq_true_eq, Decidable.not_not, not_true_eq_false, not_false_eq_true, Nat.not_lt, Nat.not_le, Bool.not_eq_false, Bool.not_eq_true] at c_13
          first | refine V.aload_n dR_made_16 rfl ?_ | refine V.aload_nN dR_made_16 rfl ?_
          refine V.getk dR_made_17 (by omega) (by assumption) f_R_28_4 (by assumption) ?_
          refine V.sipush (v := (nI 300)) dR_made_20 (by decide) ?_
          refine V.icmp_eq (tgt := 42) dR_made_23 (by decide) (fun c_23 => ?_) (fun c_23 => ?_)
          · try simp (disch := omega) only [nI_ltI, nI_leI, nI_eq, zz_lt0, zz_ge0, zz_gt0, zz_le0, zz_eq0, zz_m1lt, zz_m1ge, zz_m1eq, bI_eq0, decide_eq_false_iff_not, decide_eq_true_eq, Decidable.not_not, not_true_eq_false, not_false_eq_true, Nat.not_lt, Nat.not_le, Bool.not_eq_false, Bool.not_eq_true] at c_23
            refine V.iconst (v := (-1)) dR_made_42 (by decide) ?_
            refine V.ireturn dR_made_43 rfl rfl ?_
            have hno : ¬ (s_isName p len ∧ ents ≠ 300 ∧ s_ent T p d (s_last p len) len = none) := by first | exact fun z => c_13 z.1 | exact fun z => z.2.1 c_23 | exact fun z => by (rw [hr] at z; cases z.2.2)
            exact h0 (by unfold s_can; rw [hh]; dsimp only; rw [if_neg hno])
          · try simp (disch := omega) only [nI_ltI, nI_leI, nI_eq, zz_lt0, zz_ge0, zz_gt0, zz_le0, zz_eq0, zz_m1lt, zz_m1ge, zz_m1eq, bI_eq0, decide_eq_false_iff_not, decide_eq_true_eq, Decidable.not_not, not_true_eq_false, not_false_eq_true, Nat.not_lt, Nat.not_le, Bool.not_eq_false, Bool.not_eq_true] at c_23
            first | refine V.aload_n dR_made_26 rfl ?_ | refine V.aload_nN dR_made_26 rfl ?_
            refine V.iload_n dR_made_27 rfl ?_
            first | refine V.aload_n dR_made_28 rfl ?_ | refine V.aload_nN dR_made_28 rfl ?_
            refine V.callVk (kd := 4) 0 _ 0 _ [] dR_made_29 okR_last n_R_61 (by omega) (by assumption) rfl imR_last seR_last_R (by decide) (by decide) rfl rfl (Nat.le_of_ble_eq_true rfl) (Nat.le_of_ble_eq_true rfl) (Nat.le_of_eq (Nat.zero_add _)) (Nat.le_of_eq (Nat.zero_add _)) (kR_last hS hP ?_)
            first | refine V.aload_n dR_made_32 rfl ?_ | refine V.aload_nN dR_made_32 rfl ?_
            refine V.getk dR_made_33 (by omega) (by assumption) f_R_44_4 (by assumption) ?_
            refine V.callVk (kd := 4) 0 _ 0 _ [_, _, _] dR_made_36 okR_entry n_R_51 (by omega) (by assumption) rfl imR_entry seR_entry_R (by decide) (by decide) rfl rfl (Nat.le_of_ble_eq_true rfl) (Nat.le_of_ble_eq_true rfl) (Nat.le_of_eq (Nat.zero_add _)) (Nat.le_of_eq (Nat.zero_add _)) (kR_entry hS hP hT hd (by omega) (by omega) ?_)
            rw [hr]
            show V G mR_made 39 _ [.int (nI e2)] h 0 0 Q
            refine V.if_lt (tgt := 44) dR_made_39 (by decide) (fun c_39 => ?_) (fun c_39 => ?_)
            · try simp (disch := omega) only [nI_ltI, nI_leI, nI_eq, zz_lt0, zz_ge0, zz_gt0, zz_le0, zz_eq0, zz_m1lt, zz_m1ge, zz_m1eq, bI_eq0, decide_eq_false_iff_not, decide_eq_true_eq, Decidable.not_not, not_true_eq_false, not_false_eq_true, Nat.not_lt, Nat.not_le, Bool.not_eq_false, Bool.not_eq_true] at c_39
              all_goals omega
            · try simp (disch := omega) only [nI_ltI, nI_leI, nI_eq, zz_lt0, zz_ge0, zz_gt0, zz_le0, zz_eq0, zz_m1lt, zz_m1ge, zz_m1eq, bI_eq0, decide_eq_false_iff_not, decide_eq_true_eq, Decidable.not_not, not_true_eq_false, not_false_eq_true, Nat.not_lt, Nat.not_le, Bool.not_eq_false, Bool.not_eq_true] at c_39
              refine V.iconst (v := (-1)) dR_made_42 (by decide) ?_
              refine V.ireturn dR_made_43 rfl rfl ?_
              have hno : ¬ (s_isName p len ∧ ents ≠ 300 ∧ s_ent T p d (s_last p len) len = none) := by first | exact fun z => c_13 z.1 | exact fun z => z.2.1 c_23 | exact fun z => by (rw [hr] at z; cases z.2.2)
              exact h0 (by unfold s_can; rw [hh]; dsimp only; rw [if_neg hno])
    | none =>
      first | refine V.aload_n dR_made_0 rfl ?_ | refine V.aload_nN dR_made_0 rfl ?_
      refine V.callVk (kd := 4) 0 _ 0 _ [] dR_made_1 okR_home n_R_69 (by omega) (by assumption) rfl imR_home seR_home_R (by decide) (by decide) rfl rfl (Nat.le_of_ble_eq_true rfl) (Nat.le_of_ble_eq_true rfl) (Nat.le_of_eq (Nat.zero_add _)) (Nat.le_of_eq (Nat.zero_add _)) (kR_home hS hP hT hH hhd ?_)
      rw [hh]
      show V G mR_made 4 _ [.int (nI d)] h 0 0 Q
      refine V.istore_n dR_made_4 (by decide) ?_
      refine V.iload_n dR_made_5 rfl ?_
      refine V.if_lt (tgt := 42) dR_made_6 (by decide) (fun c_6 => ?_) (fun c_6 => ?_)
      · try simp (disch := omega) only [nI_ltI, nI_leI, nI_eq, zz_lt0, zz_ge0, zz_gt0, zz_le0, zz_eq0, zz_m1lt, zz_m1ge, zz_m1eq, bI_eq0, decide_eq_false_iff_not, decide_eq_true_eq, Decidable.not_not, not_true_eq_false, not_false_eq_true, Nat.not_lt, Nat.not_le, Bool.not_eq_false, Bool.not_eq_true] at c_6
        all_goals omega
      · try simp (disch := omega) only [nI_ltI, nI_leI, nI_eq, zz_lt0, zz_ge0, zz_gt0, zz_le0, zz_eq0, zz_m1lt, zz_m1ge, zz_m1eq, bI_eq0, decide_eq_false_iff_not, decide_eq_true_eq, Decidable.not_not, not_true_eq_false, not_false_eq_true, Nat.not_lt, Nat.not_le, Bool.not_eq_false, Bool.not_eq_true] at c_6
        first | refine V.aload_n dR_made_9 rfl ?_ | refine V.aload_nN dR_made_9 rfl ?_
        refine V.callVk (kd := 4) 0 _ 0 _ [] dR_made_10 okR_isName n_R_72 (by omega) (by assumption) rfl imR_isName seR_isName_R (by decide) (by decide) rfl rfl (Nat.le_of_ble_eq_true rfl) (Nat.le_of_ble_eq_true rfl) (Nat.le_of_eq (Nat.zero_add _)) (Nat.le_of_eq (Nat.zero_add _)) (kR_isName hS hP ?_)
        refine V.if_eq (tgt := 42) dR_made_13 (by decide) (fun c_13 => ?_) (fun c_13 => ?_)
        · try simp (disch := omega) only [nI_ltI, nI_leI, nI_eq, zz_lt0, zz_ge0, zz_gt0, zz_le0, zz_eq0, zz_m1lt, zz_m1ge, zz_m1eq, bI_eq0, decide_eq_false_iff_not, decide_eq_true_eq, Decidable.not_not, not_true_eq_false, not_false_eq_true, Nat.not_lt, Nat.not_le, Bool.not_eq_false, Bool.not_eq_true] at c_13
          refine V.iconst (v := (-1)) dR_made_42 (by decide) ?_
          refine V.ireturn dR_made_43 rfl rfl ?_
          have hno : ¬ (s_isName p len ∧ ents ≠ 300 ∧ s_ent T p d (s_last p len) len = none) := by first | exact fun z => c_13 z.1 | exact fun z => z.2.1 c_23 | exact fun z => by (rw [hr] at z; cases z.2.2)
          exact h0 (by unfold s_can; rw [hh]; dsimp only; rw [if_neg hno])
        · try simp (disch := omega) only [nI_ltI, nI_leI, nI_eq, zz_lt0, zz_ge0, zz_gt0, zz_le0, zz_eq0, zz_m1lt, zz_m1ge, zz_m1eq, bI_eq0, decide_eq_false_iff_not, decide_eq_true_eq, Decidable.not_not, not_true_eq_false, not_false_eq_true, Nat.not_lt, Nat.not_le, Bool.not_eq_false, Bool.not_eq_true] at c_13
          first | refine V.aload_n dR_made_16 rfl ?_ | refine V.aload_nN dR_made_16 rfl ?_
          refine V.getk dR_made_17 (by omega) (by assumption) f_R_28_4 (by assumption) ?_
          refine V.sipush (v := (nI 300)) dR_made_20 (by decide) ?_
          refine V.icmp_eq (tgt := 42) dR_made_23 (by decide) (fun c_23 => ?_) (fun c_23 => ?_)
          · try simp (disch := omega) only [nI_ltI, nI_leI, nI_eq, zz_lt0, zz_ge0, zz_gt0, zz_le0, zz_eq0, zz_m1lt, zz_m1ge, zz_m1eq, bI_eq0, decide_eq_false_iff_not, decide_eq_true_eq, Decidable.not_not, not_true_eq_false, not_false_eq_true, Nat.not_lt, Nat.not_le, Bool.not_eq_false, Bool.not_eq_true] at c_23
            refine V.iconst (v := (-1)) dR_made_42 (by decide) ?_
            refine V.ireturn dR_made_43 rfl rfl ?_
            have hno : ¬ (s_isName p len ∧ ents ≠ 300 ∧ s_ent T p d (s_last p len) len = none) := by first | exact fun z => c_13 z.1 | exact fun z => z.2.1 c_23 | exact fun z => by (rw [hr] at z; cases z.2.2)
            exact h0 (by unfold s_can; rw [hh]; dsimp only; rw [if_neg hno])
          · try simp (disch := omega) only [nI_ltI, nI_leI, nI_eq, zz_lt0, zz_ge0, zz_gt0, zz_le0, zz_eq0, zz_m1lt, zz_m1ge, zz_m1eq, bI_eq0, decide_eq_false_iff_not, decide_eq_true_eq, Decidable.not_not, not_true_eq_false, not_false_eq_true, Nat.not_lt, Nat.not_le, Bool.not_eq_false, Bool.not_eq_true] at c_23
            first | refine V.aload_n dR_made_26 rfl ?_ | refine V.aload_nN dR_made_26 rfl ?_
            refine V.iload_n dR_made_27 rfl ?_
            first | refine V.aload_n dR_made_28 rfl ?_ | refine V.aload_nN dR_made_28 rfl ?_
            refine V.callVk (kd := 4) 0 _ 0 _ [] dR_made_29 okR_last n_R_61 (by omega) (by assumption) rfl imR_last seR_last_R (by decide) (by decide) rfl rfl (Nat.le_of_ble_eq_true rfl) (Nat.le_of_ble_eq_true rfl) (Nat.le_of_eq (Nat.zero_add _)) (Nat.le_of_eq (Nat.zero_add _)) (kR_last hS hP ?_)
            first | refine V.aload_n dR_made_32 rfl ?_ | refine V.aload_nN dR_made_32 rfl ?_
            refine V.getk dR_made_33 (by omega) (by assumption) f_R_44_4 (by assumption) ?_
            refine V.callVk (kd := 4) 0 _ 0 _ [_, _, _] dR_made_36 okR_entry n_R_51 (by omega) (by assumption) rfl imR_entry seR_entry_R (by decide) (by decide) rfl rfl (Nat.le_of_ble_eq_true rfl) (Nat.le_of_ble_eq_true rfl) (Nat.le_of_eq (Nat.zero_add _)) (Nat.le_of_eq (Nat.zero_add _)) (kR_entry hS hP hT hd (by omega) (by omega) ?_)
            rw [hr]
            show V G mR_made 39 _ [.int (-1)] h 0 0 Q
            refine V.if_lt (tgt := 44) dR_made_39 (by decide) (fun c_39 => ?_) (fun c_39 => ?_)
            · try simp only [zz_m1lt, zz_m1ge, not_true_eq_false, not_false_eq_true] at c_39
              have hcan : s_can T p hand len ents = some d := by (unfold s_can; rw [hh]; dsimp only; rw [if_pos ⟨c_13, c_23, hr⟩])
              have hnl : len - s_last p len ≤ 60 := c_13.2.1
              obtain ⟨f, hf1, hf3, hf0f, hfm⟩ := s_free (T := T) (by omega) (by omega)
              have loop : ∀ r x, x + r = f → 1 ≤ x → V G mR_made 46 [(3, .int (nI x)), (2, .int (nI d)), (0, .ref o), (1, .int (nI w))] [] h 0 0 Q := by
                intro r
                induction r with
                | zero =>
                  intro x hr2 hx
                  rw [show x = f by omega]
                  have hkf := hkd f (by omega)
                  rw [hf0f] at hkf
                  first | refine V.aload_n dR_made_46 rfl ?_ | refine V.aload_nN dR_made_46 rfl ?_
                  refine V.getk dR_made_47 (by omega) (by assumption) f_R_13_4 (by assumption) ?_
                  refine V.iload_n dR_made_50 rfl ?_
                  refine V.ialoadN dR_made_51 (by omega) (by assumption) (by omega) hkf ?_
                  refine V.if_eq (tgt := 61) dR_made_52 (by decide) (fun c_52 => ?_) (fun c_52 => ?_)
                  · try simp (disch := omega) only [nI_ltI, nI_leI, nI_eq, zz_lt0, zz_ge0, zz_gt0, zz_le0, zz_eq0, zz_m1lt, zz_m1ge, zz_m1eq, bI_eq0, decide_eq_false_iff_not, decide_eq_true_eq, Decidable.not_not, not_true_eq_false, not_false_eq_true, Nat.not_lt, Nat.not_le, Bool.not_eq_false, Bool.not_eq_true] at c_52
                    first | refine V.aload_n dR_made_61 rfl ?_ | refine V.aload_nN dR_made_61 rfl ?_
                    refine V.getk dR_made_62 (by omega) (by assumption) f_R_13_4 (by assumption) ?_
                    refine V.iload_n dR_made_65 rfl ?_
                    refine V.iload_n dR_made_66 rfl ?_
                    refine V.iastoreN dR_made_67 (by omega) (by assumption) (by omega) rfl ?_
                    intro h67 e67
                    have hI67 : RI G h67 o (fu T.1 f w, T.2) p len hand op gone ents bl := by (rw [e67]; exact hI.kind (by omega))
                    have hF67 : FrO o h h67 := by (rw [e67]; exact FrO.rf.put (by omega))
                    obtain ⟨hSb, hPb, hTb, hHb, hOb, hgb, hEb, hBb, hopb⟩ := id hI67
                    obtain ⟨hzb, hk0b, hk1b, hk2b, hk3b, hk4b, hk5b, hk6b, hk7b, hk8b, hf0b, hf2b, hf3b, hf4b, hf5b, hf6b, hf12b, hf13b⟩ := id hSb
                    obtain ⟨hlnb, hppb, hl2b, hpb⟩ := id hPb
                    obtain ⟨hkdb, hkd2b, hinb, hin2b, hnsb, hns2b, hnmb, hnm2b⟩ := id hTb
                    obtain ⟨hhandb, hhlb⟩ := id hHb
                    first | refine V.aload_n dR_made_68 rfl ?_ | refine V.aload_nN dR_made_68 rfl ?_
                    refine V.getk dR_made_69 (by omega) (by assumption) f_R_19_4 (by assumption) ?_
                    refine V.iload_n dR_made_72 rfl ?_
                    refine V.iconst (v := (nI 0)) dR_made_73 (by decide) ?_
                    refine V.iastoreN dR_made_74 (by omega) (by assumption) (by omega) rfl ?_
                    intro h74 e74
                    have hI74 : RI G h74 o (fu T.1 f w, T.2) p len hand op gone ents bl := by (rw [e74]; exact hI67.size0 (fb_none (fun q hq z => hbk q hq (by (rw [z]; exact hf0f)))))
                    have hF74 : FrO o h h74 := by (rw [e74]; exact hF67.put (by omega))
                    obtain ⟨hSc, hPc, hTc, hHc, hOc, hgc, hEc, hBc, hopc⟩ := id hI74
                    obtain ⟨hzc, hk0c, hk1c, hk2c, hk3c, hk4c, hk5c, hk6c, hk7c, hk8c, hf0c, hf2c, hf3c, hf4c, hf5c, hf6c, hf12c, hf13c⟩ := id hSc
                    obtain ⟨hlnc, hppc, hl2c, hpc⟩ := id hPc
                    obtain ⟨hkdc, hkd2c, hinc, hin2c, hnsc, hns2c, hnmc, hnm2c⟩ := id hTc
                    obtain ⟨hhandc, hhlc⟩ := id hHc
                    first | refine V.aload_n dR_made_75 rfl ?_ | refine V.aload_nN dR_made_75 rfl ?_
                    refine V.dup dR_made_76 rfl ?_
                    refine V.getk dR_made_77 (by omega) (by assumption) f_R_28_4 (by assumption) ?_
                    refine V.iconst (v := (nI 1)) dR_made_80 (by decide) ?_
                    refine V.iaddN dR_made_81 ?_
                    refine V.putk dR_made_82 (by omega) (by assumption) p_R_28_4 rfl rfl ?_
                    intro h82 e82
                    have hI82 : RI G h82 o (fu T.1 f w, T.2) p len hand op gone (ents + 1) bl := by (rw [e82]; exact hI74.ents_)
                    have hF82 : FrO o h h82 := by (rw [e82]; exact hF74.put (by omega))
                    obtain ⟨hSd, hPd, hTd, hHd, hOd, hgd, hEd, hBd, hopd⟩ := id hI82
                    obtain ⟨hzd, hk0d, hk1d, hk2d, hk3d, hk4d, hk5d, hk6d, hk7d, hk8d, hf0d, hf2d, hf3d, hf4d, hf5d, hf6d, hf12d, hf13d⟩ := id hSd
                    obtain ⟨hlnd, hppd, hl2d, hpd⟩ := id hPd
                    obtain ⟨hkdd, hkd2d, hind, hin2d, hnsd, hns2d, hnmd, hnm2d⟩ := id hTd
                    obtain ⟨hhandd, hhld⟩ := id hHd
                    first | refine V.aload_n dR_made_85 rfl ?_ | refine V.aload_nN dR_made_85 rfl ?_
                    refine V.iload_n dR_made_86 rfl ?_
                    refine V.iload_n dR_made_87 rfl ?_
                    refine V.callVk (kd := 4) 0 _ 0 _ [_, _] dR_made_88 okR_put n_R_76 (by omega) (by assumption) rfl imR_put seR_put_R (by decide) (by decide) rfl rfl (Nat.le_of_ble_eq_true rfl) (Nat.le_of_ble_eq_true rfl) (Nat.le_of_eq (Nat.zero_add _)) (Nat.le_of_eq (Nat.zero_add _)) (kR_put hI82 (by omega) hd hnl (fun h9 hI9 hF9 => ?_))
                    refine V.iload_n dR_made_91 rfl ?_
                    refine V.ireturn dR_made_92 rfl rfl ?_
                    exact h1 d hcan f (by omega) (by omega) hf0f (fun x hx => hfm x hx) h9 hI9 (hF82.tr hF9)
                  · try simp (disch := omega) only [nI_ltI, nI_leI, nI_eq, zz_lt0, zz_ge0, zz_gt0, zz_le0, zz_eq0, zz_m1lt, zz_m1ge, zz_m1eq, bI_eq0, decide_eq_false_iff_not, decide_eq_true_eq, Decidable.not_not, not_true_eq_false, not_false_eq_true, Nat.not_lt, Nat.not_le, Bool.not_eq_false, Bool.not_eq_true] at c_52
                    all_goals omega
                | succ r ih =>
                  intro x hr2 hx
                  have hkx := hfm x (by omega)
                  have hk2x := hkd2 x (by omega)
                  first | refine V.aload_n dR_made_46 rfl ?_ | refine V.aload_nN dR_made_46 rfl ?_
                  refine V.getk dR_made_47 (by omega) (by assumption) f_R_13_4 (by assumption) ?_
                  refine V.iload_n dR_made_50 rfl ?_
                  refine V.ialoadN dR_made_51 (by omega) (by assumption) (by omega) (hkd x (by omega)) ?_
                  refine V.if_eq (tgt := 61) dR_made_52 (by decide) (fun c_52 => ?_) (fun c_52 => ?_)
                  · try simp (disch := omega) only [nI_ltI, nI_leI, nI_eq, zz_lt0, zz_ge0, zz_gt0, zz_le0, zz_eq0, zz_m1lt, zz_m1ge, zz_m1eq, bI_eq0, decide_eq_false_iff_not, decide_eq_true_eq, Decidable.not_not, not_true_eq_false, not_false_eq_true, Nat.not_lt, Nat.not_le, Bool.not_eq_false, Bool.not_eq_true] at c_52
                    all_goals omega
                  · try simp (disch := omega) only [nI_ltI, nI_leI, nI_eq, zz_lt0, zz_ge0, zz_gt0, zz_le0, zz_eq0, zz_m1lt, zz_m1ge, zz_m1eq, bI_eq0, decide_eq_false_iff_not, decide_eq_true_eq, Decidable.not_not, not_true_eq_false, not_false_eq_true, Nat.not_lt, Nat.not_le, Bool.not_eq_false, Bool.not_eq_true] at c_52
                    refine V.iincN dR_made_55 rfl (by decide) ?_
                    refine V.goto (tgt := 46) dR_made_58 (by decide) ?_
                    exact V.re [3, 2, 0, 1] rfl (ih (x + 1) (by omega) (by omega))
              refine V.iconst (v := (nI 1)) dR_made_44 (by decide) ?_
              refine V.istore_n dR_made_45 (by decide) ?_
              exact V.re [3, 2, 0, 1] rfl (loop (f - 1) 1 (by omega) (by omega))
            · try simp only [zz_m1lt, zz_m1ge, not_true_eq_false, not_false_eq_true] at c_39
              all_goals omega
set_option maxHeartbeats 4000000 in
set_option maxRecDepth 100000 in
/-- PathTreeModel.make -/
theorem kR_make {G : GG} {h : HH} {o : Nat} {T : TT} {p : Nat → Nat} {len hand : Nat} {op : Option Nat} {gone : Bool} {ents : Nat} {bl : List (Nat × Nat)} {Q : Option Value → HH → Prop} (hI : RI G h o T p len hand op gone ents bl) (hhd : T.1 hand = 2) (h00 : T.1 0 = 2) (hen : ents = s_many T) (hbk : ∀ q ∈ bl, T.1 q.2 ≠ 0) (h0 : s_lead T p hand len ≠ none ∨ s_can T p hand len ents = none → ∀ h', RI G h' o T p 0 hand op gone ents bl → FrO o h h' → Q (some (.int (nI 0))) h') (h1 : s_lead T p hand len = none → ∀ d, s_can T p hand len ents = some d → ∀ e, 1 ≤ e → e < 300 → T.1 e = 0 → (∀ x, x < e → T.1 x ≠ 0) → ∀ h', RI G h' o (s_new T e 2 d p len) p 0 hand op gone (ents + 1) bl → FrO o h h' → Q (some (.int (nI 1))) h') : V G mR_make 0 (lv_args 0 [.ref o]) [] h 0 0 Q := by
  obtain ⟨hS, hP, hT, hH, hO, hg, hE, hB, hop⟩ := id hI
  obtain ⟨hz, hk0, hk1, hk2, hk3, hk4, hk5, hk6, hk7, hk8, hf0, hf2, hf3, hf4, hf5, hf6, hf12, hf13⟩ := id hS
  obtain ⟨hln, hpp, hl2, hp⟩ := id hP
  obtain ⟨hkd, hkd2, hin, hin2, hns, hns2, hnm, hnm2⟩ := id hT
  obtain ⟨hhand, hhl⟩ := id hH
  cases hr : s_lead T p hand len with
  | none =>
    first | refine V.aload_n dR_make_0 rfl ?_ | refine V.aload_nN dR_make_0 rfl ?_
    first | refine V.aload_n dR_make_1 rfl ?_ | refine V.aload_nN dR_make_1 rfl ?_
    refine V.getk dR_make_2 (by omega) (by assumption) f_R_44_4 (by assumption) ?_
    refine V.callVk (kd := 4) 0 _ 0 _ [_] dR_make_5 okR_lead n_R_65 (by omega) (by assumption) rfl imR_lead seR_lead_R (by decide) (by decide) rfl rfl (Nat.le_of_ble_eq_true rfl) (Nat.le_of_ble_eq_true rfl) (Nat.le_of_eq (Nat.zero_add _)) (Nat.le_of_eq (Nat.zero_add _)) (kR_lead hS hP hT hH (by omega) ?_)
    rw [hr]
    show V G mR_make 8 _ [.int (-1)] h 0 0 Q
    refine V.if_ge (tgt := 23) dR_make_8 (by decide) (fun c_8 => ?_) (fun c_8 => ?_)
    · try simp only [zz_m1lt, zz_m1ge, not_true_eq_false, not_false_eq_true] at c_8
      all_goals omega
    · try simp only [zz_m1lt, zz_m1ge, not_true_eq_false, not_false_eq_true] at c_8
      first | refine V.aload_n dR_make_11 rfl ?_ | refine V.aload_nN dR_make_11 rfl ?_
      refine V.iconst (v := (nI 2)) dR_make_12 (by decide) ?_
      refine V.callVk (kd := 4) 0 _ 0 _ [_] dR_make_13 okR_made n_R_80 (by omega) (by assumption) rfl imR_made seR_made_R (by decide) (by decide) rfl rfl (Nat.le_of_ble_eq_true rfl) (Nat.le_of_ble_eq_true rfl) (Nat.le_of_eq (Nat.zero_add _)) (Nat.le_of_eq (Nat.zero_add _)) (kR_made hI hhd h00 hen hbk (by omega) (fun hc => ?_) (fun d hc e he1 he2 hfe hfst h9 hI9 hF9 => ?_))
      · show V G mR_make 16 _ [.int (-1)] h 0 0 Q
        refine V.if_lt (tgt := 23) dR_make_16 (by decide) (fun c_16 => ?_) (fun c_16 => ?_)
        · try simp only [zz_m1lt, zz_m1ge, not_true_eq_false, not_false_eq_true] at c_16
          refine V.iconst (v := (nI 0)) dR_make_23 (by decide) ?_
          refine V.istore_n dR_make_24 (by decide) ?_
          first | refine V.aload_n dR_make_25 rfl ?_ | refine V.aload_nN dR_make_25 rfl ?_
          refine V.iconst (v := (nI 0)) dR_make_26 (by decide) ?_
          refine V.putk dR_make_27 (by omega) (by assumption) p_R_44_4 rfl rfl ?_
          intro h2 e2
          have hI2 : RI G h2 o T p 0 hand op gone ents bl := by (rw [e2]; exact hI.len)
          have hF2 : FrO o h h2 := by (rw [e2]; exact FrO.rf.put (by omega))
          refine V.iload_n dR_make_30 rfl ?_
          refine V.ireturn dR_make_31 rfl rfl ?_
          exact h0 (Or.inr hc) h2 hI2 hF2
        · try simp only [zz_m1lt, zz_m1ge, not_true_eq_false, not_false_eq_true] at c_16
          all_goals omega
      · obtain ⟨hSb, hPb, hTb, hHb, hOb, hgb, hEb, hBb, hopb⟩ := id hI9
        obtain ⟨hzb, hk0b, hk1b, hk2b, hk3b, hk4b, hk5b, hk6b, hk7b, hk8b, hf0b, hf2b, hf3b, hf4b, hf5b, hf6b, hf12b, hf13b⟩ := id hSb
        obtain ⟨hlnb, hppb, hl2b, hpb⟩ := id hPb
        obtain ⟨hkdb, hkd2b, hinb, hin2b, hnsb, hns2b, hnmb, hnm2b⟩ := id hTb
        obtain ⟨hhandb, hhlb⟩ := id hHb
        refine V.if_lt (tgt := 23) dR_make_16 (by decide) (fun c_16 => ?_) (fun c_16 => ?_)
        · try simp (disch := omega) only [nI_ltI, nI_leI, nI_eq, zz_lt0, zz_ge0, zz_gt0, zz_le0, zz_eq0, zz_m1lt, zz_m1ge, zz_m1eq, bI_eq0, decide_eq_false_iff_not, decide_eq_true_eq, Decidable.not_not, not_true_eq_false, not_false_eq_true, Nat.not_lt, Nat.not_le, Bool.not_eq_false, Bool.not_eq_true] at c_16
          all_goals omega
        · try simp (disch := omega) only [nI_ltI, nI_leI, nI_eq, zz_lt0, zz_ge0, zz_gt0, zz_le0, zz_eq0, zz_m1lt, zz_m1ge, zz_m1eq, bI_eq0, decide_eq_false_iff_not, decide_eq_true_eq, Decidable.not_not, not_true_eq_false, not_false_eq_true, Nat.not_lt, Nat.not_le, Bool.not_eq_false, Bool.not_eq_true] at c_16
          refine V.iconst (v := (nI 1)) dR_make_19 (by decide) ?_
          refine V.goto (tgt := 24) dR_make_20 (by decide) ?_
          refine V.istore_n dR_make_24 (by decide) ?_
          first | refine V.aload_n dR_make_25 rfl ?_ | refine V.aload_nN dR_make_25 rfl ?_
          refine V.iconst (v := (nI 0)) dR_make_26 (by decide) ?_
          refine V.putk dR_make_27 (by omega) (by assumption) p_R_44_4 rfl rfl ?_
          intro h2 e2
          have hI2 : RI G h2 o (s_new T e 2 d p len) p 0 hand op gone (ents + 1) bl := by (rw [e2]; exact hI9.len)
          have hF2 : FrO o h h2 := by (rw [e2]; exact hF9.put (by omega))
          refine V.iload_n dR_make_30 rfl ?_
          refine V.ireturn dR_make_31 rfl rfl ?_
          exact h1 hr d hc e he1 he2 hfe hfst h2 hI2 hF2
      skip
  | some e =>
    have he := s_lead_lt hin2 hhl hr
    first | refine V.aload_n dR_make_0 rfl ?_ | refine V.aload_nN dR_make_0 rfl ?_
    first | refine V.aload_n dR_make_1 rfl ?_ | refine V.aload_nN dR_make_1 rfl ?_
    refine V.getk dR_make_2 (by omega) (by assumption) f_R_44_4 (by assumption) ?_
    refine V.callVk (kd := 4) 0 _ 0 _ [_] dR_make_5 okR_lead n_R_65 (by omega) (by assumption) rfl imR_lead seR_lead_R (by decide) (by decide) rfl rfl (Nat.le_of_ble_eq_true rfl) (Nat.le_of_ble_eq_true rfl) (Nat.le_of_eq (Nat.zero_add _)) (Nat.le_of_eq (Nat.zero_add _)) (kR_lead hS hP hT hH (by omega) ?_)
    rw [hr]
    show V G mR_make 8 _ [.int (nI e)] h 0 0 Q
    refine V.if_ge (tgt := 23) dR_make_8 (by decide) (fun c_8 => ?_) (fun c_8 => ?_)
    · try simp (disch := omega) only [nI_ltI, nI_leI, nI_eq, zz_lt0, zz_ge0, zz_gt0, zz_le0, zz_eq0, zz_m1lt, zz_m1ge, zz_m1eq, bI_eq0, decide_eq_false_iff_not, decide_eq_true_eq, Decidable.not_not, not_true_eq_false, not_false_eq_true, Nat.not_lt, Nat.not_le, Bool.not_eq_false, Bool.not_eq_true] at c_8
      refine V.iconst (v := (nI 0)) dR_make_23 (by decide) ?_
      refine V.istore_n dR_make_24 (by decide) ?_
      first | refine V.aload_n dR_make_25 rfl ?_ | refine V.aload_nN dR_make_25 rfl ?_
      refine V.iconst (v := (nI 0)) dR_make_26 (by decide) ?_
      refine V.putk dR_make_27 (by omega) (by assumption) p_R_44_4 rfl rfl ?_
      intro h2 e2
      have hI2 : RI G h2 o T p 0 hand op gone ents bl := by (rw [e2]; exact hI.len)
      have hF2 : FrO o h h2 := by (rw [e2]; exact FrO.rf.put (by omega))
      refine V.iload_n dR_make_30 rfl ?_
      refine V.ireturn dR_make_31 rfl rfl ?_
      exact h0 (Or.inl (by rw [hr]; exact fun z => by (cases z))) h2 hI2 hF2
    · try simp (disch := omega) only [nI_ltI, nI_leI, nI_eq, zz_lt0, zz_ge0, zz_gt0, zz_le0, zz_eq0, zz_m1lt, zz_m1ge, zz_m1eq, bI_eq0, decide_eq_false_iff_not, decide_eq_true_eq, Decidable.not_not, not_true_eq_false, not_false_eq_true, Nat.not_lt, Nat.not_le, Bool.not_eq_false, Bool.not_eq_true] at c_8
      all_goals omega
