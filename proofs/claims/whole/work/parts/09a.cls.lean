section VIK
variable {G : GG} {i : MM} {pc : Nat} {lv : List (Nat × Value)} {st : List Value} {h : HH} {c s : Nat} {Q Q' : Option Value → HH → Prop}
theorem V.instk {a idx kd : Nat} {r : vw_C} (hd : decode (m_C i) pc = .ok (.instanceof idx, 3)) (ha : g_0 G ≤ a ∧ a < h.2.2) (hk : (h.1 a).1 = kd) (hkd : vwCl[kd]? = some r) (hw : Cond.classLink (m_Y i).cls idx r.1 ∈ tb) (kk : V G i (pc + 3) lv (.int 1 :: st) h c s Q) : V G i pc lv (.ref a :: st) h c s Q :=
  V.instS hd ha (by rw [hk]; exact hkd) hw kk
theorem V.castk {a idx kd : Nat} {r : vw_C} (hd : decode (m_C i) pc = .ok (.checkcast idx, 3)) (ha : g_0 G ≤ a ∧ a < h.2.2) (hk : (h.1 a).1 = kd) (hkd : vwCl[kd]? = some r) (hw : Cond.classLink (m_Y i).cls idx r.1 ∈ tb) (kk : V G i (pc + 3) lv (.ref a :: st) h c s Q) : V G i pc lv (.ref a :: st) h c s Q :=
  V.castS hd ha (by rw [hk]; exact hkd) hw kk
theorem V.instn {a idx kd : Nat} {r : vw_C} {nm : String} (hd : decode (m_C i) pc = .ok (.instanceof idx, 3)) (ha : g_0 G ≤ a ∧ a < h.2.2) (hk : (h.1 a).1 = kd) (hkd : vwCl[kd]? = some r) (hw : Cond.classLink (m_Y i).cls idx nm ∈ tb) (hc : (r.1, nm) ∈ n_N) (kk : V G i (pc + 3) lv (.int 0 :: st) h c s Q) : V G i pc lv (.ref a :: st) h c s Q :=
  V.instNo hd ha (by rw [hk]; exact hkd) hw hc kk
end VIK
set_option maxHeartbeats 4000000 in
set_option maxRecDepth 100000 in
/-- PathTree.step -/
theorem k_step {G : GG} {h : HH} {x : Nat} {T : TT} {p : Nat → Nat} {len hand : Nat} {bl : List (Nat × Nat)} {ad na : Nat → Nat} {ch : Nat → List Nat} {Q : Option Value → HH → Prop} {e a b : Nat} (hP : CP G h x T hand bl ad) (hX : TX G h (x + 1) p len) (hC : CT G h x T ad na ch) (he : e < 300) (hle : T.1 e ≠ 0) (ha : a ≤ b) (hb : b ≤ len) (q0 : s_along T p e a b = none → Q (some .null) h) (q1 : ∀ e', s_along T p e a b = some e' → Q (some (.ref (ad e'))) h) : V G mP_step 0 (lv_args 0 [.ref x, .ref (ad e), .int (nI a), .int (nI b)]) [] h 0 0 Q := by
  obtain ⟨ht, htk, hca, hln, hcs, hck, hch, hl2, hp⟩ := id hX
  obtain ⟨a1, a2, a3, a4, a5, a6, a7, a8, a9⟩ := id hP
  have hk2 := (hC.1 e he).1
  by_cases h2 : T.1 e = 2
  · have hd := hC.dir he h2
    by_cases h0 : e = 0
    · have hh : h.2.1 (ad e) 1 = .null := by (rw [h0]; exact hC.2.2.2.1.1)
      refine V.iload_n dP_step_0 rfl ?_
      refine V.iload_n dP_step_1 rfl ?_
      refine V.icmp_ne (tgt := 7) dP_step_2 (by decide) (fun c_2 => ?_) (fun c_2 => ?_)
      · try simp (disch := omega) only [nI_ltI, nI_leI, nI_eq, zz_lt0, zz_ge0, zz_gt0, zz_le0, zz_eq0, zz_m1lt, zz_m1ge, zz_m1eq, bI_eq0, decide_eq_false_iff_not, decide_eq_true_eq, Decidable.not_not, not_true_eq_false, not_false_eq_true, Nat.not_lt, Nat.not_le, Bool.not_eq_false, Bool.not_eq_true] at c_2
        first | refine V.aload_n dP_step_7 rfl ?_ | refine V.aload_nN dP_step_7 rfl ?_
        refine V.instk dP_step_8 hd.1 hd.2 rfl cl_P_16 ?_
        refine V.if_eq (tgt := 23) dP_step_11 (by decide) (fun c_11 => ?_) (fun c_11 => ?_)
        · skip
          exact absurd c_11 (by decide)
        · skip
          first | refine V.aload_n dP_step_14 rfl ?_ | refine V.aload_nN dP_step_14 rfl ?_
          refine V.castk dP_step_15 hd.1 hd.2 rfl cl_P_16 ?_
          first | refine V.astore dP_step_18 (by decide) ?_ | refine V.astoreN dP_step_18 (by decide) ?_
          refine V.goto (tgt := 25) dP_step_20 (by decide) ?_
          first | refine V.aload_n dP_step_25 rfl ?_ | refine V.aload_nN dP_step_25 rfl ?_
          refine V.getk dP_step_26 a1 a2 f_P_10_0 a3 ?_
          refine V.iload_n dP_step_29 rfl ?_
          refine V.iload_n dP_step_30 rfl ?_
          refine V.callVk (kd := 1) 0 _ 0 _ [_, _] dP_step_31 okT_isDot n_P_148 ht htk rfl imT_isDot seT_isDot_T (by decide) (by decide) rfl rfl (Nat.le_of_ble_eq_true rfl) (Nat.le_of_ble_eq_true rfl) (Nat.le_of_eq (Nat.zero_add _)) (Nat.le_of_eq (Nat.zero_add _)) (k_isDot hX ha hb ?_)
          refine V.if_eq (tgt := 40) dP_step_34 (by decide) (fun c_34 => ?_) (fun c_34 => ?_)
          · try simp (disch := omega) only [nI_ltI, nI_leI, nI_eq, zz_lt0, zz_ge0, zz_gt0, zz_le0, zz_eq0, zz_m1lt, zz_m1ge, zz_m1eq, bI_eq0, decide_eq_false_iff_not, decide_eq_true_eq, Decidable.not_not, not_true_eq_false, not_false_eq_true, Nat.not_lt, Nat.not_le, Bool.not_eq_false, Bool.not_eq_true] at c_34
            first | refine V.aload_n dP_step_40 rfl ?_ | refine V.aload_nN dP_step_40 rfl ?_
            refine V.getk dP_step_41 a1 a2 f_P_10_0 a3 ?_
            refine V.iload_n dP_step_44 rfl ?_
            refine V.iload_n dP_step_45 rfl ?_
            refine V.callVk (kd := 1) 0 _ 0 _ [_, _] dP_step_46 okT_isDotDot n_P_152 ht htk rfl imT_isDotDot seT_isDotDot_T (by decide) (by decide) rfl rfl (Nat.le_of_ble_eq_true rfl) (Nat.le_of_ble_eq_true rfl) (Nat.le_of_eq (Nat.zero_add _)) (Nat.le_of_eq (Nat.zero_add _)) (k_isDotDot hX ha hb ?_)
            refine V.if_eq (tgt := 71) dP_step_49 (by decide) (fun c_49 => ?_) (fun c_49 => ?_)
            · try simp (disch := omega) only [nI_ltI, nI_leI, nI_eq, zz_lt0, zz_ge0, zz_gt0, zz_le0, zz_eq0, zz_m1lt, zz_m1ge, zz_m1eq, bI_eq0, decide_eq_false_iff_not, decide_eq_true_eq, Decidable.not_not, not_true_eq_false, not_false_eq_true, Nat.not_lt, Nat.not_le, Bool.not_eq_false, Bool.not_eq_true] at c_49
              first | refine V.aload dP_step_71 rfl ?_ | refine V.aloadN dP_step_71 rfl ?_
              first | refine V.aload_n dP_step_73 rfl ?_ | refine V.aload_nN dP_step_73 rfl ?_
              refine V.getk dP_step_74 a1 a2 f_P_10_0 a3 ?_
              refine V.getk dP_step_77 ht htk f_P_156_1 hca ?_
              refine V.iload_n dP_step_80 rfl ?_
              refine V.iload_n dP_step_81 rfl ?_
              refine V.callVk (kd := 2) 0 _ 0 _ [_, _, _] dP_step_82 okD_entryCalled n_P_159 hd.1 hd.2 rfl imD_entryCalled seD_entryCalled_D (by decide) (by decide) rfl rfl (Nat.le_of_ble_eq_true rfl) (Nat.le_of_ble_eq_true rfl) (Nat.le_of_eq (Nat.zero_add _)) (Nat.le_of_eq (Nat.zero_add _)) (k_entryCalled hd (hC.2.2.2.2.2 e he h2).1 (hC.ens he h2) (N := 250) (q := p) ⟨hcs, hck, by omega, ha, by omega, fun j h1 h2 => hch j (by omega), fun j h1 h2 => hp j (by omega)⟩ (fun hn => ?_) (fun i hi hs => ?_))
              · refine V.areturnN dP_step_85 rfl (by simp) ?_
                exact q0 (by unfold s_along; rw [if_neg c_2, if_neg (by omega), if_neg c_34, if_neg c_49]; exact hC.ent0 he h2 hn)
              · refine V.areturn dP_step_85 rfl (by simp) ?_
                exact q1 i (by unfold s_along; rw [if_neg c_2, if_neg (by omega), if_neg c_34, if_neg c_49]; exact hC.ent1 he h2 hi hs)
              skip
            · try simp (disch := omega) only [nI_ltI, nI_leI, nI_eq, zz_lt0, zz_ge0, zz_gt0, zz_le0, zz_eq0, zz_m1lt, zz_m1ge, zz_m1eq, bI_eq0, decide_eq_false_iff_not, decide_eq_true_eq, Decidable.not_not, not_true_eq_false, not_false_eq_true, Nat.not_lt, Nat.not_le, Bool.not_eq_false, Bool.not_eq_true] at c_49
              first | refine V.aload dP_step_52 rfl ?_ | refine V.aloadN dP_step_52 rfl ?_
              refine V.getk dP_step_54 hd.1 hd.2 f_P_155_2 hh ?_
              refine V.ifnonnullN dP_step_57 ?_
              first | refine V.aload dP_step_60 rfl ?_ | refine V.aloadN dP_step_60 rfl ?_
              refine V.goto (tgt := 70) dP_step_62 (by decide) ?_
              first | refine V.areturn dP_step_70 rfl (by simp) ?_ | refine V.areturnN dP_step_70 rfl (by simp) ?_
              refine q1 e ?_
              unfold s_along
              rw [if_neg c_2, if_neg (by omega), if_neg c_34, if_pos c_49, h0, hC.2.2.2.1.2.2]
          · try simp (disch := omega) only [nI_ltI, nI_leI, nI_eq, zz_lt0, zz_ge0, zz_gt0, zz_le0, zz_eq0, zz_m1lt, zz_m1ge, zz_m1eq, bI_eq0, decide_eq_false_iff_not, decide_eq_true_eq, Decidable.not_not, not_true_eq_false, not_false_eq_true, Nat.not_lt, Nat.not_le, Bool.not_eq_false, Bool.not_eq_true] at c_34
            first | refine V.aload dP_step_37 rfl ?_ | refine V.aloadN dP_step_37 rfl ?_
            first | refine V.areturn dP_step_39 rfl (by simp) ?_ | refine V.areturnN dP_step_39 rfl (by simp) ?_
            exact q1 e (by unfold s_along; rw [if_neg c_2, if_neg (by omega), if_pos c_34])
      · try simp (disch := omega) only [nI_ltI, nI_leI, nI_eq, zz_lt0, zz_ge0, zz_gt0, zz_le0, zz_eq0, zz_m1lt, zz_m1ge, zz_m1eq, bI_eq0, decide_eq_false_iff_not, decide_eq_true_eq, Decidable.not_not, not_true_eq_false, not_false_eq_true, Nat.not_lt, Nat.not_le, Bool.not_eq_false, Bool.not_eq_true] at c_2
        first | refine V.aload_n dP_step_5 rfl ?_ | refine V.aload_nN dP_step_5 rfl ?_
        first | refine V.areturn dP_step_6 rfl (by simp) ?_ | refine V.areturnN dP_step_6 rfl (by simp) ?_
        exact q1 e (by unfold s_along; rw [if_pos c_2])
    · have hh := (hC.2.2.1 e he hle h0).1
      refine V.iload_n dP_step_0 rfl ?_
      refine V.iload_n dP_step_1 rfl ?_
      refine V.icmp_ne (tgt := 7) dP_step_2 (by decide) (fun c_2 => ?_) (fun c_2 => ?_)
      · try simp (disch := omega) only [nI_ltI, nI_leI, nI_eq, zz_lt0, zz_ge0, zz_gt0, zz_le0, zz_eq0, zz_m1lt, zz_m1ge, zz_m1eq, bI_eq0, decide_eq_false_iff_not, decide_eq_true_eq, Decidable.not_not, not_true_eq_false, not_false_eq_true, Nat.not_lt, Nat.not_le, Bool.not_eq_false, Bool.not_eq_true] at c_2
        first | refine V.aload_n dP_step_7 rfl ?_ | refine V.aload_nN dP_step_7 rfl ?_
        refine V.instk dP_step_8 hd.1 hd.2 rfl cl_P_16 ?_
        refine V.if_eq (tgt := 23) dP_step_11 (by decide) (fun c_11 => ?_) (fun c_11 => ?_)
        · skip
          exact absurd c_11 (by decide)
        · skip
          first | refine V.aload_n dP_step_14 rfl ?_ | refine V.aload_nN dP_step_14 rfl ?_
          refine V.castk dP_step_15 hd.1 hd.2 rfl cl_P_16 ?_
          first | refine V.astore dP_step_18 (by decide) ?_ | refine V.astoreN dP_step_18 (by decide) ?_
          refine V.goto (tgt := 25) dP_step_20 (by decide) ?_
          first | refine V.aload_n dP_step_25 rfl ?_ | refine V.aload_nN dP_step_25 rfl ?_
          refine V.getk dP_step_26 a1 a2 f_P_10_0 a3 ?_
          refine V.iload_n dP_step_29 rfl ?_
          refine V.iload_n dP_step_30 rfl ?_
          refine V.callVk (kd := 1) 0 _ 0 _ [_, _] dP_step_31 okT_isDot n_P_148 ht htk rfl imT_isDot seT_isDot_T (by decide) (by decide) rfl rfl (Nat.le_of_ble_eq_true rfl) (Nat.le_of_ble_eq_true rfl) (Nat.le_of_eq (Nat.zero_add _)) (Nat.le_of_eq (Nat.zero_add _)) (k_isDot hX ha hb ?_)
          refine V.if_eq (tgt := 40) dP_step_34 (by decide) (fun c_34 => ?_) (fun c_34 => ?_)
          · try simp (disch := omega) only [nI_ltI, nI_leI, nI_eq, zz_lt0, zz_ge0, zz_gt0, zz_le0, zz_eq0, zz_m1lt, zz_m1ge, zz_m1eq, bI_eq0, decide_eq_false_iff_not, decide_eq_true_eq, Decidable.not_not, not_true_eq_false, not_false_eq_true, Nat.not_lt, Nat.not_le, Bool.not_eq_false, Bool.not_eq_true] at c_34
            first | refine V.aload_n dP_step_40 rfl ?_ | refine V.aload_nN dP_step_40 rfl ?_
            refine V.getk dP_step_41 a1 a2 f_P_10_0 a3 ?_
            refine V.iload_n dP_step_44 rfl ?_
            refine V.iload_n dP_step_45 rfl ?_
            refine V.callVk (kd := 1) 0 _ 0 _ [_, _] dP_step_46 okT_isDotDot n_P_152 ht htk rfl imT_isDotDot seT_isDotDot_T (by decide) (by decide) rfl rfl (Nat.le_of_ble_eq_true rfl) (Nat.le_of_ble_eq_true rfl) (Nat.le_of_eq (Nat.zero_add _)) (Nat.le_of_eq (Nat.zero_add _)) (k_isDotDot hX ha hb ?_)
            refine V.if_eq (tgt := 71) dP_step_49 (by decide) (fun c_49 => ?_) (fun c_49 => ?_)
            · try simp (disch := omega) only [nI_ltI, nI_leI, nI_eq, zz_lt0, zz_ge0, zz_gt0, zz_le0, zz_eq0, zz_m1lt, zz_m1ge, zz_m1eq, bI_eq0, decide_eq_false_iff_not, decide_eq_true_eq, Decidable.not_not, not_true_eq_false, not_false_eq_true, Nat.not_lt, Nat.not_le, Bool.not_eq_false, Bool.not_eq_true] at c_49
              first | refine V.aload dP_step_71 rfl ?_ | refine V.aloadN dP_step_71 rfl ?_
              first | refine V.aload_n dP_step_73 rfl ?_ | refine V.aload_nN dP_step_73 rfl ?_
              refine V.getk dP_step_74 a1 a2 f_P_10_0 a3 ?_
              refine V.getk dP_step_77 ht htk f_P_156_1 hca ?_
              refine V.iload_n dP_step_80 rfl ?_
              refine V.iload_n dP_step_81 rfl ?_
              refine V.callVk (kd := 2) 0 _ 0 _ [_, _, _] dP_step_82 okD_entryCalled n_P_159 hd.1 hd.2 rfl imD_entryCalled seD_entryCalled_D (by decide) (by decide) rfl rfl (Nat.le_of_ble_eq_true rfl) (Nat.le_of_ble_eq_true rfl) (Nat.le_of_eq (Nat.zero_add _)) (Nat.le_of_eq (Nat.zero_add _)) (k_entryCalled hd (hC.2.2.2.2.2 e he h2).1 (hC.ens he h2) (N := 250) (q := p) ⟨hcs, hck, by omega, ha, by omega, fun j h1 h2 => hch j (by omega), fun j h1 h2 => hp j (by omega)⟩ (fun hn => ?_) (fun i hi hs => ?_))
              · refine V.areturnN dP_step_85 rfl (by simp) ?_
                exact q0 (by unfold s_along; rw [if_neg c_2, if_neg (by omega), if_neg c_34, if_neg c_49]; exact hC.ent0 he h2 hn)
              · refine V.areturn dP_step_85 rfl (by simp) ?_
                exact q1 i (by unfold s_along; rw [if_neg c_2, if_neg (by omega), if_neg c_34, if_neg c_49]; exact hC.ent1 he h2 hi hs)
              skip
            · try simp (disch := omega) only [nI_ltI, nI_leI, nI_eq, zz_lt0, zz_ge0, zz_gt0, zz_le0, zz_eq0, zz_m1lt, zz_m1ge, zz_m1eq, bI_eq0, decide_eq_false_iff_not, decide_eq_true_eq, Decidable.not_not, not_true_eq_false, not_false_eq_true, Nat.not_lt, Nat.not_le, Bool.not_eq_false, Bool.not_eq_true] at c_49
              first | refine V.aload dP_step_52 rfl ?_ | refine V.aloadN dP_step_52 rfl ?_
              refine V.getk dP_step_54 hd.1 hd.2 f_P_155_2 hh ?_
              refine V.ifnonnull (tgt := 65) dP_step_57 (by decide) ?_
              first | refine V.aload dP_step_65 rfl ?_ | refine V.aloadN dP_step_65 rfl ?_
              refine V.getk dP_step_67 hd.1 hd.2 f_P_155_2 hh ?_
              first | refine V.areturn dP_step_70 rfl (by simp) ?_ | refine V.areturnN dP_step_70 rfl (by simp) ?_
              exact q1 _ (by unfold s_along; rw [if_neg c_2, if_neg (by omega), if_neg c_34, if_pos c_49])
          · try simp (disch := omega) only [nI_ltI, nI_leI, nI_eq, zz_lt0, zz_ge0, zz_gt0, zz_le0, zz_eq0, zz_m1lt, zz_m1ge, zz_m1eq, bI_eq0, decide_eq_false_iff_not, decide_eq_true_eq, Decidable.not_not, not_true_eq_false, not_false_eq_true, Nat.not_lt, Nat.not_le, Bool.not_eq_false, Bool.not_eq_true] at c_34
            first | refine V.aload dP_step_37 rfl ?_ | refine V.aloadN dP_step_37 rfl ?_
            first | refine V.areturn dP_step_39 rfl (by simp) ?_ | refine V.areturnN dP_step_39 rfl (by simp) ?_
            exact q1 e (by unfold s_along; rw [if_neg c_2, if_neg (by omega), if_pos c_34])
      · try simp (disch := omega) only [nI_ltI, nI_leI, nI_eq, zz_lt0, zz_ge0, zz_gt0, zz_le0, zz_eq0, zz_m1lt, zz_m1ge, zz_m1eq, bI_eq0, decide_eq_false_iff_not, decide_eq_true_eq, Decidable.not_not, not_true_eq_false, not_false_eq_true, Nat.not_lt, Nat.not_le, Bool.not_eq_false, Bool.not_eq_true] at c_2
        first | refine V.aload_n dP_step_5 rfl ?_ | refine V.aload_nN dP_step_5 rfl ?_
        first | refine V.areturn dP_step_6 rfl (by simp) ?_ | refine V.areturnN dP_step_6 rfl (by simp) ?_
        exact q1 e (by unfold s_along; rw [if_pos c_2])
  · have hf := hC.file he (by omega)
    refine V.iload_n dP_step_0 rfl ?_
    refine V.iload_n dP_step_1 rfl ?_
    refine V.icmp_ne (tgt := 7) dP_step_2 (by decide) (fun c_2 => ?_) (fun c_2 => ?_)
    · try simp (disch := omega) only [nI_ltI, nI_leI, nI_eq, zz_lt0, zz_ge0, zz_gt0, zz_le0, zz_eq0, zz_m1lt, zz_m1ge, zz_m1eq, bI_eq0, decide_eq_false_iff_not, decide_eq_true_eq, Decidable.not_not, not_true_eq_false, not_false_eq_true, Nat.not_lt, Nat.not_le, Bool.not_eq_false, Bool.not_eq_true] at c_2
      first | refine V.aload_n dP_step_7 rfl ?_ | refine V.aload_nN dP_step_7 rfl ?_
      refine V.instn dP_step_8 hf.1 hf.2 rfl cl_P_16 (by decide) ?_
      refine V.if_eq (tgt := 23) dP_step_11 (by decide) (fun c_11 => ?_) (fun c_11 => ?_)
      · skip
        refine V.null dP_step_23 ?_
        first | refine V.areturn dP_step_24 rfl (by simp) ?_ | refine V.areturnN dP_step_24 rfl (by simp) ?_
        exact q0 (by unfold s_along; rw [if_neg c_2, if_pos (by omega)])
      · skip
        exact absurd rfl c_11
    · try simp (disch := omega) only [nI_ltI, nI_leI, nI_eq, zz_lt0, zz_ge0, zz_gt0, zz_le0, zz_eq0, zz_m1lt, zz_m1ge, zz_m1eq, bI_eq0, decide_eq_false_iff_not, decide_eq_true_eq, Decidable.not_not, not_true_eq_false, not_false_eq_true, Nat.not_lt, Nat.not_le, Bool.not_eq_false, Bool.not_eq_true] at c_2
      first | refine V.aload_n dP_step_5 rfl ?_ | refine V.aload_nN dP_step_5 rfl ?_
      first | refine V.areturn dP_step_6 rfl (by simp) ?_ | refine V.areturnN dP_step_6 rfl (by simp) ?_
      exact q1 e (by unfold s_along; rw [if_pos c_2])
set_option maxHeartbeats 4000000 in
set_option maxRecDepth 100000 in
/-- PathTree.entryBefore -/
theorem k_before {G : GG} {h : HH} {x : Nat} {T : TT} {p : Nat → Nat} {len hand : Nat} {bl : List (Nat × Nat)} {ad na : Nat → Nat} {ch : Nat → List Nat} {Q : Option Value → HH → Prop} {n : Nat} (hP : CP G h x T hand bl ad) (hX : TX G h (x + 1) p len) (hC : CT G h x T ad na ch) (hn : n ≤ len) (hln0 : 1 ≤ len) (q0 : s_lead0 T p hand n = none → Q (some .null) h) (q1 : ∀ e, s_lead0 T p hand n = some e → Q (some (.ref (ad e))) h) : V G mP_entryBefore 0 (lv_args 0 [.ref x, .int (nI n)]) [] h 0 0 Q := by
  obtain ⟨ht, htk, hca, hln, hcs, hck, hch, hl2, hp⟩ := id hX
  obtain ⟨a1, a2, a3, a4, a5, a6, a7, a8, a9⟩ := id hP
  have loop : ∀ r y f e, y + r = n → f ≤ y → e < 300 → T.1 e ≠ 0 → s_w T p r y f e = s_lead0 T p hand n → V G mP_entryBefore 28 [(4, .int (nI y)), (3, .int (nI f)), (2, .ref (ad e)), (0, .ref x), (1, .int (nI n))] [] h 0 0 Q := by
    intro r
    induction r with
    | zero =>
      intro y f e hr0 hfy he hle hw
      have hyn : y = n := by omega
      subst hyn
      unfold s_w at hw
      refine V.iload dP_entryBefore_28 rfl ?_
      refine V.iload_n dP_entryBefore_30 rfl ?_
      refine V.icmp_gt (tgt := 76) dP_entryBefore_31 (by decide) (fun c_31 => ?_) (fun c_31 => ?_)
      · try simp (disch := omega) only [nI_ltI, nI_leI, nI_eq, zz_lt0, zz_ge0, zz_gt0, zz_le0, zz_eq0, zz_m1lt, zz_m1ge, zz_m1eq, bI_eq0, decide_eq_false_iff_not, decide_eq_true_eq, Decidable.not_not, not_true_eq_false, not_false_eq_true, Nat.not_lt, Nat.not_le, Bool.not_eq_false, Bool.not_eq_true] at c_31
        all_goals omega
      · try simp (disch := omega) only [nI_ltI, nI_leI, nI_eq, zz_lt0, zz_ge0, zz_gt0, zz_le0, zz_eq0, zz_m1lt, zz_m1ge, zz_m1eq, bI_eq0, decide_eq_false_iff_not, decide_eq_true_eq, Decidable.not_not, not_true_eq_false, not_false_eq_true, Nat.not_lt, Nat.not_le, Bool.not_eq_false, Bool.not_eq_true] at c_31
        first | refine V.aload_n dP_entryBefore_34 rfl ?_ | refine V.aload_nN dP_entryBefore_34 rfl ?_
        refine V.ifnull dP_entryBefore_35 ?_
        refine V.iload dP_entryBefore_38 rfl ?_
        refine V.iload_n dP_entryBefore_40 rfl ?_
        refine V.icmp_eq (tgt := 56) dP_entryBefore_41 (by decide) (fun c_41 => ?_) (fun c_41 => ?_)
        · try simp (disch := omega) only [nI_ltI, nI_leI, nI_eq, zz_lt0, zz_ge0, zz_gt0, zz_le0, zz_eq0, zz_m1lt, zz_m1ge, zz_m1eq, bI_eq0, decide_eq_false_iff_not, decide_eq_true_eq, Decidable.not_not, not_true_eq_false, not_false_eq_true, Nat.not_lt, Nat.not_le, Bool.not_eq_false, Bool.not_eq_true] at c_41
          first | refine V.aload_n dP_entryBefore_56 rfl ?_ | refine V.aload_nN dP_entryBefore_56 rfl ?_
          first | refine V.aload_n dP_entryBefore_57 rfl ?_ | refine V.aload_nN dP_entryBefore_57 rfl ?_
          refine V.iload_n dP_entryBefore_58 rfl ?_
          refine V.iload dP_entryBefore_59 rfl ?_
          refine V.callVk (kd := 0) 0 _ 0 _ [_, _, _] dP_entryBefore_61 okP_step n_P_144 a1 a2 rfl imP_step seP_step_P (by decide) (by decide) rfl rfl (Nat.le_of_ble_eq_true rfl) (Nat.le_of_ble_eq_true rfl) (Nat.le_of_eq (Nat.zero_add _)) (Nat.le_of_eq (Nat.zero_add _)) (k_step hP hX hC he hle hfy (by omega) (fun hr => ?_) (fun e2 hr => ?_))
          · first | refine V.astore_n dP_entryBefore_64 (by decide) ?_ | refine V.astore_nN dP_entryBefore_64 (by decide) ?_
            refine V.iload dP_entryBefore_65 rfl ?_
            refine V.iconst (v := (nI 1)) dP_entryBefore_67 (by decide) ?_
            refine V.iaddN dP_entryBefore_68 ?_
            refine V.istore_n dP_entryBefore_69 (by decide) ?_
            refine V.iincN dP_entryBefore_70 rfl (by decide) ?_
            refine V.goto (tgt := 28) dP_entryBefore_73 (by decide) ?_
            refine V.iload dP_entryBefore_28 rfl ?_
            refine V.iload_n dP_entryBefore_30 rfl ?_
            refine V.icmp_gt (tgt := 76) dP_entryBefore_31 (by decide) (fun c_31 => ?_) (fun c_31 => ?_)
            · try simp (disch := omega) only [nI_ltI, nI_leI, nI_eq, zz_lt0, zz_ge0, zz_gt0, zz_le0, zz_eq0, zz_m1lt, zz_m1ge, zz_m1eq, bI_eq0, decide_eq_false_iff_not, decide_eq_true_eq, Decidable.not_not, not_true_eq_false, not_false_eq_true, Nat.not_lt, Nat.not_le, Bool.not_eq_false, Bool.not_eq_true] at c_31
              first | refine V.aload_n dP_entryBefore_76 rfl ?_ | refine V.aload_nN dP_entryBefore_76 rfl ?_
              first | refine V.areturn dP_entryBefore_77 rfl (by simp) ?_ | refine V.areturnN dP_entryBefore_77 rfl (by simp) ?_
              exact q0 (hw.symm.trans hr)
            · try simp (disch := omega) only [nI_ltI, nI_leI, nI_eq, zz_lt0, zz_ge0, zz_gt0, zz_le0, zz_eq0, zz_m1lt, zz_m1ge, zz_m1eq, bI_eq0, decide_eq_false_iff_not, decide_eq_true_eq, Decidable.not_not, not_true_eq_false, not_false_eq_true, Nat.not_lt, Nat.not_le, Bool.not_eq_false, Bool.not_eq_true] at c_31
              all_goals omega
          · first | refine V.astore_n dP_entryBefore_64 (by decide) ?_ | refine V.astore_nN dP_entryBefore_64 (by decide) ?_
            refine V.iload dP_entryBefore_65 rfl ?_
            refine V.iconst (v := (nI 1)) dP_entryBefore_67 (by decide) ?_
            refine V.iaddN dP_entryBefore_68 ?_
            refine V.istore_n dP_entryBefore_69 (by decide) ?_
            refine V.iincN dP_entryBefore_70 rfl (by decide) ?_
            refine V.goto (tgt := 28) dP_entryBefore_73 (by decide) ?_
            refine V.iload dP_entryBefore_28 rfl ?_
            refine V.iload_n dP_entryBefore_30 rfl ?_
            refine V.icmp_gt (tgt := 76) dP_entryBefore_31 (by decide) (fun c_31 => ?_) (fun c_31 => ?_)
            · try simp (disch := omega) only [nI_ltI, nI_leI, nI_eq, zz_lt0, zz_ge0, zz_gt0, zz_le0, zz_eq0, zz_m1lt, zz_m1ge, zz_m1eq, bI_eq0, decide_eq_false_iff_not, decide_eq_true_eq, Decidable.not_not, not_true_eq_false, not_false_eq_true, Nat.not_lt, Nat.not_le, Bool.not_eq_false, Bool.not_eq_true] at c_31
              first | refine V.aload_n dP_entryBefore_76 rfl ?_ | refine V.aload_nN dP_entryBefore_76 rfl ?_
              first | refine V.areturn dP_entryBefore_77 rfl (by simp) ?_ | refine V.areturnN dP_entryBefore_77 rfl (by simp) ?_
              exact q1 e2 (hw.symm.trans hr)
            · try simp (disch := omega) only [nI_ltI, nI_leI, nI_eq, zz_lt0, zz_ge0, zz_gt0, zz_le0, zz_eq0, zz_m1lt, zz_m1ge, zz_m1eq, bI_eq0, decide_eq_false_iff_not, decide_eq_true_eq, Decidable.not_not, not_true_eq_false, not_false_eq_true, Nat.not_lt, Nat.not_le, Bool.not_eq_false, Bool.not_eq_true] at c_31
              all_goals omega
          skip
        · try simp (disch := omega) only [nI_ltI, nI_leI, nI_eq, zz_lt0, zz_ge0, zz_gt0, zz_le0, zz_eq0, zz_m1lt, zz_m1ge, zz_m1eq, bI_eq0, decide_eq_false_iff_not, decide_eq_true_eq, Decidable.not_not, not_true_eq_false, not_false_eq_true, Nat.not_lt, Nat.not_le, Bool.not_eq_false, Bool.not_eq_true] at c_41
          all_goals omega
    | succ r ih =>
      intro y f e hr0 hfy he hle hw
      refine V.iload dP_entryBefore_28 rfl ?_
      refine V.iload_n dP_entryBefore_30 rfl ?_
      refine V.icmp_gt (tgt := 76) dP_entryBefore_31 (by decide) (fun c_31 => ?_) (fun c_31 => ?_)
      · try simp (disch := omega) only [nI_ltI, nI_leI, nI_eq, zz_lt0, zz_ge0, zz_gt0, zz_le0, zz_eq0, zz_m1lt, zz_m1ge, zz_m1eq, bI_eq0, decide_eq_false_iff_not, decide_eq_true_eq, Decidable.not_not, not_true_eq_false, not_false_eq_true, Nat.not_lt, Nat.not_le, Bool.not_eq_false, Bool.not_eq_true] at c_31
        all_goals omega
      · try simp (disch := omega) only [nI_ltI, nI_leI, nI_eq, zz_lt0, zz_ge0, zz_gt0, zz_le0, zz_eq0, zz_m1lt, zz_m1ge, zz_m1eq, bI_eq0, decide_eq_false_iff_not, decide_eq_true_eq, Decidable.not_not, not_true_eq_false, not_false_eq_true, Nat.not_lt, Nat.not_le, Bool.not_eq_false, Bool.not_eq_true] at c_31
        first | refine V.aload_n dP_entryBefore_34 rfl ?_ | refine V.aload_nN dP_entryBefore_34 rfl ?_
        refine V.ifnull dP_entryBefore_35 ?_
        refine V.iload dP_entryBefore_38 rfl ?_
        refine V.iload_n dP_entryBefore_40 rfl ?_
        refine V.icmp_eq (tgt := 56) dP_entryBefore_41 (by decide) (fun c_41 => ?_) (fun c_41 => ?_)
        · try simp (disch := omega) only [nI_ltI, nI_leI, nI_eq, zz_lt0, zz_ge0, zz_gt0, zz_le0, zz_eq0, zz_m1lt, zz_m1ge, zz_m1eq, bI_eq0, decide_eq_false_iff_not, decide_eq_true_eq, Decidable.not_not, not_true_eq_false, not_false_eq_true, Nat.not_lt, Nat.not_le, Bool.not_eq_false, Bool.not_eq_true] at c_41
          all_goals omega
        · try simp (disch := omega) only [nI_ltI, nI_leI, nI_eq, zz_lt0, zz_ge0, zz_gt0, zz_le0, zz_eq0, zz_m1lt, zz_m1ge, zz_m1eq, bI_eq0, decide_eq_false_iff_not, decide_eq_true_eq, Decidable.not_not, not_true_eq_false, not_false_eq_true, Nat.not_lt, Nat.not_le, Bool.not_eq_false, Bool.not_eq_true] at c_41
          first | refine V.aload_n dP_entryBefore_44 rfl ?_ | refine V.aload_nN dP_entryBefore_44 rfl ?_
          refine V.getk dP_entryBefore_45 a1 a2 f_P_10_0 a3 ?_
          refine V.iload dP_entryBefore_48 rfl ?_
          refine V.callVk (kd := 1) 0 _ 0 _ [_] dP_entryBefore_50 okT_isSlash n_P_138 ht htk rfl imT_isSlash seT_isSlash_T (by decide) (by decide) rfl rfl (Nat.le_of_ble_eq_true rfl) (Nat.le_of_ble_eq_true rfl) (Nat.le_of_eq (Nat.zero_add _)) (Nat.le_of_eq (Nat.zero_add _)) (k_isSlash hX (by omega) ?_)
          refine V.if_eq (tgt := 70) dP_entryBefore_53 (by decide) (fun c_53 => ?_) (fun c_53 => ?_)
          · try simp (disch := omega) only [nI_ltI, nI_leI, nI_eq, zz_lt0, zz_ge0, zz_gt0, zz_le0, zz_eq0, zz_m1lt, zz_m1ge, zz_m1eq, bI_eq0, decide_eq_false_iff_not, decide_eq_true_eq, Decidable.not_not, not_true_eq_false, not_false_eq_true, Nat.not_lt, Nat.not_le, Bool.not_eq_false, Bool.not_eq_true] at c_53
            refine V.iincN dP_entryBefore_70 rfl (by decide) ?_
            refine V.goto (tgt := 28) dP_entryBefore_73 (by decide) ?_
            exact V.re [4, 3, 2, 0, 1] rfl (ih (y + 1) f e (by omega) (by omega) he hle (by rw [← hw, s_w, if_neg (fun z => c_53 ⟨by omega, z⟩)]))
          · try simp (disch := omega) only [nI_ltI, nI_leI, nI_eq, zz_lt0, zz_ge0, zz_gt0, zz_le0, zz_eq0, zz_m1lt, zz_m1ge, zz_m1eq, bI_eq0, decide_eq_false_iff_not, decide_eq_true_eq, Decidable.not_not, not_true_eq_false, not_false_eq_true, Nat.not_lt, Nat.not_le, Bool.not_eq_false, Bool.not_eq_true] at c_53
            first | refine V.aload_n dP_entryBefore_56 rfl ?_ | refine V.aload_nN dP_entryBefore_56 rfl ?_
            first | refine V.aload_n dP_entryBefore_57 rfl ?_ | refine V.aload_nN dP_entryBefore_57 rfl ?_
            refine V.iload_n dP_entryBefore_58 rfl ?_
            refine V.iload dP_entryBefore_59 rfl ?_
            refine V.callVk (kd := 0) 0 _ 0 _ [_, _, _] dP_entryBefore_61 okP_step n_P_144 a1 a2 rfl imP_step seP_step_P (by decide) (by decide) rfl rfl (Nat.le_of_ble_eq_true rfl) (Nat.le_of_ble_eq_true rfl) (Nat.le_of_eq (Nat.zero_add _)) (Nat.le_of_eq (Nat.zero_add _)) (k_step hP hX hC he hle hfy (by omega) (fun hr => ?_) (fun e2 hr => ?_))
            · first | refine V.astore_n dP_entryBefore_64 (by decide) ?_ | refine V.astore_nN dP_entryBefore_64 (by decide) ?_
              refine V.iload dP_entryBefore_65 rfl ?_
              refine V.iconst (v := (nI 1)) dP_entryBefore_67 (by decide) ?_
              refine V.iaddN dP_entryBefore_68 ?_
              refine V.istore_n dP_entryBefore_69 (by decide) ?_
              refine V.iincN dP_entryBefore_70 rfl (by decide) ?_
              refine V.goto (tgt := 28) dP_entryBefore_73 (by decide) ?_
              refine V.iload dP_entryBefore_28 rfl ?_
              refine V.iload_n dP_entryBefore_30 rfl ?_
              refine V.icmp_gt (tgt := 76) dP_entryBefore_31 (by decide) (fun c_31 => ?_) (fun c_31 => ?_)
              · try simp (disch := omega) only [nI_ltI, nI_leI, nI_eq, zz_lt0, zz_ge0, zz_gt0, zz_le0, zz_eq0, zz_m1lt, zz_m1ge, zz_m1eq, bI_eq0, decide_eq_false_iff_not, decide_eq_true_eq, Decidable.not_not, not_true_eq_false, not_false_eq_true, Nat.not_lt, Nat.not_le, Bool.not_eq_false, Bool.not_eq_true] at c_31
                all_goals omega
              · try simp (disch := omega) only [nI_ltI, nI_leI, nI_eq, zz_lt0, zz_ge0, zz_gt0, zz_le0, zz_eq0, zz_m1lt, zz_m1ge, zz_m1eq, bI_eq0, decide_eq_false_iff_not, decide_eq_true_eq, Decidable.not_not, not_true_eq_false, not_false_eq_true, Nat.not_lt, Nat.not_le, Bool.not_eq_false, Bool.not_eq_true] at c_31
                first | refine V.aload_n dP_entryBefore_34 rfl ?_ | refine V.aload_nN dP_entryBefore_34 rfl ?_
                refine V.ifnullN (tgt := 76) dP_entryBefore_35 (by decide) ?_
                first | refine V.aload_n dP_entryBefore_76 rfl ?_ | refine V.aload_nN dP_entryBefore_76 rfl ?_
                first | refine V.areturn dP_entryBefore_77 rfl (by simp) ?_ | refine V.areturnN dP_entryBefore_77 rfl (by simp) ?_
                exact q0 (by rw [← hw]; unfold s_w; rw [if_pos c_53.2, hr])
            · first | refine V.astore_n dP_entryBefore_64 (by decide) ?_ | refine V.astore_nN dP_entryBefore_64 (by decide) ?_
              refine V.iload dP_entryBefore_65 rfl ?_
              refine V.iconst (v := (nI 1)) dP_entryBefore_67 (by decide) ?_
              refine V.iaddN dP_entryBefore_68 ?_
              refine V.istore_n dP_entryBefore_69 (by decide) ?_
              refine V.iincN dP_entryBefore_70 rfl (by decide) ?_
              refine V.goto (tgt := 28) dP_entryBefore_73 (by decide) ?_
              exact V.re [4, 3, 2, 0, 1] rfl (ih (y + 1) (y + 1) e2 (by omega) (by omega) (hC.along he hle hr).1 (hC.along he hle hr).2 (by rw [← hw, s_w, if_pos c_53.2, hr]))
            skip
  by_cases hs : p 0 = 47
  · have hw : s_w T p n 0 0 0 = s_lead0 T p hand n := by (unfold s_lead0; rw [if_pos hs])
    first | refine V.aload_n dP_entryBefore_0 rfl ?_ | refine V.aload_nN dP_entryBefore_0 rfl ?_
    refine V.getk dP_entryBefore_1 a1 a2 f_P_10_0 a3 ?_
    refine V.iconst (v := (nI 0)) dP_entryBefore_4 (by decide) ?_
    refine V.callVk (kd := 1) 0 _ 0 _ [_] dP_entryBefore_5 okT_isSlash n_P_138 ht htk rfl imT_isSlash seT_isSlash_T (by decide) (by decide) rfl rfl (Nat.le_of_ble_eq_true rfl) (Nat.le_of_ble_eq_true rfl) (Nat.le_of_eq (Nat.zero_add _)) (Nat.le_of_eq (Nat.zero_add _)) (k_isSlash hX (by omega) ?_)
    refine V.if_eq (tgt := 18) dP_entryBefore_8 (by decide) (fun c_8 => ?_) (fun c_8 => ?_)
    · try simp (disch := omega) only [nI_ltI, nI_leI, nI_eq, zz_lt0, zz_ge0, zz_gt0, zz_le0, zz_eq0, zz_m1lt, zz_m1ge, zz_m1eq, bI_eq0, decide_eq_false_iff_not, decide_eq_true_eq, Decidable.not_not, not_true_eq_false, not_false_eq_true, Nat.not_lt, Nat.not_le, Bool.not_eq_false, Bool.not_eq_true] at c_8
      exact absurd ⟨by omega, hs⟩ c_8
    · try simp (disch := omega) only [nI_ltI, nI_leI, nI_eq, zz_lt0, zz_ge0, zz_gt0, zz_le0, zz_eq0, zz_m1lt, zz_m1ge, zz_m1eq, bI_eq0, decide_eq_false_iff_not, decide_eq_true_eq, Decidable.not_not, not_true_eq_false, not_false_eq_true, Nat.not_lt, Nat.not_le, Bool.not_eq_false, Bool.not_eq_true] at c_8
      first | refine V.aload_n dP_entryBefore_11 rfl ?_ | refine V.aload_nN dP_entryBefore_11 rfl ?_
      refine V.getk dP_entryBefore_12 a1 a2 f_P_21_0 a4 ?_
      refine V.goto (tgt := 22) dP_entryBefore_15 (by decide) ?_
      first | refine V.astore_n dP_entryBefore_22 (by decide) ?_ | refine V.astore_nN dP_entryBefore_22 (by decide) ?_
      refine V.iconst (v := (nI 0)) dP_entryBefore_23 (by decide) ?_
      refine V.istore_n dP_entryBefore_24 (by decide) ?_
      refine V.iconst (v := (nI 0)) dP_entryBefore_25 (by decide) ?_
      refine V.istore dP_entryBefore_26 (by decide) ?_
      exact V.re [4, 3, 2, 0, 1] rfl (loop n 0 0 0 (by omega) (by omega) (by omega) (by rw [hC.2.2.2.1.2.1]; omega) hw)
  · have hw : s_w T p n 0 0 hand = s_lead0 T p hand n := by (unfold s_lead0; rw [if_neg hs])
    first | refine V.aload_n dP_entryBefore_0 rfl ?_ | refine V.aload_nN dP_entryBefore_0 rfl ?_
    refine V.getk dP_entryBefore_1 a1 a2 f_P_10_0 a3 ?_
    refine V.iconst (v := (nI 0)) dP_entryBefore_4 (by decide) ?_
    refine V.callVk (kd := 1) 0 _ 0 _ [_] dP_entryBefore_5 okT_isSlash n_P_138 ht htk rfl imT_isSlash seT_isSlash_T (by decide) (by decide) rfl rfl (Nat.le_of_ble_eq_true rfl) (Nat.le_of_ble_eq_true rfl) (Nat.le_of_eq (Nat.zero_add _)) (Nat.le_of_eq (Nat.zero_add _)) (k_isSlash hX (by omega) ?_)
    refine V.if_eq (tgt := 18) dP_entryBefore_8 (by decide) (fun c_8 => ?_) (fun c_8 => ?_)
    · try simp (disch := omega) only [nI_ltI, nI_leI, nI_eq, zz_lt0, zz_ge0, zz_gt0, zz_le0, zz_eq0, zz_m1lt, zz_m1ge, zz_m1eq, bI_eq0, decide_eq_false_iff_not, decide_eq_true_eq, Decidable.not_not, not_true_eq_false, not_false_eq_true, Nat.not_lt, Nat.not_le, Bool.not_eq_false, Bool.not_eq_true] at c_8
      first | refine V.aload_n dP_entryBefore_18 rfl ?_ | refine V.aload_nN dP_entryBefore_18 rfl ?_
      refine V.getk dP_entryBefore_19 a1 a2 f_P_25_0 a5 ?_
      first | refine V.astore_n dP_entryBefore_22 (by decide) ?_ | refine V.astore_nN dP_entryBefore_22 (by decide) ?_
      refine V.iconst (v := (nI 0)) dP_entryBefore_23 (by decide) ?_
      refine V.istore_n dP_entryBefore_24 (by decide) ?_
      refine V.iconst (v := (nI 0)) dP_entryBefore_25 (by decide) ?_
      refine V.istore dP_entryBefore_26 (by decide) ?_
      exact V.re [4, 3, 2, 0, 1] rfl (loop n 0 0 hand (by omega) (by omega) a6.1 (by omega) hw)
    · try simp (disch := omega) only [nI_ltI, nI_leI, nI_eq, zz_lt0, zz_ge0, zz_gt0, zz_le0, zz_eq0, zz_m1lt, zz_m1ge, zz_m1eq, bI_eq0, decide_eq_false_iff_not, decide_eq_true_eq, Decidable.not_not, not_true_eq_false, not_false_eq_true, Nat.not_lt, Nat.not_le, Bool.not_eq_false, Bool.not_eq_true] at c_8
      exact absurd c_8.2 hs
