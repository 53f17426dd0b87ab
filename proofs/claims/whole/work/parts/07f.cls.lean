set_option maxHeartbeats 4000000 in
set_option maxRecDepth 100000 in
/-- FileEntry.append, with room -/
theorem k_fapp0 {G : GG} {h : HH} {a b C v : Nat} {bs : List Nat} {Q : Option Value → HH → Prop} (hB : FB G h a b C bs) (hl : bs.length < C) (hl2 : bs.length < 16384) (hv : v < 256) (hQ : ∀ h', h' = h_put (h_put h b bs.length (.int ((nI v).toInt8.toInt32))) a 4 (.int (nI (bs.length + 1))) → Q none h') : V G mF_append 0 (lv_args 0 [.ref a, .int (nI v)]) [] h 0 0 Q := by
  obtain ⟨b1, b2, b3, b4, b5, b6, b7, b8, b9, b10⟩ := id hB
  have hab : a ≠ b := fun z => by (rw [z, b6] at b2; cases b2)
  first | refine V.aload_n dF_append_0 rfl ?_ | refine V.aload_nN dF_append_0 rfl ?_
  refine V.getk dF_append_1 b1 b2 f_F_15_3 b4 ?_
  refine V.sipush (v := (nI 16384)) dF_append_4 (by decide) ?_
  refine V.icmp_lt (tgt := 11) dF_append_7 (by decide) (fun c_7 => ?_) (fun c_7 => ?_)
  · try simp (disch := omega) only [nI_ltI, nI_leI, nI_eq, zz_lt0, zz_ge0, zz_gt0, zz_le0, zz_eq0, zz_m1lt, zz_m1ge, zz_m1eq, bI_eq0, decide_eq_false_iff_not, decide_eq_true_eq, Decidable.not_not, not_true_eq_false, not_false_eq_true, Nat.not_lt, Nat.not_le, Bool.not_eq_false, Bool.not_eq_true] at c_7
    first | refine V.aload_n dF_append_11 rfl ?_ | refine V.aload_nN dF_append_11 rfl ?_
    refine V.getk dF_append_12 b1 b2 f_F_15_3 b4 ?_
    first | refine V.aload_n dF_append_15 rfl ?_ | refine V.aload_nN dF_append_15 rfl ?_
    refine V.getk dF_append_16 b1 b2 f_F_11_3 b3 ?_
    refine V.alenN dF_append_19 b5 b6 rfl ?_
    refine V.icmp_lt (tgt := 41) dF_append_20 (by decide) (fun c_20 => ?_) (fun c_20 => ?_)
    · try simp (disch := omega) only [nI_ltI, nI_leI, nI_eq, zz_lt0, zz_ge0, zz_gt0, zz_le0, zz_eq0, zz_m1lt, zz_m1ge, zz_m1eq, bI_eq0, decide_eq_false_iff_not, decide_eq_true_eq, Decidable.not_not, not_true_eq_false, not_false_eq_true, Nat.not_lt, Nat.not_le, Bool.not_eq_false, Bool.not_eq_true] at c_20
      first | refine V.aload_n dF_append_41 rfl ?_ | refine V.aload_nN dF_append_41 rfl ?_
      refine V.getk dF_append_42 b1 b2 f_F_11_3 b3 ?_
      first | refine V.aload_n dF_append_45 rfl ?_ | refine V.aload_nN dF_append_45 rfl ?_
      refine V.getk dF_append_46 b1 b2 f_F_15_3 b4 ?_
      refine V.iload_n dF_append_49 rfl ?_
      refine V.i2b dF_append_50 rfl ?_
      refine V.bastoreN dF_append_51 b5 b6 (by omega) (by_nn v hv) ?_
      intro h51 e51
      have c1 : g_0 G ≤ a ∧ a < h51.2.2 := by (rw [e51]; exact b1)
      have c2 : (h51.1 a).1 = 3 := by (rw [e51]; exact b2)
      have c4 : h51.2.1 a 4 = .int (nI bs.length) := by (rw [e51]; exact (hp_a hab).trans b4)
      first | refine V.aload_n dF_append_52 rfl ?_ | refine V.aload_nN dF_append_52 rfl ?_
      refine V.dup dF_append_53 rfl ?_
      refine V.getk dF_append_54 c1 c2 f_F_15_3 c4 ?_
      refine V.iconst (v := (nI 1)) dF_append_57 (by decide) ?_
      refine V.iaddN dF_append_58 ?_
      refine V.putk dF_append_59 c1 c2 p_F_15_3 rfl rfl ?_
      intro h59 e59
      refine V.vreturn dF_append_62 rfl ?_
      exact hQ h59 (by rw [e59, e51])
    · try simp (disch := omega) only [nI_ltI, nI_leI, nI_eq, zz_lt0, zz_ge0, zz_gt0, zz_le0, zz_eq0, zz_m1lt, zz_m1ge, zz_m1eq, bI_eq0, decide_eq_false_iff_not, decide_eq_true_eq, Decidable.not_not, not_true_eq_false, not_false_eq_true, Nat.not_lt, Nat.not_le, Bool.not_eq_false, Bool.not_eq_true] at c_20
      all_goals omega
  · try simp (disch := omega) only [nI_ltI, nI_leI, nI_eq, zz_lt0, zz_ge0, zz_gt0, zz_le0, zz_eq0, zz_m1lt, zz_m1ge, zz_m1eq, bI_eq0, decide_eq_false_iff_not, decide_eq_true_eq, Decidable.not_not, not_true_eq_false, not_false_eq_true, Nat.not_lt, Nat.not_le, Bool.not_eq_false, Bool.not_eq_true] at c_7
    all_goals omega
set_option maxHeartbeats 4000000 in
set_option maxRecDepth 100000 in
/-- FileEntry.append, without room -/
theorem k_fapp1 {G : GG} {h : HH} {a b C v : Nat} {bs : List Nat} {Q : Option Value → HH → Prop} (hB : FB G h a b C bs) (hl : bs.length = C) (hC : C ≤ 4096) (hv : v < 256) (hQ : ∀ h', FB G h' a h.2.2 (2 * C) (bs ++ [v]) → h'.2.2 = h.2.2 + 1 → (∀ x, x < h.2.2 → h'.1 x = h.1 x) → (∀ x j, x < h.2.2 → ¬ (x = a ∧ (j = 3 ∨ j = 4)) → h'.2.1 x j = h.2.1 x j) → Q none h') : V G mF_append 0 (lv_args 0 [.ref a, .int (nI v)]) [] h 1 8192 Q := by
  obtain ⟨b1, b2, b3, b4, b5, b6, b7, b8, b9, b10⟩ := id hB
  first | refine V.aload_n dF_append_0 rfl ?_ | refine V.aload_nN dF_append_0 rfl ?_
  refine V.getk dF_append_1 b1 b2 f_F_15_3 b4 ?_
  refine V.sipush (v := (nI 16384)) dF_append_4 (by decide) ?_
  refine V.icmp_lt (tgt := 11) dF_append_7 (by decide) (fun c_7 => ?_) (fun c_7 => ?_)
  · try simp (disch := omega) only [nI_ltI, nI_leI, nI_eq, zz_lt0, zz_ge0, zz_gt0, zz_le0, zz_eq0, zz_m1lt, zz_m1ge, zz_m1eq, bI_eq0, decide_eq_false_iff_not, decide_eq_true_eq, Decidable.not_not, not_true_eq_false, not_false_eq_true, Nat.not_lt, Nat.not_le, Bool.not_eq_false, Bool.not_eq_true] at c_7
    first | refine V.aload_n dF_append_11 rfl ?_ | refine V.aload_nN dF_append_11 rfl ?_
    refine V.getk dF_append_12 b1 b2 f_F_15_3 b4 ?_
    first | refine V.aload_n dF_append_15 rfl ?_ | refine V.aload_nN dF_append_15 rfl ?_
    refine V.getk dF_append_16 b1 b2 f_F_11_3 b3 ?_
    refine V.alenN dF_append_19 b5 b6 rfl ?_
    refine V.icmp_lt (tgt := 41) dF_append_20 (by decide) (fun c_20 => ?_) (fun c_20 => ?_)
    · try simp (disch := omega) only [nI_ltI, nI_leI, nI_eq, zz_lt0, zz_ge0, zz_gt0, zz_le0, zz_eq0, zz_m1lt, zz_m1ge, zz_m1eq, bI_eq0, decide_eq_false_iff_not, decide_eq_true_eq, Decidable.not_not, not_true_eq_false, not_false_eq_true, Nat.not_lt, Nat.not_le, Bool.not_eq_false, Bool.not_eq_true] at c_20
      all_goals omega
    · try simp (disch := omega) only [nI_ltI, nI_leI, nI_eq, zz_lt0, zz_ge0, zz_gt0, zz_le0, zz_eq0, zz_m1lt, zz_m1ge, zz_m1eq, bI_eq0, decide_eq_false_iff_not, decide_eq_true_eq, Decidable.not_not, not_true_eq_false, not_false_eq_true, Nat.not_lt, Nat.not_le, Bool.not_eq_false, Bool.not_eq_true] at c_20
      first | refine V.aload_n dF_append_23 rfl ?_ | refine V.aload_nN dF_append_23 rfl ?_
      first | refine V.aload_n dF_append_24 rfl ?_ | refine V.aload_nN dF_append_24 rfl ?_
      refine V.getk dF_append_25 b1 b2 f_F_11_3 b3 ?_
      refine V.iconst (v := (nI 2)) dF_append_28 (by decide) ?_
      first | refine V.aload_n dF_append_29 rfl ?_ | refine V.aload_nN dF_append_29 rfl ?_
      refine V.getk dF_append_30 b1 b2 f_F_11_3 b3 ?_
      refine V.alenN dF_append_33 b5 b6 rfl ?_
      refine V.imulN dF_append_34 ?_
      refine V.callS 1 0 8192 0 [_, _] dF_append_35 okJ_copyOf n_F_19 stJ_copyOf (by decide) (by decide) rfl rfl (Nat.le_of_ble_eq_true rfl) (Nat.le_of_ble_eq_true rfl) (by omega) (by omega) (k_copyB hB hl hC (fun h35 z35 n35 k35 f35 => ?_))
      have a35 : g_0 G ≤ a ∧ a < h35.2.2 := ⟨b1.1, by omega⟩
      have x35 : (h35.1 a).1 = 3 := by (rw [(f35 a b1.2).1]; exact b2)
      refine V.putk dF_append_38 a35 x35 p_F_11_3 rfl rfl ?_
      intro h38 e38
      have hB9 : FB G h38 a h.2.2 (2 * C) bs := by
        refine ⟨by rw [e38]; exact a35, by rw [e38]; exact x35, by rw [e38]; exact hp_eq, by rw [e38]; exact (hp_j (by omega)).trans (((f35 a b1.2).2 4).trans b4), ⟨by omega, by rw [e38]; show h.2.2 < h35.2.2; omega⟩, by rw [e38]; exact n35, by omega, by omega, fun k hk => ?_, b10⟩
        rw [e38, hp_a (by omega), k35 k (by omega)]
        exact b9 k hk
      obtain ⟨d1, d2, d3, d4, d5, d6, d7, d8, d9, d10⟩ := id hB9
      have hab : a ≠ h.2.2 := by omega
      have z38 : h38.2.2 = h.2.2 + 1 := by (rw [e38]; exact z35)
      first | refine V.aload_n dF_append_41 rfl ?_ | refine V.aload_nN dF_append_41 rfl ?_
      refine V.getk dF_append_42 d1 d2 f_F_11_3 d3 ?_
      first | refine V.aload_n dF_append_45 rfl ?_ | refine V.aload_nN dF_append_45 rfl ?_
      refine V.getk dF_append_46 d1 d2 f_F_15_3 d4 ?_
      refine V.iload_n dF_append_49 rfl ?_
      refine V.i2b dF_append_50 rfl ?_
      refine V.bastoreN dF_append_51 d5 d6 (by omega) (by_nn v hv) ?_
      intro h51 e51
      have c1 : g_0 G ≤ a ∧ a < h51.2.2 := by (rw [e51]; exact d1)
      have c2 : (h51.1 a).1 = 3 := by (rw [e51]; exact d2)
      have c4 : h51.2.1 a 4 = .int (nI bs.length) := by (rw [e51]; exact (hp_a hab).trans d4)
      first | refine V.aload_n dF_append_52 rfl ?_ | refine V.aload_nN dF_append_52 rfl ?_
      refine V.dup dF_append_53 rfl ?_
      refine V.getk dF_append_54 c1 c2 f_F_15_3 c4 ?_
      refine V.iconst (v := (nI 1)) dF_append_57 (by decide) ?_
      refine V.iaddN dF_append_58 ?_
      refine V.putk dF_append_59 c1 c2 p_F_15_3 rfl rfl ?_
      intro h59 e59
      refine V.vreturn dF_append_62 rfl ?_
      refine hQ h59 (by rw [e59, e51]; exact hB9.push (by omega) hv) (by rw [e59, e51]; exact z38) (fun x hx => ?_) (fun x j hx hne => ?_)
      · rw [e59, e51, hp_k, hp_k, e38, hp_k]; exact (f35 x hx).1
      · rw [e59, e51, hp_ne (fun z => hne ⟨z.1, Or.inr z.2⟩), hp_a (by omega), e38, hp_ne (fun z => hne ⟨z.1, Or.inl z.2⟩)]; exact (f35 x hx).2 j
  · try simp (disch := omega) only [nI_ltI, nI_leI, nI_eq, zz_lt0, zz_ge0, zz_gt0, zz_le0, zz_eq0, zz_m1lt, zz_m1ge, zz_m1eq, bI_eq0, decide_eq_false_iff_not, decide_eq_true_eq, Decidable.not_not, not_true_eq_false, not_false_eq_true, Nat.not_lt, Nat.not_le, Bool.not_eq_false, Bool.not_eq_true] at c_7
    all_goals omega
