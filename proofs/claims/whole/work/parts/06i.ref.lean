/-- the log without a file's bytes -/
def s_but (bl : List (Nat × Nat)) (e : Nat) : List (Nat × Nat) := bl.filter (fun q => !(q.2 == e))
theorem but_step {bl : List (Nat × Nat)} {e k : Nat} (hk : k < bl.length) : s_but (bl.take (k + 1)) e = s_but (bl.take k) e ++ (if (bl.getD k (0, 0)).2 = e then [] else [bl.getD k (0, 0)]) := by
  unfold s_but
  rw [List.take_succ_eq_append_getElem hk, List.filter_append, List.getD_eq_getElem?_getD, List.getElem?_eq_getElem hk]
  congr 1
  show _ = if (bl[k]).2 = e then [] else [bl[k]]
  by_cases q : (bl[k]).2 = e
  · simp [q]
  · simp [q]
theorem but_le (bl : List (Nat × Nat)) (e k : Nat) : (s_but (bl.take k) e).length ≤ k := by
  unfold s_but
  have h1 := List.length_filter_le (fun q : Nat × Nat => !(q.2 == e)) (bl.take k)
  have h2 : (bl.take k).length ≤ k := by simp; omega
  omega
theorem but_len (bl : List (Nat × Nat)) (e : Nat) : (s_but bl e).length ≤ bl.length := List.length_filter_le _ _
theorem but_mem {bl : List (Nat × Nat)} {e : Nat} {q : Nat × Nat} (h : q ∈ s_but bl e) : q ∈ bl ∧ q.2 ≠ e := by
  unfold s_but at h
  rw [List.mem_filter] at h
  exact ⟨h.1, by simpa using h.2⟩
theorem fb_but_s (bl : List (Nat × Nat)) (e : Nat) : s_fb (s_but bl e) e = [] := fb_none (fun q hq => (but_mem hq).2)
theorem fb_but_n {bl : List (Nat × Nat)} {e x : Nat} (h : x ≠ e) : s_fb (s_but bl e) x = s_fb bl x := by
  unfold s_fb s_but
  rw [List.filter_filter]
  congr 1
  apply List.filter_congr
  intro q _
  by_cases z : q.2 = x
  · have : q.2 ≠ e := by omega
    simp [z, h]
  · simp [z]
theorem sh_nar : ∀ w, w < 300 → narrow .short (.int (nI w)) = .int (nI w) := by decide +kernel
theorem getD_app_l {l : List (Nat × Nat)} {q d : Nat × Nat} {j : Nat} (h : j < l.length) : (l ++ [q]).getD j d = l.getD j d := by
  rw [List.getD_eq_getElem?_getD, List.getD_eq_getElem?_getD, List.getElem?_append_left h]
theorem getD_app_r {l : List (Nat × Nat)} {q d : Nat × Nat} : (l ++ [q]).getD l.length d = q := by
  rw [List.getD_eq_getElem?_getD, List.getElem?_append_right (Nat.le_refl _), Nat.sub_self]
  rfl
/-- what a byte's cell holds -/
def v_b (q : Nat × Nat) : Value := .int ((nI q.1).toInt8.toInt32)
/-- where the loss of a file's bytes stands -/
def LJ (G : GG) (h hq : HH) (o : Nat) (bl : List (Nat × Nat)) (e k : Nat) : Prop := RS G hq o ∧ hq.2.1 o 11 = .int (nI bl.length) ∧
  (∀ j, j < (s_but (bl.take k) e).length → hq.2.1 (o + 7) j = v_b ((s_but (bl.take k) e).getD j (0, 0)) ∧ hq.2.1 (o + 8) j = .int (nI ((s_but (bl.take k) e).getD j (0, 0)).2)) ∧
  (∀ j, k ≤ j → j < bl.length → hq.2.1 (o + 7) j = v_b (bl.getD j (0, 0)) ∧ hq.2.1 (o + 8) j = .int (nI (bl.getD j (0, 0)).2)) ∧
  hq.1 = h.1 ∧ hq.2.2 = h.2.2 ∧ ∀ a j, a ≠ o + 7 → a ≠ o + 8 → hq.2.1 a j = h.2.1 a j
theorem LJ.skip {G : GG} {h hq : HH} {o : Nat} {bl : List (Nat × Nat)} {e k : Nat} (hJ : LJ G h hq o bl e k) (hk : k < bl.length) (hq2 : (bl.getD k (0, 0)).2 = e) : LJ G h hq o bl e (k + 1) := by
  obtain ⟨h1, h2, h3, h4, h5⟩ := hJ
  have e1 := but_step (e := e) hk
  rw [if_pos hq2, List.append_nil] at e1
  exact ⟨h1, h2, by rw [e1]; exact h3, fun j hj => h4 j (by omega), h5⟩
theorem LJ.keep {G : GG} {h hq : HH} {o : Nat} {bl : List (Nat × Nat)} {e k : Nat} (hJ : LJ G h hq o bl e k) (hk : k < bl.length) (hq2 : ¬ (bl.getD k (0, 0)).2 = e) :
    LJ G h (h_put (h_put hq (o + 7) (s_but (bl.take k) e).length (v_b (bl.getD k (0, 0)))) (o + 8) (s_but (bl.take k) e).length (.int (nI (bl.getD k (0, 0)).2))) o bl e (k + 1) := by
  obtain ⟨h1, h2, h3, h4, h5, h6, h7⟩ := hJ
  have e1 := but_step (e := e) hk
  rw [if_neg hq2] at e1
  have hl := but_le bl e k
  refine ⟨(h1.put (by omega)).put (by omega), (hp_a (by omega)).trans ((hp_a (by omega)).trans h2), fun j hj => ?_, fun j hj hj2 => ?_, h5, h6, fun a j h8 h9 => (hp_a h9).trans ((hp_a h8).trans (h7 a j h8 h9))⟩
  · rw [e1] at hj ⊢
    rw [List.length_append, List.length_singleton] at hj
    by_cases z : j < (s_but (bl.take k) e).length
    · rw [getD_app_l z]
      exact ⟨(hp_a (by omega)).trans ((hp_j (by omega)).trans (h3 j z).1), (hp_j (by omega)).trans ((hp_a (by omega)).trans (h3 j z).2)⟩
    · have z2 : j = (s_but (bl.take k) e).length := by omega
      subst z2
      rw [getD_app_r]
      exact ⟨(hp_a (by omega)).trans hp_eq, hp_eq⟩
  · have z := h4 j (by omega) hj2
    exact ⟨(hp_a (by omega)).trans ((hp_j (by omega)).trans z.1), (hp_j (by omega)).trans ((hp_a (by omega)).trans z.2)⟩
theorem LJ.done {G : GG} {h hq : HH} {o : Nat} {T : TT} {p : Nat → Nat} {len hand : Nat} {op : Option Nat} {gone : Bool} {ents : Nat} {bl : List (Nat × Nat)} {e : Nat} (hI : RI G h o T p len hand op gone ents bl) (hJ : LJ G h hq o bl e bl.length) :
    RI G (h_put (h_put hq o 11 (.int (nI (s_but bl e).length))) (o + 4) e (.int (nI 0))) o T p len hand op gone ents (s_but bl e) ∧ FrO o h (h_put (h_put hq o 11 (.int (nI (s_but bl e).length))) (o + 4) e (.int (nI 0))) := by
  obtain ⟨h1, h2, h3, h4, h5, h6, h7⟩ := hJ
  obtain ⟨hS, hP, hT, hH, hO, hg, hE, hB, hop⟩ := hI
  obtain ⟨hln, hpp, hl2, hp⟩ := hP
  obtain ⟨hkd, hkd2, hin, hin2, hns, hns2, hnm, hnm2⟩ := hT
  rw [List.take_length] at h3
  refine ⟨⟨(h1.put (by omega)).put (by omega), ⟨?_, fun j hj => ?_, hl2, hp⟩, ⟨fun x hx => ?_, hkd2, fun x hx => ?_, hin2, fun x hx => ?_, hns2, fun x k hx hk => ?_, hnm2⟩, ⟨?_, hH.2⟩, ?_, ?_, ?_, ⟨?_, fun k hk => ?_, fun k hk => ?_, fun q hq => hB.2.2.2.1 q (but_mem hq).1, Nat.le_trans (but_len bl e) hB.2.2.2.2.1, fun x hx => ?_⟩, hop⟩, ⟨h5, h6, fun a j ha => ?_⟩⟩
  · exact (hp_a (by omega)).trans ((hp_j (by omega)).trans ((h7 _ _ (by omega) (by omega)).trans hln))
  · exact (hp_a (by omega)).trans ((hp_a (by omega)).trans ((h7 _ _ (by omega) (by omega)).trans (hpp j hj)))
  · exact (hp_a (by omega)).trans ((hp_a (by omega)).trans ((h7 _ _ (by omega) (by omega)).trans (hkd x hx)))
  · exact (hp_a (by omega)).trans ((hp_a (by omega)).trans ((h7 _ _ (by omega) (by omega)).trans (hin x hx)))
  · exact (hp_a (by omega)).trans ((hp_a (by omega)).trans ((h7 _ _ (by omega) (by omega)).trans (hns x hx)))
  · exact (hp_a (by omega)).trans ((hp_a (by omega)).trans ((h7 _ _ (by omega) (by omega)).trans (hnm x k hx hk)))
  · exact (hp_a (by omega)).trans ((hp_j (by omega)).trans ((h7 _ _ (by omega) (by omega)).trans hH.1))
  · exact (hp_a (by omega)).trans ((hp_j (by omega)).trans ((h7 _ _ (by omega) (by omega)).trans hO))
  · exact (hp_a (by omega)).trans ((hp_j (by omega)).trans ((h7 _ _ (by omega) (by omega)).trans hg))
  · exact (hp_a (by omega)).trans ((hp_j (by omega)).trans ((h7 _ _ (by omega) (by omega)).trans hE))
  · exact (hp_a (by omega)).trans hp_eq
  · exact (hp_a (by omega)).trans ((hp_a (by omega)).trans (h3 k hk).1)
  · exact (hp_a (by omega)).trans ((hp_a (by omega)).trans (h3 k hk).2)
  · by_cases z : x = e
    · subst z
      rw [fb_but_s]
      exact hp_eq
    · rw [fb_but_n z]
      exact (hp_j z).trans ((hp_a (by omega)).trans ((h7 _ _ (by omega) (by omega)).trans (hB.2.2.2.2.2 x hx)))
  · exact (hp_a (by omega)).trans ((hp_a (by omega)).trans (h7 _ _ (by omega) (by omega)))
set_option maxHeartbeats 4000000 in
set_option maxRecDepth 100000 in
/-- PathTreeModel.lose -/
theorem kR_lose {G : GG} {h : HH} {o : Nat} {T : TT} {p : Nat → Nat} {len hand : Nat} {op : Option Nat} {gone : Bool} {ents : Nat} {bl : List (Nat × Nat)} {Q : Option Value → HH → Prop} {e : Nat} (hI : RI G h o T p len hand op gone ents bl) (he : e < 300) (hQ : ∀ h', RI G h' o T p len hand op gone ents (s_but bl e) → FrO o h h' → Q (some (.int (nI (s_fb bl e).length))) h') : V G mR_lose 0 (lv_args 0 [.ref o, .int (nI e)]) [] h 0 0 Q := by
  obtain ⟨hS, hP, hT, hH, hO, hg, hE, hB, hop⟩ := id hI
  obtain ⟨hz, hk0, hk1, hk2, hk3, hk4, hk5, hk6, hk7, hk8, hf0, hf2, hf3, hf4, hf5, hf6, hf12, hf13⟩ := id hS
  obtain ⟨hln, hpp, hl2, hp⟩ := id hP
  obtain ⟨hkd, hkd2, hin, hin2, hns, hns2, hnm, hnm2⟩ := id hT
  obtain ⟨hhand, hhl⟩ := id hH
  obtain ⟨b1, b2, b3, b4, b5, b6⟩ := id hB
  have loop : ∀ r k hq, k + r = bl.length → LJ G h hq o bl e k → V G mR_lose 12 [(4, .int (nI k)), (3, .int (nI (s_but (bl.take k) e).length)), (2, .int (nI (s_fb bl e).length)), (0, .ref o), (1, .int (nI e))] [] hq 0 0 Q := by
    intro r
    induction r with
    | zero =>
      intro k hq hr hJ
      rw [show k = bl.length by omega] at hJ ⊢
      obtain ⟨j1, j2, j3, j4, j5, j6, j7⟩ := id hJ
      rw [List.take_length]
      obtain ⟨hzp, hk0p, hk1p, hk2p, hk3p, hk4p, hk5p, hk6p, hk7p, hk8p, hf0p, hf2p, hf3p, hf4p, hf5p, hf6p, hf12p, hf13p⟩ := id j1
      refine V.iload dR_lose_12 rfl ?_
      first | refine V.aload_n dR_lose_14 rfl ?_ | refine V.aload_nN dR_lose_14 rfl ?_
      refine V.getk dR_lose_15 (by omega) (by assumption) f_R_87_4 (by assumption) ?_
      refine V.icmp_ge (tgt := 70) dR_lose_18 (by decide) (fun c_18 => ?_) (fun c_18 => ?_)
      · try simp (disch := omega) only [nI_ltI, nI_leI, nI_eq, zz_lt0, zz_ge0, zz_gt0, zz_le0, zz_eq0, zz_m1lt, zz_m1ge, zz_m1eq, bI_eq0, decide_eq_false_iff_not, decide_eq_true_eq, Decidable.not_not, not_true_eq_false, not_false_eq_true, Nat.not_lt, Nat.not_le, Bool.not_eq_false, Bool.not_eq_true] at c_18
        first | refine V.aload_n dR_lose_70 rfl ?_ | refine V.aload_nN dR_lose_70 rfl ?_
        refine V.iload_n dR_lose_71 rfl ?_
        refine V.putk dR_lose_72 (by omega) (by assumption) p_R_87_4 rfl rfl ?_
        intro h72 e72
        have hS4 : RS G h72 o := by (rw [e72]; exact j1.put (by omega))
        obtain ⟨hzq, hk0q, hk1q, hk2q, hk3q, hk4q, hk5q, hk6q, hk7q, hk8q, hf0q, hf2q, hf3q, hf4q, hf5q, hf6q, hf12q, hf13q⟩ := id hS4
        first | refine V.aload_n dR_lose_75 rfl ?_ | refine V.aload_nN dR_lose_75 rfl ?_
        refine V.getk dR_lose_76 (by omega) (by assumption) f_R_19_4 (by assumption) ?_
        refine V.iload_n dR_lose_79 rfl ?_
        refine V.iconst (v := (nI 0)) dR_lose_80 (by decide) ?_
        refine V.iastoreN dR_lose_81 (by omega) (by assumption) (by omega) rfl ?_
        intro h81 e81
        refine V.iload_n dR_lose_82 rfl ?_
        refine V.ireturn dR_lose_83 rfl rfl ?_
        have hd := LJ.done hI hJ
        have e9 : h81 = h_put (h_put hq o 11 (.int (nI (s_but bl e).length))) (o + 4) e (.int (nI 0)) := by (rw [e81, e72])
        rw [← e9] at hd
        exact hQ h81 hd.1 hd.2
      · try simp (disch := omega) only [nI_ltI, nI_leI, nI_eq, zz_lt0, zz_ge0, zz_gt0, zz_le0, zz_eq0, zz_m1lt, zz_m1ge, zz_m1eq, bI_eq0, decide_eq_false_iff_not, decide_eq_true_eq, Decidable.not_not, not_true_eq_false, not_false_eq_true, Nat.not_lt, Nat.not_le, Bool.not_eq_false, Bool.not_eq_true] at c_18
        all_goals omega
    | succ r ih =>
      intro k hq hr hJ
      obtain ⟨j1, j2, j3, j4, j5, j6, j7⟩ := id hJ
      have hbk := b4 _ (getD_mem (show k < bl.length by omega))
      have hbl := but_le bl e k
      obtain ⟨hzp, hk0p, hk1p, hk2p, hk3p, hk4p, hk5p, hk6p, hk7p, hk8p, hf0p, hf2p, hf3p, hf4p, hf5p, hf6p, hf12p, hf13p⟩ := id j1
      refine V.iload dR_lose_12 rfl ?_
      first | refine V.aload_n dR_lose_14 rfl ?_ | refine V.aload_nN dR_lose_14 rfl ?_
      refine V.getk dR_lose_15 (by omega) (by assumption) f_R_87_4 (by assumption) ?_
      refine V.icmp_ge (tgt := 70) dR_lose_18 (by decide) (fun c_18 => ?_) (fun c_18 => ?_)
      · try simp (disch := omega) only [nI_ltI, nI_leI, nI_eq, zz_lt0, zz_ge0, zz_gt0, zz_le0, zz_eq0, zz_m1lt, zz_m1ge, zz_m1eq, bI_eq0, decide_eq_false_iff_not, decide_eq_true_eq, Decidable.not_not, not_true_eq_false, not_false_eq_true, Nat.not_lt, Nat.not_le, Bool.not_eq_false, Bool.not_eq_true] at c_18
        all_goals omega
      · try simp (disch := omega) only [nI_ltI, nI_leI, nI_eq, zz_lt0, zz_ge0, zz_gt0, zz_le0, zz_eq0, zz_m1lt, zz_m1ge, zz_m1eq, bI_eq0, decide_eq_false_iff_not, decide_eq_true_eq, Decidable.not_not, not_true_eq_false, not_false_eq_true, Nat.not_lt, Nat.not_le, Bool.not_eq_false, Bool.not_eq_true] at c_18
        first | refine V.aload_n dR_lose_21 rfl ?_ | refine V.aload_nN dR_lose_21 rfl ?_
        refine V.getk dR_lose_22 (by omega) (by assumption) f_R_40_4 (by assumption) ?_
        refine V.iload dR_lose_25 rfl ?_
        refine V.saloadN dR_lose_27 (by omega) (by assumption) (by omega) (j4 k (Nat.le_refl _) (by omega)).2 ?_
        refine V.iload_n dR_lose_28 rfl ?_
        refine V.icmp_ne (tgt := 35) dR_lose_29 (by decide) (fun c_29 => ?_) (fun c_29 => ?_)
        · try simp (disch := omega) only [nI_ltI, nI_leI, nI_eq, zz_lt0, zz_ge0, zz_gt0, zz_le0, zz_eq0, zz_m1lt, zz_m1ge, zz_m1eq, bI_eq0, decide_eq_false_iff_not, decide_eq_true_eq, Decidable.not_not, not_true_eq_false, not_false_eq_true, Nat.not_lt, Nat.not_le, Bool.not_eq_false, Bool.not_eq_true] at c_29
          first | refine V.aload_n dR_lose_35 rfl ?_ | refine V.aload_nN dR_lose_35 rfl ?_
          refine V.getk dR_lose_36 (by omega) (by assumption) f_R_36_4 (by assumption) ?_
          refine V.iload_n dR_lose_39 rfl ?_
          first | refine V.aload_n dR_lose_40 rfl ?_ | refine V.aload_nN dR_lose_40 rfl ?_
          refine V.getk dR_lose_41 (by omega) (by assumption) f_R_36_4 (by assumption) ?_
          refine V.iload dR_lose_44 rfl ?_
          refine V.baloadN dR_lose_46 (by omega) (by assumption) (by omega) (j4 k (Nat.le_refl _) (by omega)).1 ?_
          refine V.bastoreN dR_lose_47 (by omega) (by assumption) (by omega) (pk_nb _) ?_
          intro h47 e47
          have hS4 : RS G h47 o := by (rw [e47]; exact j1.put (by omega))
          obtain ⟨hzq, hk0q, hk1q, hk2q, hk3q, hk4q, hk5q, hk6q, hk7q, hk8q, hf0q, hf2q, hf3q, hf4q, hf5q, hf6q, hf12q, hf13q⟩ := id hS4
          have j8 : h47.2.1 (o + 8) k = .int (nI (bl.getD k (0, 0)).2) := by (rw [e47]; exact (hp_a (by omega)).trans (j4 k (Nat.le_refl _) (by omega)).2)
          first | refine V.aload_n dR_lose_48 rfl ?_ | refine V.aload_nN dR_lose_48 rfl ?_
          refine V.getk dR_lose_49 (by omega) (by assumption) f_R_40_4 (by assumption) ?_
          refine V.iload_n dR_lose_52 rfl ?_
          first | refine V.aload_n dR_lose_53 rfl ?_ | refine V.aload_nN dR_lose_53 rfl ?_
          refine V.getk dR_lose_54 (by omega) (by assumption) f_R_40_4 (by assumption) ?_
          refine V.iload dR_lose_57 rfl ?_
          refine V.saloadN dR_lose_59 (by omega) (by assumption) (by omega) j8 ?_
          refine V.sastoreN dR_lose_60 (by omega) (by assumption) (by omega) (sh_nar _ (by omega)) ?_
          intro h60 e60
          refine V.iincN dR_lose_61 rfl (by decide) ?_
          refine V.iincN dR_lose_64 rfl (by decide) ?_
          refine V.goto (tgt := 12) dR_lose_67 (by decide) ?_
          first | exact V.re [4, 3, 2, 0, 1] rfl (by rw [← show s_but (bl.take (k + 1)) e = s_but (bl.take k) e by (rw [but_step (by omega), if_pos c_29, List.append_nil])]; exact ih (k + 1) hq (by omega) (hJ.skip (by omega) c_29)) | exact V.re [4, 3, 2, 0, 1] rfl (by rw [← show (s_but (bl.take (k + 1)) e).length = (s_but (bl.take k) e).length + 1 by (rw [but_step (by omega), if_neg c_29, List.length_append, List.length_singleton])]; exact ih (k + 1) h60 (by omega) (by rw [e60, e47]; exact hJ.keep (by omega) c_29))
        · try simp (disch := omega) only [nI_ltI, nI_leI, nI_eq, zz_lt0, zz_ge0, zz_gt0, zz_le0, zz_eq0, zz_m1lt, zz_m1ge, zz_m1eq, bI_eq0, decide_eq_false_iff_not, decide_eq_true_eq, Decidable.not_not, not_true_eq_false, not_false_eq_true, Nat.not_lt, Nat.not_le, Bool.not_eq_false, Bool.not_eq_true] at c_29
          refine V.goto (tgt := 64) dR_lose_32 (by decide) ?_
          refine V.iincN dR_lose_64 rfl (by decide) ?_
          refine V.goto (tgt := 12) dR_lose_67 (by decide) ?_
          first | exact V.re [4, 3, 2, 0, 1] rfl (by rw [← show s_but (bl.take (k + 1)) e = s_but (bl.take k) e by (rw [but_step (by omega), if_pos c_29, List.append_nil])]; exact ih (k + 1) hq (by omega) (hJ.skip (by omega) c_29)) | exact V.re [4, 3, 2, 0, 1] rfl (by rw [← show (s_but (bl.take (k + 1)) e).length = (s_but (bl.take k) e).length + 1 by (rw [but_step (by omega), if_neg c_29, List.length_append, List.length_singleton])]; exact ih (k + 1) h60 (by omega) (by rw [e60, e47]; exact hJ.keep (by omega) c_29))
  first | refine V.aload_n dR_lose_0 rfl ?_ | refine V.aload_nN dR_lose_0 rfl ?_
  refine V.getk dR_lose_1 (by omega) (by assumption) f_R_19_4 (by assumption) ?_
  refine V.iload_n dR_lose_4 rfl ?_
  refine V.ialoadN dR_lose_5 (by omega) (by assumption) (by omega) (b6 e he) ?_
  refine V.istore_n dR_lose_6 (by decide) ?_
  refine V.iconst (v := (nI 0)) dR_lose_7 (by decide) ?_
  refine V.istore_n dR_lose_8 (by decide) ?_
  refine V.iconst (v := (nI 0)) dR_lose_9 (by decide) ?_
  refine V.istore dR_lose_10 (by decide) ?_
  exact loop bl.length 0 h (by omega) ⟨hS, b1, fun j hj => absurd hj (Nat.not_lt_zero j), fun j _ hj => ⟨b2 j hj, b3 j hj⟩, rfl, rfl, fun _ _ _ _ => rfl⟩
