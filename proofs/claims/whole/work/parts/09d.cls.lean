theorem s_cnt_filter (P : Nat → Bool) : ∀ n, s_cnt P n = ((List.range n).filter P).length
  | 0 => rfl
  | n + 1 => by
    rw [List.range_succ, List.filter_append, List.length_append, ← s_cnt_filter P n]
    show s_cnt P n + (if P n = true then 1 else 0) = _
    by_cases h : P n = true
    · simp [h]
    · simp [h]
theorem s_cnt_list {P : Nat → Bool} {n : Nat} {l : List Nat} (hn : l.Nodup) (hm : ∀ i, i ∈ l ↔ (i < n ∧ P i = true)) : s_cnt P n = l.length := by
  rw [s_cnt_filter]
  refine Nat.le_antisymm ?_ ?_
  · have hf : ((List.range n).filter P).Nodup := List.Pairwise.filter _ List.nodup_range
    refine hf.length_le_of_subset (fun i hi => ?_)
    rw [List.mem_filter, List.mem_range] at hi
    exact (hm i).mpr hi
  · refine hn.length_le_of_subset (fun i hi => ?_)
    rw [List.mem_filter, List.mem_range]
    exact (hm i).mp hi
theorem get_split : ∀ {l : List Nat} {y e : Nat}, l[y]? = some e → ∃ l1 l2, l = l1 ++ e :: l2 ∧ l1.length = y
  | [], y, e, h => by simp at h
  | a :: l, 0, e, h => ⟨[], l, by simp at h; rw [h]; rfl, rfl⟩
  | a :: l, y + 1, e, h => by
    rw [List.getElem?_cons_succ] at h
    obtain ⟨l1, l2, h1, h2⟩ := get_split h
    exact ⟨a :: l1, l2, by rw [h1]; rfl, by rw [List.length_cons, h2]⟩
section RANK
variable {G : GG} {h : HH} {x : Nat} {T : TT} {ad na : Nat → Nat} {ch : Nat → List Nat}
theorem CT.size {d : Nat} (hC : CT G h x T ad na ch) (hd : d < 300) (h2 : T.1 d = 2) : s_cnt (fun e => decide (1 ≤ e ∧ T.1 e ≠ 0 ∧ T.2.1 e = d)) 300 = (ch d).length :=
  s_cnt_list (hC.nodup hd h2) (fun i => by
    rw [hC.mem hd h2, decide_eq_true_eq]
    exact ⟨fun z => ⟨z.2.1, z.1, z.2.2⟩, fun z => ⟨z.2.1, z.1, z.2.2⟩⟩)
theorem CT.rank {d e : Nat} {l1 l2 : List Nat} (hC : CT G h x T ad na ch) (hd : d < 300) (h2 : T.1 d = 2) (hl : ch d = l1 ++ e :: l2) : s_rank T d e = l1.length := by
  have hnd := hC.nodup hd h2
  have hpw := (hC.2.2.2.2.2 d hd h2).2.2.1
  rw [hl] at hnd hpw
  have p0 := List.pairwise_append.mp hpw
  have n0 := List.nodup_append.mp hnd
  unfold s_rank
  refine s_cnt_list n0.1 (fun i => ?_)
  rw [Bool.and_eq_true, decide_eq_true_eq, s_ltb_iff]
  have hmem := hC.mem hd h2 (i := i)
  rw [hl] at hmem
  constructor
  · intro hi
    have h3 := hmem.mp (List.mem_append_left _ hi)
    exact ⟨h3.2.1, ⟨h3.1, h3.2.2⟩, p0.2.2 i hi e List.mem_cons_self⟩
  · intro ⟨h3, h4, h5⟩
    have h6 := hmem.mpr ⟨h4.1, h3, h4.2⟩
    rcases List.mem_append.mp h6 with q | q
    · exact q
    · exfalso
      rcases List.mem_cons.mp q with q | q
      · rw [q] at h5; exact s_lt_irr (fun _ _ => rfl) h5
      · exact s_lt_irr (fun _ _ => rfl) (s_lt_tr h5 ((List.pairwise_cons.mp p0.2.1).1 i q))
theorem s_nth_none' {d : Nat} {k : Int32} (hn : s_nth T d k = none) : ∀ e, e < 300 → ¬ ((1 ≤ e ∧ T.1 e ≠ 0 ∧ T.2.1 e = d) ∧ nI (s_rank T d e) = k) := by
  unfold s_nth at hn
  rw [List.find?_eq_none] at hn
  intro e he q
  refine hn e (List.mem_range.mpr he) ?_
  simp only [Bool.and_eq_true, decide_eq_true_eq]
  exact q
theorem CT.nth1 {d y e : Nat} (hC : CT G h x T ad na ch) (hd : d < 300) (h2 : T.1 d = 2) (hy : (ch d)[y]? = some e) : s_nth T d (nI y) = some e := by
  obtain ⟨l1, l2, hl, hly⟩ := get_split hy
  have h3 := hC.len3 hd h2
  have hlen : (ch d).length = l1.length + (l2.length + 1) := by (rw [hl, List.length_append, List.length_cons])
  have hr := hC.rank hd h2 hl
  have hm := (hC.mem hd h2 (i := e)).mp (by rw [hl]; exact List.mem_append_right _ List.mem_cons_self)
  cases hq : s_nth T d (nI y) with
  | none => exact absurd ⟨⟨hm.1, hm.2.2⟩, by rw [hr, hly]⟩ (s_nth_none' hq e hm.2.1)
  | some e2 =>
    obtain ⟨k1, k2, k3⟩ := s_nth_some hq
    have hm2 := (hC.mem hd h2 (i := e2)).mpr ⟨k2.1, k1, k2.2⟩
    obtain ⟨y2, hy2⟩ := List.getElem?_of_mem hm2
    obtain ⟨m1, m2, hml, hmy⟩ := get_split hy2
    have hlen2 : (ch d).length = m1.length + (m2.length + 1) := by (rw [hml, List.length_append, List.length_cons])
    rw [hC.rank hd h2 hml] at k3
    have h9 := nI_inj (by omega) (by omega) k3
    rw [show y2 = y by omega, hy] at hy2
    exact hy2.symm
theorem CT.nth0 {d : Nat} {k : Int32} (hC : CT G h x T ad na ch) (hd : d < 300) (h2 : T.1 d = 2) (hk : ∀ y, y < (ch d).length → ¬ k = nI y) : s_nth T d k = none := by
  refine s_nth_none (fun e he q => ?_)
  have hm2 := (hC.mem hd h2 (i := e)).mpr ⟨q.1.1, he, q.1.2⟩
  obtain ⟨y2, hy2⟩ := List.getElem?_of_mem hm2
  obtain ⟨m1, m2, hml, hmy⟩ := get_split hy2
  have hlen2 : (ch d).length = m1.length + (m2.length + 1) := by (rw [hml, List.length_append, List.length_cons])
  rw [hC.rank hd h2 hml] at q
  exact hk m1.length (by omega) q.2.symm
end RANK
set_option maxHeartbeats 4000000 in
set_option maxRecDepth 100000 in
/-- PathTree.name -/
theorem k_name {G : GG} {h : HH} {x o : Nat} {T : TT} {p : Nat → Nat} {len hand : Nat} {op : Option Nat} {gone : Bool} {bl : List (Nat × Nat)} {ad na : Nat → Nat} {ch : Nat → List Nat} {ba cp : Nat → Nat} {ga gb gc : Nat} {Q : Option Value → HH → Prop} {k j : Int32} (hI : CI G h x o T p len hand op gone bl ad na ch ba cp ga gb gc) (hQ : Q (some (.int (s_name T hand k j))) h) : V G mP_name 0 (lv_args 0 [.ref x, .int k, .int j]) [] h 0 0 Q := by
  obtain ⟨hNK, hP, hO, hX, hC, hB⟩ := id hI
  obtain ⟨ht, htk, hca, hln, hcs, hck, hch, hl2, hp⟩ := id hX
  obtain ⟨a1, a2, a3, a4, a5, a6, a7, a8, a9⟩ := id hP
  have hd := hC.dir a6.1 a6.2
  obtain ⟨d1, d2, d3, d4⟩ := hC.2.2.2.2.2 hand a6.1 a6.2
  first | refine V.aload_n dP_name_0 rfl ?_ | refine V.aload_nN dP_name_0 rfl ?_
  refine V.getk dP_name_1 a1 a2 f_P_25_0 a5 ?_
  refine V.iload_n dP_name_4 rfl ?_
  refine V.callVk (kd := 2) 0 _ 0 _ [_] dP_name_5 okD_entryAt n_P_119 hd.1 hd.2 rfl imD_entryAt seD_entryAt_D (by decide) (by decide) rfl rfl (Nat.le_of_ble_eq_true rfl) (Nat.le_of_ble_eq_true rfl) (Nat.le_of_eq (Nat.zero_add _)) (Nat.le_of_eq (Nat.zero_add _)) (k_entryAt hd d1 d2 (hC.len3 a6.1 a6.2) (hC.ens a6.1 a6.2) (fun hk => ?_) (fun y i hk hy => ?_))
  · rw [show s_name T hand k j = -1 by (unfold s_name; rw [hC.nth0 a6.1 a6.2 hk])] at hQ
    first | refine V.astore_n dP_name_8 (by decide) ?_ | refine V.astore_nN dP_name_8 (by decide) ?_
    first | refine V.aload_n dP_name_9 rfl ?_ | refine V.aload_nN dP_name_9 rfl ?_
    refine V.ifnullN (tgt := 26) dP_name_10 (by decide) ?_
    refine V.iconst (v := (-1)) dP_name_26 (by decide) ?_
    refine V.ireturn dP_name_27 rfl rfl ?_
    exact hQ
  · subst hk
    have hE := hC.ens a6.1 a6.2 i (List.mem_of_getElem? hy)
    have hns := hE.2.2.2.2.2.1
    rcases pk_ix j (n := T.2.2.1 i) (by omega) with hj | hj | ⟨q, hq, rfl⟩
    · rw [show s_name T hand (nI y) j = -1 by (unfold s_name; rw [hC.nth1 a6.1 a6.2 hy]; exact if_neg (fun z => z (Or.inl hj)))] at hQ
      first | refine V.astore_n dP_name_8 (by decide) ?_ | refine V.astore_nN dP_name_8 (by decide) ?_
      first | refine V.aload_n dP_name_9 rfl ?_ | refine V.aload_nN dP_name_9 rfl ?_
      refine V.ifnull dP_name_10 ?_
      refine V.iload_n dP_name_13 rfl ?_
      refine V.if_lt (tgt := 26) dP_name_14 (by decide) (fun c_14 => ?_) (fun c_14 => ?_)
      · skip
        refine V.iconst (v := (-1)) dP_name_26 (by decide) ?_
        refine V.ireturn dP_name_27 rfl rfl ?_
        exact hQ
      · skip
        exact absurd hj c_14
    · rw [show s_name T hand (nI y) j = -1 by (unfold s_name; rw [hC.nth1 a6.1 a6.2 hy]; exact if_neg (fun z => z (Or.inr (zz_clamp (by omega) hj))))] at hQ
      first | refine V.astore_n dP_name_8 (by decide) ?_ | refine V.astore_nN dP_name_8 (by decide) ?_
      first | refine V.aload_n dP_name_9 rfl ?_ | refine V.aload_nN dP_name_9 rfl ?_
      refine V.ifnull dP_name_10 ?_
      refine V.iload_n dP_name_13 rfl ?_
      refine V.if_lt (tgt := 26) dP_name_14 (by decide) (fun c_14 => ?_) (fun c_14 => ?_)
      · skip
        refine V.iconst (v := (-1)) dP_name_26 (by decide) ?_
        refine V.ireturn dP_name_27 rfl rfl ?_
        exact hQ
      · skip
        refine V.iload_n dP_name_17 rfl ?_
        first | refine V.aload_n dP_name_18 rfl ?_ | refine V.aload_nN dP_name_18 rfl ?_
        refine V.getk dP_name_19 hE.1 rfl (fE f_P_123_2 f_P_123_3 hE.2.1) hE.2.2.1 ?_
        refine V.alenN dP_name_22 hE.2.2.2.1 hE.2.2.2.2.1 rfl ?_
        refine V.icmp_lt (tgt := 28) dP_name_23 (by decide) (fun c_23 => ?_) (fun c_23 => ?_)
        · skip
          exact absurd hj (Int32.not_le.mpr c_23)
        · skip
          refine V.iconst (v := (-1)) dP_name_26 (by decide) ?_
          refine V.ireturn dP_name_27 rfl rfl ?_
          exact hQ
    · rw [show s_name T hand (nI y) (nI q) = nI (T.2.2.2 i q) by (unfold s_name; rw [hC.nth1 a6.1 a6.2 hy]; dsimp only; rw [nI_clamp (by omega)]; exact if_pos (fun z => by (rcases z with z | z; exact nI_pos (by omega) z; omega)))] at hQ
      first | refine V.astore_n dP_name_8 (by decide) ?_ | refine V.astore_nN dP_name_8 (by decide) ?_
      first | refine V.aload_n dP_name_9 rfl ?_ | refine V.aload_nN dP_name_9 rfl ?_
      refine V.ifnull dP_name_10 ?_
      refine V.iload_n dP_name_13 rfl ?_
      refine V.if_lt (tgt := 26) dP_name_14 (by decide) (fun c_14 => ?_) (fun c_14 => ?_)
      · try simp (disch := omega) only [nI_ltI, nI_leI, nI_eq, zz_lt0, zz_ge0, zz_gt0, zz_le0, zz_eq0, zz_m1lt, zz_m1ge, zz_m1eq, bI_eq0, decide_eq_false_iff_not, decide_eq_true_eq, Decidable.not_not, not_true_eq_false, not_false_eq_true, Nat.not_lt, Nat.not_le, Bool.not_eq_false, Bool.not_eq_true] at c_14
        all_goals omega
      · try simp (disch := omega) only [nI_ltI, nI_leI, nI_eq, zz_lt0, zz_ge0, zz_gt0, zz_le0, zz_eq0, zz_m1lt, zz_m1ge, zz_m1eq, bI_eq0, decide_eq_false_iff_not, decide_eq_true_eq, Decidable.not_not, not_true_eq_false, not_false_eq_true, Nat.not_lt, Nat.not_le, Bool.not_eq_false, Bool.not_eq_true] at c_14
        refine V.iload_n dP_name_17 rfl ?_
        first | refine V.aload_n dP_name_18 rfl ?_ | refine V.aload_nN dP_name_18 rfl ?_
        refine V.getk dP_name_19 hE.1 rfl (fE f_P_123_2 f_P_123_3 hE.2.1) hE.2.2.1 ?_
        refine V.alenN dP_name_22 hE.2.2.2.1 hE.2.2.2.2.1 rfl ?_
        refine V.icmp_lt (tgt := 28) dP_name_23 (by decide) (fun c_23 => ?_) (fun c_23 => ?_)
        · try simp (disch := omega) only [nI_ltI, nI_leI, nI_eq, zz_lt0, zz_ge0, zz_gt0, zz_le0, zz_eq0, zz_m1lt, zz_m1ge, zz_m1eq, bI_eq0, decide_eq_false_iff_not, decide_eq_true_eq, Decidable.not_not, not_true_eq_false, not_false_eq_true, Nat.not_lt, Nat.not_le, Bool.not_eq_false, Bool.not_eq_true] at c_23
          first | refine V.aload_n dP_name_28 rfl ?_ | refine V.aload_nN dP_name_28 rfl ?_
          refine V.getk dP_name_29 hE.1 rfl (fE f_P_123_2 f_P_123_3 hE.2.1) hE.2.2.1 ?_
          refine V.iload_n dP_name_32 rfl ?_
          refine V.caloadN dP_name_33 hE.2.2.2.1 hE.2.2.2.2.1 (by omega) (hE.2.2.2.2.2.2.1 q hq) ?_
          refine V.ireturn dP_name_34 rfl rfl ?_
          exact hQ
        · try simp (disch := omega) only [nI_ltI, nI_leI, nI_eq, zz_lt0, zz_ge0, zz_gt0, zz_le0, zz_eq0, zz_m1lt, zz_m1ge, zz_m1eq, bI_eq0, decide_eq_false_iff_not, decide_eq_true_eq, Decidable.not_not, not_true_eq_false, not_false_eq_true, Nat.not_lt, Nat.not_le, Bool.not_eq_false, Bool.not_eq_true] at c_23
          all_goals omega
  skip
set_option maxHeartbeats 4000000 in
set_option maxRecDepth 100000 in
/-- PathTree.count -/
theorem k_count {G : GG} {h : HH} {x o : Nat} {T : TT} {p : Nat → Nat} {len hand : Nat} {op : Option Nat} {gone : Bool} {bl : List (Nat × Nat)} {ad na : Nat → Nat} {ch : Nat → List Nat} {ba cp : Nat → Nat} {ga gb gc : Nat} {Q : Option Value → HH → Prop} {dp : Nat → Nat} {w : Int32} (hI : CI G h x o T p len hand op gone bl ad na ch ba cp ga gb gc) (hd0 : dp 0 = 0) (hdp : ∀ e, e < 300 → T.1 e = 2 → e ≠ 0 → T.1 (T.2.1 e) = 2 ∧ dp e = dp (T.2.1 e) + 1) (hQ : Q (some (.int (s_count T len hand op gone bl dp w))) h) : V G mP_count 0 (lv_args 0 [.ref x, .int w]) [] h 0 0 Q := by
  obtain ⟨hNK, hP, hO, hX, hC, hB⟩ := id hI
  obtain ⟨ht, htk, hca, hln, hcs, hck, hch, hl2, hp⟩ := id hX
  obtain ⟨a1, a2, a3, a4, a5, a6, a7, a8, a9⟩ := id hP
  have hd := hC.dir a6.1 a6.2
  obtain ⟨d1, d2, d3, d4⟩ := hC.2.2.2.2.2 hand a6.1 a6.2
  rcases pk_ix w (n := 7) (by decide) with hw | hw | ⟨j, hj, rfl⟩
  · have hne : ∀ k, k < 7 → ¬ w = nI k := fun k hk z => by
      rw [z] at hw
      exact nI_pos (by omega) hw
    have e1 : s_count T len hand op gone bl dp w = -1 := by (unfold s_count; rw [if_neg (hne 0 (by omega)), if_neg (hne 1 (by omega)), if_neg (hne 2 (by omega)), if_neg (hne 3 (by omega)), if_neg (hne 4 (by omega)), if_neg (hne 5 (by omega)), if_neg (hne 6 (by omega))])
    rw [e1] at hQ
    refine V.iload_n dP_count_0 rfl ?_
    refine V.tableOut (tgt := 102) dP_count_1 (Or.inl (by rw [Int32.lt_iff_toInt_lt] at hw; simpa using hw)) (by decide) ?_
    refine V.iconst (v := (-1)) dP_count_102 (by decide) ?_
    refine V.ireturn dP_count_103 rfl rfl ?_
    exact hQ
  · have hne : ∀ k, k < 7 → ¬ w = nI k := fun k hk z => by
      rw [z] at hw
      have := (nI_leI (by omega) (by omega)).mp hw; omega
    have e1 : s_count T len hand op gone bl dp w = -1 := by (unfold s_count; rw [if_neg (hne 0 (by omega)), if_neg (hne 1 (by omega)), if_neg (hne 2 (by omega)), if_neg (hne 3 (by omega)), if_neg (hne 4 (by omega)), if_neg (hne 5 (by omega)), if_neg (hne 6 (by omega))])
    rw [e1] at hQ
    refine V.iload_n dP_count_0 rfl ?_
    refine V.tableOut (tgt := 102) dP_count_1 (Or.inr (by rw [Int32.le_iff_toInt_le, nI_toInt (by decide)] at hw; omega)) (by decide) ?_
    refine V.iconst (v := (-1)) dP_count_102 (by decide) ?_
    refine V.ireturn dP_count_103 rfl rfl ?_
    exact hQ
  · rcases (show j = 0 ∨ j = 1 ∨ j = 2 ∨ j = 3 ∨ j = 4 ∨ j = 5 ∨ j = 6 by omega) with rfl | rfl | rfl | rfl | rfl | rfl | rfl
    · have e1 : s_count T len hand op gone bl dp (nI 0) = nI (s_cnt (fun e => decide (T.1 e = 1)) 300) := by (unfold s_count; rw [if_pos rfl])
      rw [e1] at hQ
      refine V.iload_n dP_count_0 rfl ?_
      refine V.tableIn (tgt := 44) dP_count_1 (by decide) (by decide) rfl (by decide) ?_
      first | refine V.aload_n dP_count_44 rfl ?_ | refine V.aload_nN dP_count_44 rfl ?_
      refine V.getk dP_count_45 a1 a2 f_P_32_0 a7 ?_
      refine V.ireturn dP_count_48 rfl rfl ?_
      exact hQ
    · have e1 : s_count T len hand op gone bl dp (nI 1) = nI (s_cnt (fun e => decide (T.1 e = 2)) 300) := by (unfold s_count; rw [if_neg (by decide), if_pos rfl])
      rw [e1] at hQ
      refine V.iload_n dP_count_0 rfl ?_
      refine V.tableIn (tgt := 49) dP_count_1 (by decide) (by decide) rfl (by decide) ?_
      first | refine V.aload_n dP_count_49 rfl ?_ | refine V.aload_nN dP_count_49 rfl ?_
      refine V.getk dP_count_50 a1 a2 f_P_36_0 a8 ?_
      refine V.ireturn dP_count_53 rfl rfl ?_
      exact hQ
    · have e1 : s_count T len hand op gone bl dp (nI 2) = nI bl.length := by (unfold s_count; rw [if_neg (by decide), if_neg (by decide), if_pos rfl])
      rw [e1] at hQ
      refine V.iload_n dP_count_0 rfl ?_
      refine V.tableIn (tgt := 54) dP_count_1 (by decide) (by decide) rfl (by decide) ?_
      first | refine V.aload_n dP_count_54 rfl ?_ | refine V.aload_nN dP_count_54 rfl ?_
      refine V.getk dP_count_55 a1 a2 f_P_39_0 a9 ?_
      refine V.ireturn dP_count_58 rfl rfl ?_
      exact hQ
    · have e1 : s_count T len hand op gone bl dp (nI 3) = nI (s_cnt (fun e => decide (1 ≤ e ∧ T.1 e ≠ 0 ∧ T.2.1 e = hand)) 300) := by (unfold s_count; rw [if_neg (by decide), if_neg (by decide), if_neg (by decide), if_pos rfl])
      rw [e1] at hQ
      rw [hC.size a6.1 a6.2] at hQ
      refine V.iload_n dP_count_0 rfl ?_
      refine V.tableIn (tgt := 59) dP_count_1 (by decide) (by decide) rfl (by decide) ?_
      first | refine V.aload_n dP_count_59 rfl ?_ | refine V.aload_nN dP_count_59 rfl ?_
      refine V.getk dP_count_60 a1 a2 f_P_25_0 a5 ?_
      refine V.getk dP_count_63 hd.1 hd.2 f_P_129_2 d2 ?_
      refine V.ireturn dP_count_66 rfl rfl ?_
      exact hQ
    · have e1 : s_count T len hand op gone bl dp (nI 4) = nI (dp hand) := by (unfold s_count; rw [if_neg (by decide), if_neg (by decide), if_neg (by decide), if_neg (by decide), if_pos rfl])
      rw [e1] at hQ
      refine V.iload_n dP_count_0 rfl ?_
      refine V.tableIn (tgt := 67) dP_count_1 (by decide) (by decide) rfl (by decide) ?_
      have hQ9 : V G mP_count (71 + 3) (lv_args 0 [.ref x, .int (nI 4)]) [.int (nI (dp hand))] h 0 0 Q := by
        refine V.ireturn dP_count_74 rfl rfl ?_
        exact hQ
      first | refine V.aload_n dP_count_67 rfl ?_ | refine V.aload_nN dP_count_67 rfl ?_
      refine V.getk dP_count_68 a1 a2 f_P_25_0 a5 ?_
      refine V.callVk (kd := 2) 0 _ 0 _ [] dP_count_71 okD_depth n_P_132 hd.1 hd.2 rfl imD_depth seD_depth_D (by decide) (by decide) rfl rfl (Nat.le_of_ble_eq_true rfl) (Nat.le_of_ble_eq_true rfl) (Nat.le_of_eq (Nat.zero_add _)) (Nat.le_of_eq (Nat.zero_add _)) (k_depth (dp := dp) (par := T.2.1) (Dr := fun e => e < 300 ∧ T.1 e = 2) (fun e he => ?_) hd0 a6 hQ9)
      have hde := hC.dir he.1 he.2
      refine ⟨hde.1, hde.2, ?_⟩
      by_cases z : e = 0
      · left; exact ⟨z, by rw [z]; exact hC.2.2.2.1.1⟩
      · right
        have h9 := hdp e he.1 he.2 z
        exact ⟨z, (hC.2.2.1 e he.1 (by omega) z).1, ⟨(hC.1 e he.1).2, h9.1⟩, h9.2⟩
    · have e1 : s_count T len hand op gone bl dp (nI 5) = nI len := by (unfold s_count; rw [if_neg (by decide), if_neg (by decide), if_neg (by decide), if_neg (by decide), if_neg (by decide), if_pos rfl])
      rw [e1] at hQ
      refine V.iload_n dP_count_0 rfl ?_
      refine V.tableIn (tgt := 75) dP_count_1 (by decide) (by decide) rfl (by decide) ?_
      first | refine V.aload_n dP_count_75 rfl ?_ | refine V.aload_nN dP_count_75 rfl ?_
      refine V.getk dP_count_76 a1 a2 f_P_10_0 a3 ?_
      refine V.getk dP_count_79 ht htk f_P_54_1 hln ?_
      refine V.ireturn dP_count_82 rfl rfl ?_
      exact hQ
    · have e1 : s_count T len hand op gone bl dp (nI 6) = s_len6 op gone bl := by (unfold s_count; rw [if_neg (by decide), if_neg (by decide), if_neg (by decide), if_neg (by decide), if_neg (by decide), if_neg (by decide), if_pos rfl])
      rw [e1] at hQ
      refine V.iload_n dP_count_0 rfl ?_
      refine V.tableIn (tgt := 83) dP_count_1 (by decide) (by decide) rfl (by decide) ?_
      cases op with
      | none =>
        have h3 : h.2.1 x 3 = .null := hO.1
        first | refine V.aload_n dP_count_83 rfl ?_ | refine V.aload_nN dP_count_83 rfl ?_
        refine V.getk dP_count_84 a1 a2 f_P_28_0 h3 ?_
        refine V.ifnonnullN dP_count_87 ?_
        refine V.iconst (v := (-1)) dP_count_90 (by decide) ?_
        refine V.goto (tgt := 101) dP_count_91 (by decide) ?_
        refine V.ireturn dP_count_101 rfl rfl ?_
        exact hQ
      | some e =>
        cases gone with
        | true =>
          have h3 : h.2.1 x 3 = .ref ga := hO.1
          have hg := (hO.2.2 e rfl rfl).1
          first | refine V.aload_n dP_count_83 rfl ?_ | refine V.aload_nN dP_count_83 rfl ?_
          refine V.getk dP_count_84 a1 a2 f_P_28_0 h3 ?_
          refine V.ifnonnull (tgt := 94) dP_count_87 (by decide) ?_
          first | refine V.aload_n dP_count_94 rfl ?_ | refine V.aload_nN dP_count_94 rfl ?_
          refine V.getk dP_count_95 a1 a2 f_P_28_0 h3 ?_
          refine V.getk dP_count_98 hg.1 hg.2.1 f_P_82_3 hg.2.2.2.1 ?_
          refine V.ireturn dP_count_101 rfl rfl ?_
          exact hQ
        | false =>
          have h3 : h.2.1 x 3 = .ref (ad e) := hO.1
          obtain ⟨he, h1⟩ := hO.2.1 e rfl rfl
          have hg := (hB.1 e he h1).1
          first | refine V.aload_n dP_count_83 rfl ?_ | refine V.aload_nN dP_count_83 rfl ?_
          refine V.getk dP_count_84 a1 a2 f_P_28_0 h3 ?_
          refine V.ifnonnull (tgt := 94) dP_count_87 (by decide) ?_
          first | refine V.aload_n dP_count_94 rfl ?_ | refine V.aload_nN dP_count_94 rfl ?_
          refine V.getk dP_count_95 a1 a2 f_P_28_0 h3 ?_
          refine V.getk dP_count_98 hg.1 hg.2.1 f_P_82_3 hg.2.2.2.1 ?_
          refine V.ireturn dP_count_101 rfl rfl ?_
          exact hQ
