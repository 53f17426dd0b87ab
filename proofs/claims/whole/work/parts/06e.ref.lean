/-- how many of a directory's entries come before e -/
noncomputable def s_rank (T : TT) (d e : Nat) : Nat := s_cnt (fun f => decide (1 ≤ f ∧ T.1 f ≠ 0 ∧ T.2.1 f = d) && s_ltb (T.2.2.2 f) (T.2.2.1 f) (T.2.2.2 e) (T.2.2.1 e)) 300
/-- the k-th entry of a directory, in the order of the names -/
noncomputable def s_nth (T : TT) (d : Nat) (k : Int32) : Option Nat := (List.range 300).find? (fun e => decide (1 ≤ e ∧ T.1 e ≠ 0 ∧ T.2.1 e = d) && decide (nI (s_rank T d e) = k))
theorem s_nth_some {T : TT} {d e : Nat} {k : Int32} (h : s_nth T d k = some e) : e < 300 ∧ (1 ≤ e ∧ T.1 e ≠ 0 ∧ T.2.1 e = d) ∧ nI (s_rank T d e) = k := by
  unfold s_nth at h
  have h2 := List.find?_some h
  simp only [Bool.and_eq_true, decide_eq_true_eq] at h2
  exact ⟨List.mem_range.mp (List.mem_of_find?_eq_some h), h2.1, h2.2⟩
theorem s_nth_none {T : TT} {d : Nat} {k : Int32} (h : ∀ e, e < 300 → ¬ ((1 ≤ e ∧ T.1 e ≠ 0 ∧ T.2.1 e = d) ∧ nI (s_rank T d e) = k)) : s_nth T d k = none := by
  unfold s_nth
  rw [List.find?_eq_none]
  intro e he q
  simp only [Bool.and_eq_true, decide_eq_true_eq] at q
  exact h e (List.mem_range.mp he) q
theorem s_nth_first {T : TT} {d e : Nat} {k : Int32} (he : e < 300) (h : (1 ≤ e ∧ T.1 e ≠ 0 ∧ T.2.1 e = d) ∧ nI (s_rank T d e) = k) (hf : ∀ x, x < e → ¬ ((1 ≤ x ∧ T.1 x ≠ 0 ∧ T.2.1 x = d) ∧ nI (s_rank T d x) = k)) : s_nth T d k = some e := by
  refine find_range he ?_ (fun x hx => ?_)
  · simp only [Bool.and_eq_true, decide_eq_true_eq]; exact h
  · rw [Bool.eq_false_iff]
    intro q
    simp only [Bool.and_eq_true, decide_eq_true_eq] at q
    exact hf x hx q
/-- the bytes of a file, out of the log -/
def s_fb (bl : List (Nat × Nat)) (e : Nat) : List Nat := (bl.filter (fun q => q.2 == e)).map (·.1)
def RB (h : HH) (o : Nat) (bl : List (Nat × Nat)) : Prop := h.2.1 o 11 = .int (nI bl.length) ∧ (∀ k, k < bl.length → h.2.1 (o + 7) k = .int ((nI (bl.getD k (0, 0)).1).toInt8.toInt32)) ∧ (∀ k, k < bl.length → h.2.1 (o + 8) k = .int (nI (bl.getD k (0, 0)).2)) ∧
  (∀ q ∈ bl, q.1 < 256 ∧ q.2 < 300) ∧ bl.length ≤ 65536 ∧ ∀ e, e < 300 → h.2.1 (o + 4) e = .int (nI (s_fb bl e).length)
theorem getD_mem {bl : List (Nat × Nat)} {k : Nat} (h : k < bl.length) : bl.getD k (0, 0) ∈ bl := by
  rw [List.getD_eq_getElem?_getD, List.getElem?_eq_getElem h]
  exact List.getElem_mem h
theorem drop_cons {bl : List (Nat × Nat)} {k : Nat} (h : k < bl.length) : bl.drop k = bl.getD k (0, 0) :: bl.drop (k + 1) := by
  rw [List.getD_eq_getElem?_getD, List.getElem?_eq_getElem h]
  exact List.drop_eq_getElem_cons h
theorem fb_t {q : Nat × Nat} {bl : List (Nat × Nat)} {e : Nat} (h : q.2 = e) : s_fb (q :: bl) e = q.1 :: s_fb bl e := by simp [s_fb, h]
theorem fb_f {q : Nat × Nat} {bl : List (Nat × Nat)} {e : Nat} (h : ¬ q.2 = e) : s_fb (q :: bl) e = s_fb bl e := by simp [s_fb, h]
theorem fb_le (bl : List (Nat × Nat)) (e : Nat) : (s_fb bl e).length ≤ bl.length := by
  unfold s_fb
  rw [List.length_map]
  exact List.length_filter_le _ _
set_option maxHeartbeats 4000000 in
set_option maxRecDepth 100000 in
/-- PathTreeModel.namesake -/
theorem kR_namesake {G : GG} {h : HH} {o : Nat} {Q : Option Value → HH → Prop} {T : TT} {d f : Nat} (hS : RS G h o) (hT : RT h o T) (hd : d < 300) (hff : f < 300) (hQ : Q (some (.int (oI (s_ent T (T.2.2.2 f) d 0 (T.2.2.1 f))))) h) : V G mR_namesake 0 (lv_args 0 [.ref o, .int (nI d), .int (nI f)]) [] h 0 0 Q := by
  obtain ⟨hz, hk0, hk1, hk2, hk3, hk4, hk5, hk6, hk7, hk8, hf0, hf2, hf3, hf4, hf5, hf6, hf12, hf13⟩ := id hS
  obtain ⟨hkd, hkd2, hin, hin2, hns, hns2, hnm, hnm2⟩ := id hT
  have hns2f := hns2 f hff
  have loop : ∀ r e, e + r = 300 → 1 ≤ e → (∀ k, k < e → ¬ s_mt T (T.2.2.2 f) d 0 (T.2.2.1 f) k) → V G mR_namesake 2 [(3, .int (nI e)), (0, .ref o), (1, .int (nI d)), (2, .int (nI f))] [] h 0 0 Q := by
    intro r
    induction r with
    | zero =>
      intro e hr he hf
      refine V.iload_n dR_namesake_2 rfl ?_
      refine V.sipush (v := (nI 300)) dR_namesake_3 (by decide) ?_
      refine V.icmp_ge (tgt := 122) dR_namesake_6 (by decide) (fun c_6 => ?_) (fun c_6 => ?_)
      · try simp (disch := omega) only [nI_ltI, nI_leI, nI_eq, zz_lt0, zz_ge0, zz_gt0, zz_le0, zz_eq0, zz_m1lt, zz_m1ge, zz_m1eq, bI_eq0, decide_eq_false_iff_not, decide_eq_true_eq, Decidable.not_not, not_true_eq_false, not_false_eq_true, Nat.not_lt, Nat.not_le, Bool.not_eq_false, Bool.not_eq_true] at c_6
        refine V.iconst (v := (-1)) dR_namesake_122 (by decide) ?_
        refine V.ireturn dR_namesake_123 rfl rfl ?_
        rw [s_ent_none (fun e2 he2 => hf e2 (by omega))] at hQ; exact hQ
      · try simp (disch := omega) only [nI_ltI, nI_leI, nI_eq, zz_lt0, zz_ge0, zz_gt0, zz_le0, zz_eq0, zz_m1lt, zz_m1ge, zz_m1eq, bI_eq0, decide_eq_false_iff_not, decide_eq_true_eq, Decidable.not_not, not_true_eq_false, not_false_eq_true, Nat.not_lt, Nat.not_le, Bool.not_eq_false, Bool.not_eq_true] at c_6
        all_goals omega
    | succ r ih =>
      intro e hr he hf
      have hkd2e := hkd2 e (by omega)
      have hin2e := hin2 e (by omega)
      have hns2e := hns2 e (by omega)
      have inner : ∀ r k (isv : Bool), k + r = T.2.2.1 f → (isv = true ↔ ((T.1 e ≠ 0 ∧ T.2.1 e = d ∧ T.2.2.1 e = T.2.2.1 f - 0) ∧ ∀ j, j < k - 0 → T.2.2.2 e j = T.2.2.2 f (0 + j))) → V G mR_namesake 53 [(5, .int (nI k)), (4, .int (bI isv)), (3, .int (nI e)), (0, .ref o), (1, .int (nI d)), (2, .int (nI f))] [] h 0 0 Q := by
        intro r
        induction r with
        | zero =>
          intro k isv hr hD
          refine V.iload dR_namesake_53 rfl ?_
          first | refine V.aload_n dR_namesake_55 rfl ?_ | refine V.aload_nN dR_namesake_55 rfl ?_
          refine V.getk dR_namesake_56 (by omega) (by assumption) f_R_22_4 (by assumption) ?_
          refine V.iload_n dR_namesake_59 rfl ?_
          refine V.ialoadN dR_namesake_60 (by omega) (by assumption) (by omega) (hns f hff) ?_
          refine V.icmp_ge (tgt := 109) dR_namesake_61 (by decide) (fun c_61 => ?_) (fun c_61 => ?_)
          · try simp (disch := omega) only [nI_ltI, nI_leI, nI_eq, zz_lt0, zz_ge0, zz_gt0, zz_le0, zz_eq0, zz_m1lt, zz_m1ge, zz_m1eq, bI_eq0, decide_eq_false_iff_not, decide_eq_true_eq, Decidable.not_not, not_true_eq_false, not_false_eq_true, Nat.not_lt, Nat.not_le, Bool.not_eq_false, Bool.not_eq_true] at c_61
            refine V.iload dR_namesake_109 rfl ?_
            refine V.if_eq (tgt := 116) dR_namesake_111 (by decide) (fun c_111 => ?_) (fun c_111 => ?_)
            · try simp (disch := omega) only [nI_ltI, nI_leI, nI_eq, zz_lt0, zz_ge0, zz_gt0, zz_le0, zz_eq0, zz_m1lt, zz_m1ge, zz_m1eq, bI_eq0, decide_eq_false_iff_not, decide_eq_true_eq, Decidable.not_not, not_true_eq_false, not_false_eq_true, Nat.not_lt, Nat.not_le, Bool.not_eq_false, Bool.not_eq_true] at c_111
              have hno : ¬ s_mt T (T.2.2.2 f) d 0 (T.2.2.1 f) e := fun z => by
                have z2 := hD.mpr ⟨z.1.2, fun j hj => z.2 j (by omega)⟩
                first | (rw [z2] at c_66; cases c_66) | (rw [z2] at c_111; cases c_111)
              refine V.iincN dR_namesake_116 rfl (by decide) ?_
              refine V.goto (tgt := 2) dR_namesake_119 (by decide) ?_
              exact V.re [3, 0, 1, 2] rfl (ih (e + 1) (by omega) (by omega) (fun k2 hk2 => (Nat.lt_or_ge k2 e).elim (hf k2) (fun z => by (rw [show k2 = e by omega]; exact hno))))
            · try simp (disch := omega) only [nI_ltI, nI_leI, nI_eq, zz_lt0, zz_ge0, zz_gt0, zz_le0, zz_eq0, zz_m1lt, zz_m1ge, zz_m1eq, bI_eq0, decide_eq_false_iff_not, decide_eq_true_eq, Decidable.not_not, not_true_eq_false, not_false_eq_true, Nat.not_lt, Nat.not_le, Bool.not_eq_false, Bool.not_eq_true] at c_111
              refine V.iload_n dR_namesake_114 rfl ?_
              refine V.ireturn dR_namesake_115 rfl rfl ?_
              rw [s_ent_first (e := e) (by omega) ⟨⟨by omega, (hD.mp c_111).1⟩, fun j hj => (hD.mp c_111).2 j (by omega)⟩ hf] at hQ; exact hQ
          · try simp (disch := omega) only [nI_ltI, nI_leI, nI_eq, zz_lt0, zz_ge0, zz_gt0, zz_le0, zz_eq0, zz_m1lt, zz_m1ge, zz_m1eq, bI_eq0, decide_eq_false_iff_not, decide_eq_true_eq, Decidable.not_not, not_true_eq_false, not_false_eq_true, Nat.not_lt, Nat.not_le, Bool.not_eq_false, Bool.not_eq_true] at c_61
            all_goals omega
        | succ r ihk =>
          intro k isv hr hD
          refine V.iload dR_namesake_53 rfl ?_
          first | refine V.aload_n dR_namesake_55 rfl ?_ | refine V.aload_nN dR_namesake_55 rfl ?_
          refine V.getk dR_namesake_56 (by omega) (by assumption) f_R_22_4 (by assumption) ?_
          refine V.iload_n dR_namesake_59 rfl ?_
          refine V.ialoadN dR_namesake_60 (by omega) (by assumption) (by omega) (hns f hff) ?_
          refine V.icmp_ge (tgt := 109) dR_namesake_61 (by decide) (fun c_61 => ?_) (fun c_61 => ?_)
          · try simp (disch := omega) only [nI_ltI, nI_leI, nI_eq, zz_lt0, zz_ge0, zz_gt0, zz_le0, zz_eq0, zz_m1lt, zz_m1ge, zz_m1eq, bI_eq0, decide_eq_false_iff_not, decide_eq_true_eq, Decidable.not_not, not_true_eq_false, not_false_eq_true, Nat.not_lt, Nat.not_le, Bool.not_eq_false, Bool.not_eq_true] at c_61
            all_goals omega
          · try simp (disch := omega) only [nI_ltI, nI_leI, nI_eq, zz_lt0, zz_ge0, zz_gt0, zz_le0, zz_eq0, zz_m1lt, zz_m1ge, zz_m1eq, bI_eq0, decide_eq_false_iff_not, decide_eq_true_eq, Decidable.not_not, not_true_eq_false, not_false_eq_true, Nat.not_lt, Nat.not_le, Bool.not_eq_false, Bool.not_eq_true] at c_61
            refine V.iload dR_namesake_64 rfl ?_
            refine V.if_eq (tgt := 109) dR_namesake_66 (by decide) (fun c_66 => ?_) (fun c_66 => ?_)
            · try simp (disch := omega) only [nI_ltI, nI_leI, nI_eq, zz_lt0, zz_ge0, zz_gt0, zz_le0, zz_eq0, zz_m1lt, zz_m1ge, zz_m1eq, bI_eq0, decide_eq_false_iff_not, decide_eq_true_eq, Decidable.not_not, not_true_eq_false, not_false_eq_true, Nat.not_lt, Nat.not_le, Bool.not_eq_false, Bool.not_eq_true] at c_66
              refine V.iload dR_namesake_109 rfl ?_
              refine V.if_eq (tgt := 116) dR_namesake_111 (by decide) (fun c_111 => ?_) (fun c_111 => ?_)
              · try simp (disch := omega) only [nI_ltI, nI_leI, nI_eq, zz_lt0, zz_ge0, zz_gt0, zz_le0, zz_eq0, zz_m1lt, zz_m1ge, zz_m1eq, bI_eq0, decide_eq_false_iff_not, decide_eq_true_eq, Decidable.not_not, not_true_eq_false, not_false_eq_true, Nat.not_lt, Nat.not_le, Bool.not_eq_false, Bool.not_eq_true] at c_111
                have hno : ¬ s_mt T (T.2.2.2 f) d 0 (T.2.2.1 f) e := fun z => by
                  have z2 := hD.mpr ⟨z.1.2, fun j hj => z.2 j (by omega)⟩
                  first | (rw [z2] at c_66; cases c_66) | (rw [z2] at c_111; cases c_111)
                refine V.iincN dR_namesake_116 rfl (by decide) ?_
                refine V.goto (tgt := 2) dR_namesake_119 (by decide) ?_
                exact V.re [3, 0, 1, 2] rfl (ih (e + 1) (by omega) (by omega) (fun k2 hk2 => (Nat.lt_or_ge k2 e).elim (hf k2) (fun z => by (rw [show k2 = e by omega]; exact hno))))
              · try simp (disch := omega) only [nI_ltI, nI_leI, nI_eq, zz_lt0, zz_ge0, zz_gt0, zz_le0, zz_eq0, zz_m1lt, zz_m1ge, zz_m1eq, bI_eq0, decide_eq_false_iff_not, decide_eq_true_eq, Decidable.not_not, not_true_eq_false, not_false_eq_true, Nat.not_lt, Nat.not_le, Bool.not_eq_false, Bool.not_eq_true] at c_111
                rw [c_66] at c_111; cases c_111
            · try simp (disch := omega) only [nI_ltI, nI_leI, nI_eq, zz_lt0, zz_ge0, zz_gt0, zz_le0, zz_eq0, zz_m1lt, zz_m1ge, zz_m1eq, bI_eq0, decide_eq_false_iff_not, decide_eq_true_eq, Decidable.not_not, not_true_eq_false, not_false_eq_true, Nat.not_lt, Nat.not_le, Bool.not_eq_false, Bool.not_eq_true] at c_66
              have hb1 := (hD.mp c_66).1
              have hq1 := hnm2 e k (by omega) (by omega)
              have hq2 := hnm2 f k hff (by omega)
              first | refine V.aload_n dR_namesake_69 rfl ?_ | refine V.aload_nN dR_namesake_69 rfl ?_
              refine V.getk dR_namesake_70 (by omega) (by assumption) f_R_25_4 (by assumption) ?_
              refine V.bipush (v := (nI 60)) dR_namesake_73 (by decide) ?_
              refine V.iload_n dR_namesake_75 rfl ?_
              refine V.imulN dR_namesake_76 ?_
              refine V.iload dR_namesake_77 rfl ?_
              refine V.iaddN dR_namesake_79 ?_
              refine V.ialoadN dR_namesake_80 (by omega) (by assumption) (by omega) (hnm e k (by omega) (by omega)) ?_
              first | refine V.aload_n dR_namesake_81 rfl ?_ | refine V.aload_nN dR_namesake_81 rfl ?_
              refine V.getk dR_namesake_82 (by omega) (by assumption) f_R_25_4 (by assumption) ?_
              refine V.bipush (v := (nI 60)) dR_namesake_85 (by decide) ?_
              refine V.iload_n dR_namesake_87 rfl ?_
              refine V.imulN dR_namesake_88 ?_
              refine V.iload dR_namesake_89 rfl ?_
              refine V.iaddN dR_namesake_91 ?_
              refine V.ialoadN dR_namesake_92 (by omega) (by assumption) (by omega) (hnm f k hff (by omega)) ?_
              refine V.icmp_ne (tgt := 100) dR_namesake_93 (by decide) (fun c_93 => ?_) (fun c_93 => ?_)
              · try simp (disch := omega) only [nI_ltI, nI_leI, nI_eq, zz_lt0, zz_ge0, zz_gt0, zz_le0, zz_eq0, zz_m1lt, zz_m1ge, zz_m1eq, bI_eq0, decide_eq_false_iff_not, decide_eq_true_eq, Decidable.not_not, not_true_eq_false, not_false_eq_true, Nat.not_lt, Nat.not_le, Bool.not_eq_false, Bool.not_eq_true] at c_93
                refine V.iconst (v := (nI 0)) dR_namesake_100 (by decide) ?_
                refine V.istore dR_namesake_101 (by decide) ?_
                refine V.iincN dR_namesake_103 rfl (by decide) ?_
                refine V.goto (tgt := 53) dR_namesake_106 (by decide) ?_
                first | exact ihk (k + 1) true (by omega) (ent_t (Nat.zero_le _) hD c_66 c_93) | exact ihk (k + 1) false (by omega) (ent_f (Nat.zero_le _) hD (Or.inr c_93))
              · try simp (disch := omega) only [nI_ltI, nI_leI, nI_eq, zz_lt0, zz_ge0, zz_gt0, zz_le0, zz_eq0, zz_m1lt, zz_m1ge, zz_m1eq, bI_eq0, decide_eq_false_iff_not, decide_eq_true_eq, Decidable.not_not, not_true_eq_false, not_false_eq_true, Nat.not_lt, Nat.not_le, Bool.not_eq_false, Bool.not_eq_true] at c_93
                refine V.iconst (v := (nI 1)) dR_namesake_96 (by decide) ?_
                refine V.goto (tgt := 101) dR_namesake_97 (by decide) ?_
                refine V.istore dR_namesake_101 (by decide) ?_
                refine V.iincN dR_namesake_103 rfl (by decide) ?_
                refine V.goto (tgt := 53) dR_namesake_106 (by decide) ?_
                first | exact ihk (k + 1) true (by omega) (ent_t (Nat.zero_le _) hD c_66 c_93) | exact ihk (k + 1) false (by omega) (ent_f (Nat.zero_le _) hD (Or.inr c_93))
      refine V.iload_n dR_namesake_2 rfl ?_
      refine V.sipush (v := (nI 300)) dR_namesake_3 (by decide) ?_
      refine V.icmp_ge (tgt := 122) dR_namesake_6 (by decide) (fun c_6 => ?_) (fun c_6 => ?_)
      · try simp (disch := omega) only [nI_ltI, nI_leI, nI_eq, zz_lt0, zz_ge0, zz_gt0, zz_le0, zz_eq0, zz_m1lt, zz_m1ge, zz_m1eq, bI_eq0, decide_eq_false_iff_not, decide_eq_true_eq, Decidable.not_not, not_true_eq_false, not_false_eq_true, Nat.not_lt, Nat.not_le, Bool.not_eq_false, Bool.not_eq_true] at c_6
        all_goals omega
      · try simp (disch := omega) only [nI_ltI, nI_leI, nI_eq, zz_lt0, zz_ge0, zz_gt0, zz_le0, zz_eq0, zz_m1lt, zz_m1ge, zz_m1eq, bI_eq0, decide_eq_false_iff_not, decide_eq_true_eq, Decidable.not_not, not_true_eq_false, not_false_eq_true, Nat.not_lt, Nat.not_le, Bool.not_eq_false, Bool.not_eq_true] at c_6
        first | refine V.aload_n dR_namesake_9 rfl ?_ | refine V.aload_nN dR_namesake_9 rfl ?_
        refine V.getk dR_namesake_10 (by omega) (by assumption) f_R_13_4 (by assumption) ?_
        refine V.iload_n dR_namesake_13 rfl ?_
        refine V.ialoadN dR_namesake_14 (by omega) (by assumption) (by omega) (hkd e (by omega)) ?_
        refine V.if_eq (tgt := 47) dR_namesake_15 (by decide) (fun c_15 => ?_) (fun c_15 => ?_)
        · try simp (disch := omega) only [nI_ltI, nI_leI, nI_eq, zz_lt0, zz_ge0, zz_gt0, zz_le0, zz_eq0, zz_m1lt, zz_m1ge, zz_m1eq, bI_eq0, decide_eq_false_iff_not, decide_eq_true_eq, Decidable.not_not, not_true_eq_false, not_false_eq_true, Nat.not_lt, Nat.not_le, Bool.not_eq_false, Bool.not_eq_true] at c_15
          refine V.iconst (v := (nI 0)) dR_namesake_47 (by decide) ?_
          refine V.istore dR_namesake_48 (by decide) ?_
          refine V.iconst (v := (nI 0)) dR_namesake_50 (by decide) ?_
          refine V.istore dR_namesake_51 (by decide) ?_
          first | exact inner (T.2.2.1 f) 0 true (by omega) ⟨fun _ => ⟨by omega, fun j hj => by omega⟩, fun _ => rfl⟩ | exact inner (T.2.2.1 f) 0 false (by omega) ⟨fun z => by (cases z), fun z => by omega⟩
        · try simp (disch := omega) only [nI_ltI, nI_leI, nI_eq, zz_lt0, zz_ge0, zz_gt0, zz_le0, zz_eq0, zz_m1lt, zz_m1ge, zz_m1eq, bI_eq0, decide_eq_false_iff_not, decide_eq_true_eq, Decidable.not_not, not_true_eq_false, not_false_eq_true, Nat.not_lt, Nat.not_le, Bool.not_eq_false, Bool.not_eq_true] at c_15
          first | refine V.aload_n dR_namesake_18 rfl ?_ | refine V.aload_nN dR_namesake_18 rfl ?_
          refine V.getk dR_namesake_19 (by omega) (by assumption) f_R_16_4 (by assumption) ?_
          refine V.iload_n dR_namesake_22 rfl ?_
          refine V.ialoadN dR_namesake_23 (by omega) (by assumption) (by omega) (hin e (by omega)) ?_
          refine V.iload_n dR_namesake_24 rfl ?_
          refine V.icmp_ne (tgt := 47) dR_namesake_25 (by decide) (fun c_25 => ?_) (fun c_25 => ?_)
          · try simp (disch := omega) only [nI_ltI, nI_leI, nI_eq, zz_lt0, zz_ge0, zz_gt0, zz_le0, zz_eq0, zz_m1lt, zz_m1ge, zz_m1eq, bI_eq0, decide_eq_false_iff_not, decide_eq_true_eq, Decidable.not_not, not_true_eq_false, not_false_eq_true, Nat.not_lt, Nat.not_le, Bool.not_eq_false, Bool.not_eq_true] at c_25
            refine V.iconst (v := (nI 0)) dR_namesake_47 (by decide) ?_
            refine V.istore dR_namesake_48 (by decide) ?_
            refine V.iconst (v := (nI 0)) dR_namesake_50 (by decide) ?_
            refine V.istore dR_namesake_51 (by decide) ?_
            first | exact inner (T.2.2.1 f) 0 true (by omega) ⟨fun _ => ⟨by omega, fun j hj => by omega⟩, fun _ => rfl⟩ | exact inner (T.2.2.1 f) 0 false (by omega) ⟨fun z => by (cases z), fun z => by omega⟩
          · try simp (disch := omega) only [nI_ltI, nI_leI, nI_eq, zz_lt0, zz_ge0, zz_gt0, zz_le0, zz_eq0, zz_m1lt, zz_m1ge, zz_m1eq, bI_eq0, decide_eq_false_iff_not, decide_eq_true_eq, Decidable.not_not, not_true_eq_false, not_false_eq_true, Nat.not_lt, Nat.not_le, Bool.not_eq_false, Bool.not_eq_true] at c_25
            first | refine V.aload_n dR_namesake_28 rfl ?_ | refine V.aload_nN dR_namesake_28 rfl ?_
            refine V.getk dR_namesake_29 (by omega) (by assumption) f_R_22_4 (by assumption) ?_
            refine V.iload_n dR_namesake_32 rfl ?_
            refine V.ialoadN dR_namesake_33 (by omega) (by assumption) (by omega) (hns e (by omega)) ?_
            first | refine V.aload_n dR_namesake_34 rfl ?_ | refine V.aload_nN dR_namesake_34 rfl ?_
            refine V.getk dR_namesake_35 (by omega) (by assumption) f_R_22_4 (by assumption) ?_
            refine V.iload_n dR_namesake_38 rfl ?_
            refine V.ialoadN dR_namesake_39 (by omega) (by assumption) (by omega) (hns f hff) ?_
            refine V.icmp_ne (tgt := 47) dR_namesake_40 (by decide) (fun c_40 => ?_) (fun c_40 => ?_)
            · try simp (disch := omega) only [nI_ltI, nI_leI, nI_eq, zz_lt0, zz_ge0, zz_gt0, zz_le0, zz_eq0, zz_m1lt, zz_m1ge, zz_m1eq, bI_eq0, decide_eq_false_iff_not, decide_eq_true_eq, Decidable.not_not, not_true_eq_false, not_false_eq_true, Nat.not_lt, Nat.not_le, Bool.not_eq_false, Bool.not_eq_true] at c_40
              refine V.iconst (v := (nI 0)) dR_namesake_47 (by decide) ?_
              refine V.istore dR_namesake_48 (by decide) ?_
              refine V.iconst (v := (nI 0)) dR_namesake_50 (by decide) ?_
              refine V.istore dR_namesake_51 (by decide) ?_
              first | exact inner (T.2.2.1 f) 0 true (by omega) ⟨fun _ => ⟨by omega, fun j hj => by omega⟩, fun _ => rfl⟩ | exact inner (T.2.2.1 f) 0 false (by omega) ⟨fun z => by (cases z), fun z => by omega⟩
            · try simp (disch := omega) only [nI_ltI, nI_leI, nI_eq, zz_lt0, zz_ge0, zz_gt0, zz_le0, zz_eq0, zz_m1lt, zz_m1ge, zz_m1eq, bI_eq0, decide_eq_false_iff_not, decide_eq_true_eq, Decidable.not_not, not_true_eq_false, not_false_eq_true, Nat.not_lt, Nat.not_le, Bool.not_eq_false, Bool.not_eq_true] at c_40
              refine V.iconst (v := (nI 1)) dR_namesake_43 (by decide) ?_
              refine V.goto (tgt := 48) dR_namesake_44 (by decide) ?_
              refine V.istore dR_namesake_48 (by decide) ?_
              refine V.iconst (v := (nI 0)) dR_namesake_50 (by decide) ?_
              refine V.istore dR_namesake_51 (by decide) ?_
              first | exact inner (T.2.2.1 f) 0 true (by omega) ⟨fun _ => ⟨by omega, fun j hj => by omega⟩, fun _ => rfl⟩ | exact inner (T.2.2.1 f) 0 false (by omega) ⟨fun z => by (cases z), fun z => by omega⟩
  refine V.iconst (v := (nI 1)) dR_namesake_0 (by decide) ?_
  refine V.istore_n dR_namesake_1 (by decide) ?_
  exact loop 299 1 (by omega) (by omega) (fun k hk z => by have := z.1.1; omega)
set_option maxHeartbeats 4000000 in
set_option maxRecDepth 100000 in
/-- PathTreeModel.inOrder -/
theorem kR_inOrder {G : GG} {h : HH} {o : Nat} {Q : Option Value → HH → Prop} {T : TT} {hand : Nat} {k : Int32} (hS : RS G h o) (hT : RT h o T) (hH : h.2.1 o 8 = .int (nI hand) ∧ hand < 300) (hQ : Q (some (.int (oI (s_nth T hand k)))) h) : V G mR_inOrder 0 (lv_args 0 [.ref o, .int k]) [] h 0 0 Q := by
  obtain ⟨hz, hk0, hk1, hk2, hk3, hk4, hk5, hk6, hk7, hk8, hf0, hf2, hf3, hf4, hf5, hf6, hf12, hf13⟩ := id hS
  obtain ⟨hkd, hkd2, hin, hin2, hns, hns2, hnm, hnm2⟩ := id hT
  have hhand : h.2.1 o 8 = .int (nI hand) := hH.1
  have hhl : hand < 300 := hH.2
  have loop : ∀ r e, e + r = 300 → 1 ≤ e → (∀ x, x < e → ¬ ((1 ≤ x ∧ T.1 x ≠ 0 ∧ T.2.1 x = hand) ∧ nI (s_rank T hand x) = k)) → V G mR_inOrder 2 [(2, .int (nI e)), (0, .ref o), (1, .int k)] [] h 0 0 Q := by
    intro r
    induction r with
    | zero =>
      intro e hr he hf
      refine V.iload_n dR_inOrder_2 rfl ?_
      refine V.sipush (v := (nI 300)) dR_inOrder_3 (by decide) ?_
      refine V.icmp_ge (tgt := 108) dR_inOrder_6 (by decide) (fun c_6 => ?_) (fun c_6 => ?_)
      · try simp (disch := omega) only [nI_ltI, nI_leI, nI_eq, zz_lt0, zz_ge0, zz_gt0, zz_le0, zz_eq0, zz_m1lt, zz_m1ge, zz_m1eq, bI_eq0, decide_eq_false_iff_not, decide_eq_true_eq, Decidable.not_not, not_true_eq_false, not_false_eq_true, Nat.not_lt, Nat.not_le, Bool.not_eq_false, Bool.not_eq_true] at c_6
        refine V.iconst (v := (-1)) dR_inOrder_108 (by decide) ?_
        refine V.ireturn dR_inOrder_109 rfl rfl ?_
        rw [s_nth_none (fun e2 he2 => hf e2 (by omega))] at hQ; exact hQ
      · try simp (disch := omega) only [nI_ltI, nI_leI, nI_eq, zz_lt0, zz_ge0, zz_gt0, zz_le0, zz_eq0, zz_m1lt, zz_m1ge, zz_m1eq, bI_eq0, decide_eq_false_iff_not, decide_eq_true_eq, Decidable.not_not, not_true_eq_false, not_false_eq_true, Nat.not_lt, Nat.not_le, Bool.not_eq_false, Bool.not_eq_true] at c_6
        all_goals omega
    | succ r ih =>
      intro e hr he hf
      have hkd2e := hkd2 e (by omega)
      have hin2e := hin2 e (by omega)
      refine V.iload_n dR_inOrder_2 rfl ?_
      refine V.sipush (v := (nI 300)) dR_inOrder_3 (by decide) ?_
      refine V.icmp_ge (tgt := 108) dR_inOrder_6 (by decide) (fun c_6 => ?_) (fun c_6 => ?_)
      · try simp (disch := omega) only [nI_ltI, nI_leI, nI_eq, zz_lt0, zz_ge0, zz_gt0, zz_le0, zz_eq0, zz_m1lt, zz_m1ge, zz_m1eq, bI_eq0, decide_eq_false_iff_not, decide_eq_true_eq, Decidable.not_not, not_true_eq_false, not_false_eq_true, Nat.not_lt, Nat.not_le, Bool.not_eq_false, Bool.not_eq_true] at c_6
        all_goals omega
      · try simp (disch := omega) only [nI_ltI, nI_leI, nI_eq, zz_lt0, zz_ge0, zz_gt0, zz_le0, zz_eq0, zz_m1lt, zz_m1ge, zz_m1eq, bI_eq0, decide_eq_false_iff_not, decide_eq_true_eq, Decidable.not_not, not_true_eq_false, not_false_eq_true, Nat.not_lt, Nat.not_le, Bool.not_eq_false, Bool.not_eq_true] at c_6
        first | refine V.aload_n dR_inOrder_9 rfl ?_ | refine V.aload_nN dR_inOrder_9 rfl ?_
        refine V.getk dR_inOrder_10 (by omega) (by assumption) f_R_13_4 (by assumption) ?_
        refine V.iload_n dR_inOrder_13 rfl ?_
        refine V.ialoadN dR_inOrder_14 (by omega) (by assumption) (by omega) (hkd e (by omega)) ?_
        refine V.if_eq (tgt := 102) dR_inOrder_15 (by decide) (fun c_15 => ?_) (fun c_15 => ?_)
        · try simp (disch := omega) only [nI_ltI, nI_leI, nI_eq, zz_lt0, zz_ge0, zz_gt0, zz_le0, zz_eq0, zz_m1lt, zz_m1ge, zz_m1eq, bI_eq0, decide_eq_false_iff_not, decide_eq_true_eq, Decidable.not_not, not_true_eq_false, not_false_eq_true, Nat.not_lt, Nat.not_le, Bool.not_eq_false, Bool.not_eq_true] at c_15
          have hno : ¬ ((1 ≤ e ∧ T.1 e ≠ 0 ∧ T.2.1 e = hand) ∧ nI (s_rank T hand e) = k) := fun z => by have := z.1; omega
          refine V.iincN dR_inOrder_102 rfl (by decide) ?_
          refine V.goto (tgt := 2) dR_inOrder_105 (by decide) ?_
          exact V.re [2, 0, 1] rfl (ih (e + 1) (by omega) (by omega) (fun k2 hk2 => (Nat.lt_or_ge k2 e).elim (hf k2) (fun z => by (rw [show k2 = e by omega]; exact hno))))
        · try simp (disch := omega) only [nI_ltI, nI_leI, nI_eq, zz_lt0, zz_ge0, zz_gt0, zz_le0, zz_eq0, zz_m1lt, zz_m1ge, zz_m1eq, bI_eq0, decide_eq_false_iff_not, decide_eq_true_eq, Decidable.not_not, not_true_eq_false, not_false_eq_true, Nat.not_lt, Nat.not_le, Bool.not_eq_false, Bool.not_eq_true] at c_15
          first | refine V.aload_n dR_inOrder_18 rfl ?_ | refine V.aload_nN dR_inOrder_18 rfl ?_
          refine V.getk dR_inOrder_19 (by omega) (by assumption) f_R_16_4 (by assumption) ?_
          refine V.iload_n dR_inOrder_22 rfl ?_
          refine V.ialoadN dR_inOrder_23 (by omega) (by assumption) (by omega) (hin e (by omega)) ?_
          first | refine V.aload_n dR_inOrder_24 rfl ?_ | refine V.aload_nN dR_inOrder_24 rfl ?_
          refine V.getk dR_inOrder_25 (by omega) (by assumption) f_R_55_4 (by assumption) ?_
          refine V.icmp_eq (tgt := 34) dR_inOrder_28 (by decide) (fun c_28 => ?_) (fun c_28 => ?_)
          · try simp (disch := omega) only [nI_ltI, nI_leI, nI_eq, zz_lt0, zz_ge0, zz_gt0, zz_le0, zz_eq0, zz_m1lt, zz_m1ge, zz_m1eq, bI_eq0, decide_eq_false_iff_not, decide_eq_true_eq, Decidable.not_not, not_true_eq_false, not_false_eq_true, Nat.not_lt, Nat.not_le, Bool.not_eq_false, Bool.not_eq_true] at c_28
            have hlive : 1 ≤ e ∧ T.1 e ≠ 0 ∧ T.2.1 e = hand := by omega
            have inner : ∀ r f, f + r = 300 → 1 ≤ f → V G mR_inOrder 39 [(4, .int (nI f)), (3, .int (nI (s_cnt (fun f => decide (1 ≤ f ∧ T.1 f ≠ 0 ∧ T.2.1 f = hand) && s_ltb (T.2.2.2 f) (T.2.2.1 f) (T.2.2.2 e) (T.2.2.1 e)) f))), (2, .int (nI e)), (0, .ref o), (1, .int k)] [] h 0 0 Q := by
              intro r
              induction r with
              | zero =>
                intro f hr hf1
                refine V.iload dR_inOrder_39 rfl ?_
                refine V.sipush (v := (nI 300)) dR_inOrder_41 (by decide) ?_
                refine V.icmp_ge (tgt := 95) dR_inOrder_44 (by decide) (fun c_44 => ?_) (fun c_44 => ?_)
                · try simp (disch := omega) only [nI_ltI, nI_leI, nI_eq, zz_lt0, zz_ge0, zz_gt0, zz_le0, zz_eq0, zz_m1lt, zz_m1ge, zz_m1eq, bI_eq0, decide_eq_false_iff_not, decide_eq_true_eq, Decidable.not_not, not_true_eq_false, not_false_eq_true, Nat.not_lt, Nat.not_le, Bool.not_eq_false, Bool.not_eq_true] at c_44
                  refine V.iload_n dR_inOrder_95 rfl ?_
                  refine V.iload_n dR_inOrder_96 rfl ?_
                  refine V.icmp_ne (tgt := 102) dR_inOrder_97 (by decide) (fun c_97 => ?_) (fun c_97 => ?_)
                  · have hrk : s_rank T hand e = s_cnt (fun f => decide (1 ≤ f ∧ T.1 f ≠ 0 ∧ T.2.1 f = hand) && s_ltb (T.2.2.2 f) (T.2.2.1 f) (T.2.2.2 e) (T.2.2.1 e)) f := by (unfold s_rank; rw [show 300 = f by omega])
                    have hno : ¬ ((1 ≤ e ∧ T.1 e ≠ 0 ∧ T.2.1 e = hand) ∧ nI (s_rank T hand e) = k) := fun z => c_97 (by (rw [← hrk]; exact z.2))
                    refine V.iincN dR_inOrder_102 rfl (by decide) ?_
                    refine V.goto (tgt := 2) dR_inOrder_105 (by decide) ?_
                    exact V.re [2, 0, 1] rfl (ih (e + 1) (by omega) (by omega) (fun k2 hk2 => (Nat.lt_or_ge k2 e).elim (hf k2) (fun z => by (rw [show k2 = e by omega]; exact hno))))
                  · have hrk : s_rank T hand e = s_cnt (fun f => decide (1 ≤ f ∧ T.1 f ≠ 0 ∧ T.2.1 f = hand) && s_ltb (T.2.2.2 f) (T.2.2.1 f) (T.2.2.2 e) (T.2.2.1 e)) f := by (unfold s_rank; rw [show 300 = f by omega])
                    refine V.iload_n dR_inOrder_100 rfl ?_
                    refine V.ireturn dR_inOrder_101 rfl rfl ?_
                    rw [s_nth_first (e := e) (by omega) ⟨hlive, by (rw [hrk]; exact c_97)⟩ hf] at hQ; exact hQ
                · try simp (disch := omega) only [nI_ltI, nI_leI, nI_eq, zz_lt0, zz_ge0, zz_gt0, zz_le0, zz_eq0, zz_m1lt, zz_m1ge, zz_m1eq, bI_eq0, decide_eq_false_iff_not, decide_eq_true_eq, Decidable.not_not, not_true_eq_false, not_false_eq_true, Nat.not_lt, Nat.not_le, Bool.not_eq_false, Bool.not_eq_true] at c_44
                  all_goals omega
              | succ r ihf =>
                intro f hr hf1
                refine V.iload dR_inOrder_39 rfl ?_
                refine V.sipush (v := (nI 300)) dR_inOrder_41 (by decide) ?_
                refine V.icmp_ge (tgt := 95) dR_inOrder_44 (by decide) (fun c_44 => ?_) (fun c_44 => ?_)
                · try simp (disch := omega) only [nI_ltI, nI_leI, nI_eq, zz_lt0, zz_ge0, zz_gt0, zz_le0, zz_eq0, zz_m1lt, zz_m1ge, zz_m1eq, bI_eq0, decide_eq_false_iff_not, decide_eq_true_eq, Decidable.not_not, not_true_eq_false, not_false_eq_true, Nat.not_lt, Nat.not_le, Bool.not_eq_false, Bool.not_eq_true] at c_44
                  all_goals omega
                · try simp (disch := omega) only [nI_ltI, nI_leI, nI_eq, zz_lt0, zz_ge0, zz_gt0, zz_le0, zz_eq0, zz_m1lt, zz_m1ge, zz_m1eq, bI_eq0, decide_eq_false_iff_not, decide_eq_true_eq, Decidable.not_not, not_true_eq_false, not_false_eq_true, Nat.not_lt, Nat.not_le, Bool.not_eq_false, Bool.not_eq_true] at c_44
                  have hkf := hkd2 f (by omega)
                  have hif := hin2 f (by omega)
                  refine V.iload_n dR_inOrder_47 rfl ?_
                  first | refine V.aload_n dR_inOrder_48 rfl ?_ | refine V.aload_nN dR_inOrder_48 rfl ?_
                  refine V.getk dR_inOrder_49 (by omega) (by assumption) f_R_13_4 (by assumption) ?_
                  refine V.iload dR_inOrder_52 rfl ?_
                  refine V.ialoadN dR_inOrder_54 (by omega) (by assumption) (by omega) (hkd f (by omega)) ?_
                  refine V.if_eq (tgt := 86) dR_inOrder_55 (by decide) (fun c_55 => ?_) (fun c_55 => ?_)
                  · try simp (disch := omega) only [nI_ltI, nI_leI, nI_eq, zz_lt0, zz_ge0, zz_gt0, zz_le0, zz_eq0, zz_m1lt, zz_m1ge, zz_m1eq, bI_eq0, decide_eq_false_iff_not, decide_eq_true_eq, Decidable.not_not, not_true_eq_false, not_false_eq_true, Nat.not_lt, Nat.not_le, Bool.not_eq_false, Bool.not_eq_true] at c_55
                    refine V.iconst (v := (nI 0)) dR_inOrder_86 (by decide) ?_
                    refine V.iaddN dR_inOrder_87 ?_
                    refine V.istore_n dR_inOrder_88 (by decide) ?_
                    refine V.iincN dR_inOrder_89 rfl (by decide) ?_
                    refine V.goto (tgt := 39) dR_inOrder_92 (by decide) ?_
                    first | exact V.re [4, 3, 2, 0, 1] rfl (by rw [← s_cnt_t (f := (fun f => decide (1 ≤ f ∧ T.1 f ≠ 0 ∧ T.2.1 f = hand) && s_ltb (T.2.2.2 f) (T.2.2.1 f) (T.2.2.2 e) (T.2.2.1 e))) (by (rw [Bool.and_eq_true]; exact ⟨decide_eq_true (by omega), c_79⟩))]; exact ihf (f + 1) (by omega) (by omega)) | exact V.re [4, 3, 2, 0, 1] rfl (by rw [← s_cnt_f (f := (fun f => decide (1 ≤ f ∧ T.1 f ≠ 0 ∧ T.2.1 f = hand) && s_ltb (T.2.2.2 f) (T.2.2.1 f) (T.2.2.2 e) (T.2.2.1 e))) (by (rw [c_79, Bool.and_false]))]; exact ihf (f + 1) (by omega) (by omega)) | exact V.re [4, 3, 2, 0, 1] rfl (by rw [← s_cnt_f (f := (fun f => decide (1 ≤ f ∧ T.1 f ≠ 0 ∧ T.2.1 f = hand) && s_ltb (T.2.2.2 f) (T.2.2.1 f) (T.2.2.2 e) (T.2.2.1 e))) (by (rw [decide_eq_false (by omega), Bool.false_and]))]; exact ihf (f + 1) (by omega) (by omega))
                  · try simp (disch := omega) only [nI_ltI, nI_leI, nI_eq, zz_lt0, zz_ge0, zz_gt0, zz_le0, zz_eq0, zz_m1lt, zz_m1ge, zz_m1eq, bI_eq0, decide_eq_false_iff_not, decide_eq_true_eq, Decidable.not_not, not_true_eq_false, not_false_eq_true, Nat.not_lt, Nat.not_le, Bool.not_eq_false, Bool.not_eq_true] at c_55
                    first | refine V.aload_n dR_inOrder_58 rfl ?_ | refine V.aload_nN dR_inOrder_58 rfl ?_
                    refine V.getk dR_inOrder_59 (by omega) (by assumption) f_R_16_4 (by assumption) ?_
                    refine V.iload dR_inOrder_62 rfl ?_
                    refine V.ialoadN dR_inOrder_64 (by omega) (by assumption) (by omega) (hin f (by omega)) ?_
                    first | refine V.aload_n dR_inOrder_65 rfl ?_ | refine V.aload_nN dR_inOrder_65 rfl ?_
                    refine V.getk dR_inOrder_66 (by omega) (by assumption) f_R_55_4 (by assumption) ?_
                    refine V.icmp_ne (tgt := 86) dR_inOrder_69 (by decide) (fun c_69 => ?_) (fun c_69 => ?_)
                    · try simp (disch := omega) only [nI_ltI, nI_leI, nI_eq, zz_lt0, zz_ge0, zz_gt0, zz_le0, zz_eq0, zz_m1lt, zz_m1ge, zz_m1eq, bI_eq0, decide_eq_false_iff_not, decide_eq_true_eq, Decidable.not_not, not_true_eq_false, not_false_eq_true, Nat.not_lt, Nat.not_le, Bool.not_eq_false, Bool.not_eq_true] at c_69
                      refine V.iconst (v := (nI 0)) dR_inOrder_86 (by decide) ?_
                      refine V.iaddN dR_inOrder_87 ?_
                      refine V.istore_n dR_inOrder_88 (by decide) ?_
                      refine V.iincN dR_inOrder_89 rfl (by decide) ?_
                      refine V.goto (tgt := 39) dR_inOrder_92 (by decide) ?_
                      first | exact V.re [4, 3, 2, 0, 1] rfl (by rw [← s_cnt_t (f := (fun f => decide (1 ≤ f ∧ T.1 f ≠ 0 ∧ T.2.1 f = hand) && s_ltb (T.2.2.2 f) (T.2.2.1 f) (T.2.2.2 e) (T.2.2.1 e))) (by (rw [Bool.and_eq_true]; exact ⟨decide_eq_true (by omega), c_79⟩))]; exact ihf (f + 1) (by omega) (by omega)) | exact V.re [4, 3, 2, 0, 1] rfl (by rw [← s_cnt_f (f := (fun f => decide (1 ≤ f ∧ T.1 f ≠ 0 ∧ T.2.1 f = hand) && s_ltb (T.2.2.2 f) (T.2.2.1 f) (T.2.2.2 e) (T.2.2.1 e))) (by (rw [c_79, Bool.and_false]))]; exact ihf (f + 1) (by omega) (by omega)) | exact V.re [4, 3, 2, 0, 1] rfl (by rw [← s_cnt_f (f := (fun f => decide (1 ≤ f ∧ T.1 f ≠ 0 ∧ T.2.1 f = hand) && s_ltb (T.2.2.2 f) (T.2.2.1 f) (T.2.2.2 e) (T.2.2.1 e))) (by (rw [decide_eq_false (by omega), Bool.false_and]))]; exact ihf (f + 1) (by omega) (by omega))
                    · try simp (disch := omega) only [nI_ltI, nI_leI, nI_eq, zz_lt0, zz_ge0, zz_gt0, zz_le0, zz_eq0, zz_m1lt, zz_m1ge, zz_m1eq, bI_eq0, decide_eq_false_iff_not, decide_eq_true_eq, Decidable.not_not, not_true_eq_false, not_false_eq_true, Nat.not_lt, Nat.not_le, Bool.not_eq_false, Bool.not_eq_true] at c_69
                      first | refine V.aload_n dR_inOrder_72 rfl ?_ | refine V.aload_nN dR_inOrder_72 rfl ?_
                      refine V.iload dR_inOrder_73 rfl ?_
                      refine V.iload_n dR_inOrder_75 rfl ?_
                      refine V.callVk (kd := 4) 0 _ 0 _ [_, _] dR_inOrder_76 okR_isBefore n_R_104 (by omega) (by assumption) rfl imR_isBefore seR_isBefore_R (by decide) (by decide) rfl rfl (Nat.le_of_ble_eq_true rfl) (Nat.le_of_ble_eq_true rfl) (Nat.le_of_eq (Nat.zero_add _)) (Nat.le_of_eq (Nat.zero_add _)) (kR_isBefore hS hT (by omega) (by omega) ?_)
                      refine V.if_eq (tgt := 86) dR_inOrder_79 (by decide) (fun c_79 => ?_) (fun c_79 => ?_)
                      · try simp (disch := omega) only [nI_ltI, nI_leI, nI_eq, zz_lt0, zz_ge0, zz_gt0, zz_le0, zz_eq0, zz_m1lt, zz_m1ge, zz_m1eq, bI_eq0, decide_eq_false_iff_not, decide_eq_true_eq, Decidable.not_not, not_true_eq_false, not_false_eq_true, Nat.not_lt, Nat.not_le, Bool.not_eq_false, Bool.not_eq_true] at c_79
                        refine V.iconst (v := (nI 0)) dR_inOrder_86 (by decide) ?_
                        refine V.iaddN dR_inOrder_87 ?_
                        refine V.istore_n dR_inOrder_88 (by decide) ?_
                        refine V.iincN dR_inOrder_89 rfl (by decide) ?_
                        refine V.goto (tgt := 39) dR_inOrder_92 (by decide) ?_
                        first | exact V.re [4, 3, 2, 0, 1] rfl (by rw [← s_cnt_t (f := (fun f => decide (1 ≤ f ∧ T.1 f ≠ 0 ∧ T.2.1 f = hand) && s_ltb (T.2.2.2 f) (T.2.2.1 f) (T.2.2.2 e) (T.2.2.1 e))) (by (rw [Bool.and_eq_true]; exact ⟨decide_eq_true (by omega), c_79⟩))]; exact ihf (f + 1) (by omega) (by omega)) | exact V.re [4, 3, 2, 0, 1] rfl (by rw [← s_cnt_f (f := (fun f => decide (1 ≤ f ∧ T.1 f ≠ 0 ∧ T.2.1 f = hand) && s_ltb (T.2.2.2 f) (T.2.2.1 f) (T.2.2.2 e) (T.2.2.1 e))) (by (rw [c_79, Bool.and_false]))]; exact ihf (f + 1) (by omega) (by omega)) | exact V.re [4, 3, 2, 0, 1] rfl (by rw [← s_cnt_f (f := (fun f => decide (1 ≤ f ∧ T.1 f ≠ 0 ∧ T.2.1 f = hand) && s_ltb (T.2.2.2 f) (T.2.2.1 f) (T.2.2.2 e) (T.2.2.1 e))) (by (rw [decide_eq_false (by omega), Bool.false_and]))]; exact ihf (f + 1) (by omega) (by omega))
                      · try simp (disch := omega) only [nI_ltI, nI_leI, nI_eq, zz_lt0, zz_ge0, zz_gt0, zz_le0, zz_eq0, zz_m1lt, zz_m1ge, zz_m1eq, bI_eq0, decide_eq_false_iff_not, decide_eq_true_eq, Decidable.not_not, not_true_eq_false, not_false_eq_true, Nat.not_lt, Nat.not_le, Bool.not_eq_false, Bool.not_eq_true] at c_79
                        refine V.iconst (v := (nI 1)) dR_inOrder_82 (by decide) ?_
                        refine V.goto (tgt := 87) dR_inOrder_83 (by decide) ?_
                        refine V.iaddN dR_inOrder_87 ?_
                        refine V.istore_n dR_inOrder_88 (by decide) ?_
                        refine V.iincN dR_inOrder_89 rfl (by decide) ?_
                        refine V.goto (tgt := 39) dR_inOrder_92 (by decide) ?_
                        first | exact V.re [4, 3, 2, 0, 1] rfl (by rw [← s_cnt_t (f := (fun f => decide (1 ≤ f ∧ T.1 f ≠ 0 ∧ T.2.1 f = hand) && s_ltb (T.2.2.2 f) (T.2.2.1 f) (T.2.2.2 e) (T.2.2.1 e))) (by (rw [Bool.and_eq_true]; exact ⟨decide_eq_true (by omega), c_79⟩))]; exact ihf (f + 1) (by omega) (by omega)) | exact V.re [4, 3, 2, 0, 1] rfl (by rw [← s_cnt_f (f := (fun f => decide (1 ≤ f ∧ T.1 f ≠ 0 ∧ T.2.1 f = hand) && s_ltb (T.2.2.2 f) (T.2.2.1 f) (T.2.2.2 e) (T.2.2.1 e))) (by (rw [c_79, Bool.and_false]))]; exact ihf (f + 1) (by omega) (by omega)) | exact V.re [4, 3, 2, 0, 1] rfl (by rw [← s_cnt_f (f := (fun f => decide (1 ≤ f ∧ T.1 f ≠ 0 ∧ T.2.1 f = hand) && s_ltb (T.2.2.2 f) (T.2.2.1 f) (T.2.2.2 e) (T.2.2.1 e))) (by (rw [decide_eq_false (by omega), Bool.false_and]))]; exact ihf (f + 1) (by omega) (by omega))
            refine V.iconst (v := (nI 0)) dR_inOrder_34 (by decide) ?_
            refine V.istore_n dR_inOrder_35 (by decide) ?_
            refine V.iconst (v := (nI 1)) dR_inOrder_36 (by decide) ?_
            refine V.istore dR_inOrder_37 (by decide) ?_
            have hc1 := s_cnt_one (f := (fun f => decide (1 ≤ f ∧ T.1 f ≠ 0 ∧ T.2.1 f = hand) && s_ltb (T.2.2.2 f) (T.2.2.1 f) (T.2.2.2 e) (T.2.2.1 e))) (by (rw [decide_eq_false (by omega), Bool.false_and]))
            have hl := inner 299 1 (by omega) (by omega)
            rw [hc1] at hl
            exact hl
          · try simp (disch := omega) only [nI_ltI, nI_leI, nI_eq, zz_lt0, zz_ge0, zz_gt0, zz_le0, zz_eq0, zz_m1lt, zz_m1ge, zz_m1eq, bI_eq0, decide_eq_false_iff_not, decide_eq_true_eq, Decidable.not_not, not_true_eq_false, not_false_eq_true, Nat.not_lt, Nat.not_le, Bool.not_eq_false, Bool.not_eq_true] at c_28
            refine V.goto (tgt := 102) dR_inOrder_31 (by decide) ?_
            have hno : ¬ ((1 ≤ e ∧ T.1 e ≠ 0 ∧ T.2.1 e = hand) ∧ nI (s_rank T hand e) = k) := fun z => by have := z.1; omega
            refine V.iincN dR_inOrder_102 rfl (by decide) ?_
            refine V.goto (tgt := 2) dR_inOrder_105 (by decide) ?_
            exact V.re [2, 0, 1] rfl (ih (e + 1) (by omega) (by omega) (fun k2 hk2 => (Nat.lt_or_ge k2 e).elim (hf k2) (fun z => by (rw [show k2 = e by omega]; exact hno))))
  refine V.iconst (v := (nI 1)) dR_inOrder_0 (by decide) ?_
  refine V.istore_n dR_inOrder_1 (by decide) ?_
  exact loop 299 1 (by omega) (by omega) (fun x hx z => by have := z.1.1; omega)
noncomputable def s_name (T : TT) (hand : Nat) (k j : Int32) : Int32 := match s_nth T hand k with
  | none => -1
  | some e => if ¬ (j < 0 ∨ T.2.2.1 e ≤ j.toNatClampNeg) then nI (T.2.2.2 e j.toNatClampNeg) else -1
