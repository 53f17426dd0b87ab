theorem ent_t {p f : Nat → Nat} {a k : Nat} {B : Prop} {isv : Bool} (hk : a ≤ k) (hD : isv = true ↔ (B ∧ ∀ j, j < k - a → f j = p (a + j))) (h1 : isv = true) (h2 : f (k - a) = p k) : true = true ↔ (B ∧ ∀ j, j < k + 1 - a → f j = p (a + j)) := by
  refine ⟨fun _ => ⟨(hD.mp h1).1, fun j hj => ?_⟩, fun _ => rfl⟩
  by_cases z : j < k - a
  · exact (hD.mp h1).2 j z
  · rw [show j = k - a by omega, h2, show a + (k - a) = k by omega]
theorem ent_f {p f : Nat → Nat} {a k : Nat} {B : Prop} {isv : Bool} (hk : a ≤ k) (hD : isv = true ↔ (B ∧ ∀ j, j < k - a → f j = p (a + j))) (h1 : isv = false ∨ ¬ f (k - a) = p k) : false = true ↔ (B ∧ ∀ j, j < k + 1 - a → f j = p (a + j)) := by
  refine ⟨fun z => by (cases z), fun z => ?_⟩
  rcases h1 with h1 | h1
  · rw [hD.mpr ⟨z.1, fun j hj => z.2 j (by omega)⟩] at h1; cases h1
  · have z2 := z.2 (k - a) (by omega)
    rw [show a + (k - a) = k by omega] at z2
    exact absurd z2 h1
set_option maxHeartbeats 4000000 in
set_option maxRecDepth 100000 in
/-- PathTreeModel.entry -/
theorem kR_entry {G : GG} {h : HH} {o : Nat} {p : Nat → Nat} {len : Nat} {Q : Option Value → HH → Prop} {T : TT} {d a b : Nat} (hS : RS G h o) (hP : RP h o p len) (hT : RT h o T) (hd : d < 300) (ha : a ≤ b) (hb : b ≤ len) (hQ : Q (some (.int (oI (s_ent T p d a b)))) h) : V G mR_entry 0 (lv_args 0 [.ref o, .int (nI d), .int (nI a), .int (nI b)]) [] h 0 0 Q := by
  obtain ⟨hz, hk0, hk1, hk2, hk3, hk4, hk5, hk6, hk7, hk8, hf0, hf2, hf3, hf4, hf5, hf6, hf12, hf13⟩ := id hS
  obtain ⟨hln, hpp, hl2, hp⟩ := id hP
  obtain ⟨hkd, hkd2, hin, hin2, hns, hns2, hnm, hnm2⟩ := id hT
  have loop : ∀ r e, e + r = 300 → 1 ≤ e → (∀ k, k < e → ¬ s_mt T p d a b k) → V G mR_entry 3 [(4, .int (nI e)), (0, .ref o), (1, .int (nI d)), (2, .int (nI a)), (3, .int (nI b))] [] h 0 0 Q := by
    intro r
    induction r with
    | zero =>
      intro e hr he hf
      refine V.iload dR_entry_3 rfl ?_
      refine V.sipush (v := (nI 300)) dR_entry_5 (by decide) ?_
      refine V.icmp_ge (tgt := 118) dR_entry_8 (by decide) (fun c_8 => ?_) (fun c_8 => ?_)
      · try simp (disch := omega) only [nI_ltI, nI_leI, nI_eq, zz_lt0, zz_ge0, zz_gt0, zz_le0, zz_eq0, zz_m1lt, zz_m1ge, zz_m1eq, bI_eq0, decide_eq_false_iff_not, decide_eq_true_eq, Decidable.not_not, not_true_eq_false, not_false_eq_true, Nat.not_lt, Nat.not_le, Bool.not_eq_false, Bool.not_eq_true] at c_8
        refine V.iconst (v := (-1)) dR_entry_118 (by decide) ?_
        refine V.ireturn dR_entry_119 rfl rfl ?_
        rw [s_ent_none (fun e2 he2 => hf e2 (by omega))] at hQ; exact hQ
      · try simp (disch := omega) only [nI_ltI, nI_leI, nI_eq, zz_lt0, zz_ge0, zz_gt0, zz_le0, zz_eq0, zz_m1lt, zz_m1ge, zz_m1eq, bI_eq0, decide_eq_false_iff_not, decide_eq_true_eq, Decidable.not_not, not_true_eq_false, not_false_eq_true, Nat.not_lt, Nat.not_le, Bool.not_eq_false, Bool.not_eq_true] at c_8
        all_goals omega
    | succ r ih =>
      intro e hr he hf
      have hkd2e := hkd2 e (by omega)
      have hin2e := hin2 e (by omega)
      have hns2e := hns2 e (by omega)
      have inner : ∀ r k (isv : Bool), k + r = b → a ≤ k → (isv = true ↔ ((T.1 e ≠ 0 ∧ T.2.1 e = d ∧ T.2.2.1 e = b - a) ∧ ∀ j, j < k - a → T.2.2.2 e j = p (a + j))) → V G mR_entry 55 [(6, .int (nI k)), (5, .int (bI isv)), (4, .int (nI e)), (0, .ref o), (1, .int (nI d)), (2, .int (nI a)), (3, .int (nI b))] [] h 0 0 Q := by
        intro r
        induction r with
        | zero =>
          intro k isv hr hk hD
          refine V.iload dR_entry_55 rfl ?_
          refine V.iload_n dR_entry_57 rfl ?_
          refine V.icmp_ge (tgt := 104) dR_entry_58 (by decide) (fun c_58 => ?_) (fun c_58 => ?_)
          · try simp (disch := omega) only [nI_ltI, nI_leI, nI_eq, zz_lt0, zz_ge0, zz_gt0, zz_le0, zz_eq0, zz_m1lt, zz_m1ge, zz_m1eq, bI_eq0, decide_eq_false_iff_not, decide_eq_true_eq, Decidable.not_not, not_true_eq_false, not_false_eq_true, Nat.not_lt, Nat.not_le, Bool.not_eq_false, Bool.not_eq_true] at c_58
            refine V.iload dR_entry_104 rfl ?_
            refine V.if_eq (tgt := 112) dR_entry_106 (by decide) (fun c_106 => ?_) (fun c_106 => ?_)
            · try simp (disch := omega) only [nI_ltI, nI_leI, nI_eq, zz_lt0, zz_ge0, zz_gt0, zz_le0, zz_eq0, zz_m1lt, zz_m1ge, zz_m1eq, bI_eq0, decide_eq_false_iff_not, decide_eq_true_eq, Decidable.not_not, not_true_eq_false, not_false_eq_true, Nat.not_lt, Nat.not_le, Bool.not_eq_false, Bool.not_eq_true] at c_106
              have hno : ¬ s_mt T p d a b e := fun z => by
                have z2 := hD.mpr ⟨z.1.2, fun j hj => z.2 j (by omega)⟩
                first | (rw [z2] at c_63; cases c_63) | (rw [z2] at c_106; cases c_106)
              refine V.iincN dR_entry_112 rfl (by decide) ?_
              refine V.goto (tgt := 3) dR_entry_115 (by decide) ?_
              exact V.re [4, 0, 1, 2, 3] rfl (ih (e + 1) (by omega) (by omega) (fun k2 hk2 => (Nat.lt_or_ge k2 e).elim (hf k2) (fun z => by (rw [show k2 = e by omega]; exact hno))))
            · try simp (disch := omega) only [nI_ltI, nI_leI, nI_eq, zz_lt0, zz_ge0, zz_gt0, zz_le0, zz_eq0, zz_m1lt, zz_m1ge, zz_m1eq, bI_eq0, decide_eq_false_iff_not, decide_eq_true_eq, Decidable.not_not, not_true_eq_false, not_false_eq_true, Nat.not_lt, Nat.not_le, Bool.not_eq_false, Bool.not_eq_true] at c_106
              refine V.iload dR_entry_109 rfl ?_
              refine V.ireturn dR_entry_111 rfl rfl ?_
              rw [s_ent_first (e := e) (by omega) ⟨⟨by omega, (hD.mp c_106).1⟩, fun j hj => (hD.mp c_106).2 j (by omega)⟩ hf] at hQ; exact hQ
          · try simp (disch := omega) only [nI_ltI, nI_leI, nI_eq, zz_lt0, zz_ge0, zz_gt0, zz_le0, zz_eq0, zz_m1lt, zz_m1ge, zz_m1eq, bI_eq0, decide_eq_false_iff_not, decide_eq_true_eq, Decidable.not_not, not_true_eq_false, not_false_eq_true, Nat.not_lt, Nat.not_le, Bool.not_eq_false, Bool.not_eq_true] at c_58
            all_goals omega
        | succ r ihk =>
          intro k isv hr hk hD
          refine V.iload dR_entry_55 rfl ?_
          refine V.iload_n dR_entry_57 rfl ?_
          refine V.icmp_ge (tgt := 104) dR_entry_58 (by decide) (fun c_58 => ?_) (fun c_58 => ?_)
          · try simp (disch := omega) only [nI_ltI, nI_leI, nI_eq, zz_lt0, zz_ge0, zz_gt0, zz_le0, zz_eq0, zz_m1lt, zz_m1ge, zz_m1eq, bI_eq0, decide_eq_false_iff_not, decide_eq_true_eq, Decidable.not_not, not_true_eq_false, not_false_eq_true, Nat.not_lt, Nat.not_le, Bool.not_eq_false, Bool.not_eq_true] at c_58
            all_goals omega
          · try simp (disch := omega) only [nI_ltI, nI_leI, nI_eq, zz_lt0, zz_ge0, zz_gt0, zz_le0, zz_eq0, zz_m1lt, zz_m1ge, zz_m1eq, bI_eq0, decide_eq_false_iff_not, decide_eq_true_eq, Decidable.not_not, not_true_eq_false, not_false_eq_true, Nat.not_lt, Nat.not_le, Bool.not_eq_false, Bool.not_eq_true] at c_58
            refine V.iload dR_entry_61 rfl ?_
            refine V.if_eq (tgt := 104) dR_entry_63 (by decide) (fun c_63 => ?_) (fun c_63 => ?_)
            · try simp (disch := omega) only [nI_ltI, nI_leI, nI_eq, zz_lt0, zz_ge0, zz_gt0, zz_le0, zz_eq0, zz_m1lt, zz_m1ge, zz_m1eq, bI_eq0, decide_eq_false_iff_not, decide_eq_true_eq, Decidable.not_not, not_true_eq_false, not_false_eq_true, Nat.not_lt, Nat.not_le, Bool.not_eq_false, Bool.not_eq_true] at c_63
              refine V.iload dR_entry_104 rfl ?_
              refine V.if_eq (tgt := 112) dR_entry_106 (by decide) (fun c_106 => ?_) (fun c_106 => ?_)
              · try simp (disch := omega) only [nI_ltI, nI_leI, nI_eq, zz_lt0, zz_ge0, zz_gt0, zz_le0, zz_eq0, zz_m1lt, zz_m1ge, zz_m1eq, bI_eq0, decide_eq_false_iff_not, decide_eq_true_eq, Decidable.not_not, not_true_eq_false, not_false_eq_true, Nat.not_lt, Nat.not_le, Bool.not_eq_false, Bool.not_eq_true] at c_106
                have hno : ¬ s_mt T p d a b e := fun z => by
                  have z2 := hD.mpr ⟨z.1.2, fun j hj => z.2 j (by omega)⟩
                  first | (rw [z2] at c_63; cases c_63) | (rw [z2] at c_106; cases c_106)
                refine V.iincN dR_entry_112 rfl (by decide) ?_
                refine V.goto (tgt := 3) dR_entry_115 (by decide) ?_
                exact V.re [4, 0, 1, 2, 3] rfl (ih (e + 1) (by omega) (by omega) (fun k2 hk2 => (Nat.lt_or_ge k2 e).elim (hf k2) (fun z => by (rw [show k2 = e by omega]; exact hno))))
              · try simp (disch := omega) only [nI_ltI, nI_leI, nI_eq, zz_lt0, zz_ge0, zz_gt0, zz_le0, zz_eq0, zz_m1lt, zz_m1ge, zz_m1eq, bI_eq0, decide_eq_false_iff_not, decide_eq_true_eq, Decidable.not_not, not_true_eq_false, not_false_eq_true, Nat.not_lt, Nat.not_le, Bool.not_eq_false, Bool.not_eq_true] at c_106
                rw [c_63] at c_106; cases c_106
            · try simp (disch := omega) only [nI_ltI, nI_leI, nI_eq, zz_lt0, zz_ge0, zz_gt0, zz_le0, zz_eq0, zz_m1lt, zz_m1ge, zz_m1eq, bI_eq0, decide_eq_false_iff_not, decide_eq_true_eq, Decidable.not_not, not_true_eq_false, not_false_eq_true, Nat.not_lt, Nat.not_le, Bool.not_eq_false, Bool.not_eq_true] at c_63
              have hb1 := (hD.mp c_63).1
              have hq1 := hnm2 e (k - a) (by omega) (by omega)
              have hq2 := hp k (by omega)
              first | refine V.aload_n dR_entry_66 rfl ?_ | refine V.aload_nN dR_entry_66 rfl ?_
              refine V.getk dR_entry_67 (by omega) (by assumption) f_R_25_4 (by assumption) ?_
              refine V.bipush (v := (nI 60)) dR_entry_70 (by decide) ?_
              refine V.iload dR_entry_72 rfl ?_
              refine V.imulN dR_entry_74 ?_
              refine V.iload dR_entry_75 rfl ?_
              refine V.iaddN dR_entry_77 ?_
              refine V.iload_n dR_entry_78 rfl ?_
              refine V.isubN dR_entry_79 (by omega) ?_
              refine V.ialoadN dR_entry_80 (by omega) (by assumption) (by omega) ((congrArg (h.2.1 (o + 6)) (show 60 * e + k - a = 60 * e + (k - a) by omega)).trans (hnm e (k - a) (by omega) (by omega))) ?_
              first | refine V.aload_n dR_entry_81 rfl ?_ | refine V.aload_nN dR_entry_81 rfl ?_
              refine V.getk dR_entry_82 (by omega) (by assumption) f_R_7_4 (by assumption) ?_
              refine V.iload dR_entry_85 rfl ?_
              refine V.ialoadN dR_entry_87 (by omega) (by assumption) (by omega) (hpp k (by omega)) ?_
              refine V.icmp_ne (tgt := 95) dR_entry_88 (by decide) (fun c_88 => ?_) (fun c_88 => ?_)
              · try simp (disch := omega) only [nI_ltI, nI_leI, nI_eq, zz_lt0, zz_ge0, zz_gt0, zz_le0, zz_eq0, zz_m1lt, zz_m1ge, zz_m1eq, bI_eq0, decide_eq_false_iff_not, decide_eq_true_eq, Decidable.not_not, not_true_eq_false, not_false_eq_true, Nat.not_lt, Nat.not_le, Bool.not_eq_false, Bool.not_eq_true] at c_88
                refine V.iconst (v := (nI 0)) dR_entry_95 (by decide) ?_
                refine V.istore dR_entry_96 (by decide) ?_
                refine V.iincN dR_entry_98 rfl (by decide) ?_
                refine V.goto (tgt := 55) dR_entry_101 (by decide) ?_
                first | exact ihk (k + 1) true (by omega) (by omega) (ent_t hk hD c_63 c_88) | exact ihk (k + 1) false (by omega) (by omega) (ent_f hk hD (Or.inr c_88))
              · try simp (disch := omega) only [nI_ltI, nI_leI, nI_eq, zz_lt0, zz_ge0, zz_gt0, zz_le0, zz_eq0, zz_m1lt, zz_m1ge, zz_m1eq, bI_eq0, decide_eq_false_iff_not, decide_eq_true_eq, Decidable.not_not, not_true_eq_false, not_false_eq_true, Nat.not_lt, Nat.not_le, Bool.not_eq_false, Bool.not_eq_true] at c_88
                refine V.iconst (v := (nI 1)) dR_entry_91 (by decide) ?_
                refine V.goto (tgt := 96) dR_entry_92 (by decide) ?_
                refine V.istore dR_entry_96 (by decide) ?_
                refine V.iincN dR_entry_98 rfl (by decide) ?_
                refine V.goto (tgt := 55) dR_entry_101 (by decide) ?_
                first | exact ihk (k + 1) true (by omega) (by omega) (ent_t hk hD c_63 c_88) | exact ihk (k + 1) false (by omega) (by omega) (ent_f hk hD (Or.inr c_88))
      refine V.iload dR_entry_3 rfl ?_
      refine V.sipush (v := (nI 300)) dR_entry_5 (by decide) ?_
      refine V.icmp_ge (tgt := 118) dR_entry_8 (by decide) (fun c_8 => ?_) (fun c_8 => ?_)
      · try simp (disch := omega) only [nI_ltI, nI_leI, nI_eq, zz_lt0, zz_ge0, zz_gt0, zz_le0, zz_eq0, zz_m1lt, zz_m1ge, zz_m1eq, bI_eq0, decide_eq_false_iff_not, decide_eq_true_eq, Decidable.not_not, not_true_eq_false, not_false_eq_true, Nat.not_lt, Nat.not_le, Bool.not_eq_false, Bool.not_eq_true] at c_8
        all_goals omega
      · try simp (disch := omega) only [nI_ltI, nI_leI, nI_eq, zz_lt0, zz_ge0, zz_gt0, zz_le0, zz_eq0, zz_m1lt, zz_m1ge, zz_m1eq, bI_eq0, decide_eq_false_iff_not, decide_eq_true_eq, Decidable.not_not, not_true_eq_false, not_false_eq_true, Nat.not_lt, Nat.not_le, Bool.not_eq_false, Bool.not_eq_true] at c_8
        first | refine V.aload_n dR_entry_11 rfl ?_ | refine V.aload_nN dR_entry_11 rfl ?_
        refine V.getk dR_entry_12 (by omega) (by assumption) f_R_13_4 (by assumption) ?_
        refine V.iload dR_entry_15 rfl ?_
        refine V.ialoadN dR_entry_17 (by omega) (by assumption) (by omega) (hkd e (by omega)) ?_
        refine V.if_eq (tgt := 49) dR_entry_18 (by decide) (fun c_18 => ?_) (fun c_18 => ?_)
        · try simp (disch := omega) only [nI_ltI, nI_leI, nI_eq, zz_lt0, zz_ge0, zz_gt0, zz_le0, zz_eq0, zz_m1lt, zz_m1ge, zz_m1eq, bI_eq0, decide_eq_false_iff_not, decide_eq_true_eq, Decidable.not_not, not_true_eq_false, not_false_eq_true, Nat.not_lt, Nat.not_le, Bool.not_eq_false, Bool.not_eq_true] at c_18
          refine V.iconst (v := (nI 0)) dR_entry_49 (by decide) ?_
          refine V.istore dR_entry_50 (by decide) ?_
          refine V.iload_n dR_entry_52 rfl ?_
          refine V.istore dR_entry_53 (by decide) ?_
          first | exact inner (b - a) a true (by omega) (by omega) ⟨fun _ => ⟨by omega, fun j hj => by omega⟩, fun _ => rfl⟩ | exact inner (b - a) a false (by omega) (by omega) ⟨fun z => by (cases z), fun z => by omega⟩
        · try simp (disch := omega) only [nI_ltI, nI_leI, nI_eq, zz_lt0, zz_ge0, zz_gt0, zz_le0, zz_eq0, zz_m1lt, zz_m1ge, zz_m1eq, bI_eq0, decide_eq_false_iff_not, decide_eq_true_eq, Decidable.not_not, not_true_eq_false, not_false_eq_true, Nat.not_lt, Nat.not_le, Bool.not_eq_false, Bool.not_eq_true] at c_18
          first | refine V.aload_n dR_entry_21 rfl ?_ | refine V.aload_nN dR_entry_21 rfl ?_
          refine V.getk dR_entry_22 (by omega) (by assumption) f_R_16_4 (by assumption) ?_
          refine V.iload dR_entry_25 rfl ?_
          refine V.ialoadN dR_entry_27 (by omega) (by assumption) (by omega) (hin e (by omega)) ?_
          refine V.iload_n dR_entry_28 rfl ?_
          refine V.icmp_ne (tgt := 49) dR_entry_29 (by decide) (fun c_29 => ?_) (fun c_29 => ?_)
          · try simp (disch := omega) only [nI_ltI, nI_leI, nI_eq, zz_lt0, zz_ge0, zz_gt0, zz_le0, zz_eq0, zz_m1lt, zz_m1ge, zz_m1eq, bI_eq0, decide_eq_false_iff_not, decide_eq_true_eq, Decidable.not_not, not_true_eq_false, not_false_eq_true, Nat.not_lt, Nat.not_le, Bool.not_eq_false, Bool.not_eq_true] at c_29
            refine V.iconst (v := (nI 0)) dR_entry_49 (by decide) ?_
            refine V.istore dR_entry_50 (by decide) ?_
            refine V.iload_n dR_entry_52 rfl ?_
            refine V.istore dR_entry_53 (by decide) ?_
            first | exact inner (b - a) a true (by omega) (by omega) ⟨fun _ => ⟨by omega, fun j hj => by omega⟩, fun _ => rfl⟩ | exact inner (b - a) a false (by omega) (by omega) ⟨fun z => by (cases z), fun z => by omega⟩
          · try simp (disch := omega) only [nI_ltI, nI_leI, nI_eq, zz_lt0, zz_ge0, zz_gt0, zz_le0, zz_eq0, zz_m1lt, zz_m1ge, zz_m1eq, bI_eq0, decide_eq_false_iff_not, decide_eq_true_eq, Decidable.not_not, not_true_eq_false, not_false_eq_true, Nat.not_lt, Nat.not_le, Bool.not_eq_false, Bool.not_eq_true] at c_29
            first | refine V.aload_n dR_entry_32 rfl ?_ | refine V.aload_nN dR_entry_32 rfl ?_
            refine V.getk dR_entry_33 (by omega) (by assumption) f_R_22_4 (by assumption) ?_
            refine V.iload dR_entry_36 rfl ?_
            refine V.ialoadN dR_entry_38 (by omega) (by assumption) (by omega) (hns e (by omega)) ?_
            refine V.iload_n dR_entry_39 rfl ?_
            refine V.iload_n dR_entry_40 rfl ?_
            refine V.isubN dR_entry_41 (by omega) ?_
            refine V.icmp_ne (tgt := 49) dR_entry_42 (by decide) (fun c_42 => ?_) (fun c_42 => ?_)
            · try simp (disch := omega) only [nI_ltI, nI_leI, nI_eq, zz_lt0, zz_ge0, zz_gt0, zz_le0, zz_eq0, zz_m1lt, zz_m1ge, zz_m1eq, bI_eq0, decide_eq_false_iff_not, decide_eq_true_eq, Decidable.not_not, not_true_eq_false, not_false_eq_true, Nat.not_lt, Nat.not_le, Bool.not_eq_false, Bool.not_eq_true] at c_42
              refine V.iconst (v := (nI 0)) dR_entry_49 (by decide) ?_
              refine V.istore dR_entry_50 (by decide) ?_
              refine V.iload_n dR_entry_52 rfl ?_
              refine V.istore dR_entry_53 (by decide) ?_
              first | exact inner (b - a) a true (by omega) (by omega) ⟨fun _ => ⟨by omega, fun j hj => by omega⟩, fun _ => rfl⟩ | exact inner (b - a) a false (by omega) (by omega) ⟨fun z => by (cases z), fun z => by omega⟩
            · try simp (disch := omega) only [nI_ltI, nI_leI, nI_eq, zz_lt0, zz_ge0, zz_gt0, zz_le0, zz_eq0, zz_m1lt, zz_m1ge, zz_m1eq, bI_eq0, decide_eq_false_iff_not, decide_eq_true_eq, Decidable.not_not, not_true_eq_false, not_false_eq_true, Nat.not_lt, Nat.not_le, Bool.not_eq_false, Bool.not_eq_true] at c_42
              refine V.iconst (v := (nI 1)) dR_entry_45 (by decide) ?_
              refine V.goto (tgt := 50) dR_entry_46 (by decide) ?_
              refine V.istore dR_entry_50 (by decide) ?_
              refine V.iload_n dR_entry_52 rfl ?_
              refine V.istore dR_entry_53 (by decide) ?_
              first | exact inner (b - a) a true (by omega) (by omega) ⟨fun _ => ⟨by omega, fun j hj => by omega⟩, fun _ => rfl⟩ | exact inner (b - a) a false (by omega) (by omega) ⟨fun z => by (cases z), fun z => by omega⟩
  refine V.iconst (v := (nI 1)) dR_entry_0 (by decide) ?_
  refine V.istore dR_entry_1 (by decide) ?_
  exact loop 299 1 (by omega) (by omega) (fun k hk z => by have := z.1.1; omega)
set_option maxHeartbeats 4000000 in
set_option maxRecDepth 100000 in
/-- PathTreeModel.along -/
theorem kR_along {G : GG} {h : HH} {o : Nat} {p : Nat → Nat} {len : Nat} {Q : Option Value → HH → Prop} {T : TT} {e a b : Nat} (hS : RS G h o) (hP : RP h o p len) (hT : RT h o T) (he : e < 300) (ha : a ≤ b) (hb : b ≤ len) (hQ : Q (some (.int (oI (s_along T p e a b)))) h) : V G mR_along 0 (lv_args 0 [.ref o, .int (nI e), .int (nI a), .int (nI b)]) [] h 0 0 Q := by
  obtain ⟨hz, hk0, hk1, hk2, hk3, hk4, hk5, hk6, hk7, hk8, hf0, hf2, hf3, hf4, hf5, hf6, hf12, hf13⟩ := id hS
  obtain ⟨hln, hpp, hl2, hp⟩ := id hP
  obtain ⟨hkd, hkd2, hin, hin2, hns, hns2, hnm, hnm2⟩ := id hT
  have hkd2e := hkd2 e he
  have hin2e := hin2 e he
  refine V.iload_n dR_along_0 rfl ?_
  refine V.iload_n dR_along_1 rfl ?_
  refine V.icmp_ne (tgt := 7) dR_along_2 (by decide) (fun c_2 => ?_) (fun c_2 => ?_)
  · try simp (disch := omega) only [nI_ltI, nI_leI, nI_eq, zz_lt0, zz_ge0, zz_gt0, zz_le0, zz_eq0, zz_m1lt, zz_m1ge, zz_m1eq, bI_eq0, decide_eq_false_iff_not, decide_eq_true_eq, Decidable.not_not, not_true_eq_false, not_false_eq_true, Nat.not_lt, Nat.not_le, Bool.not_eq_false, Bool.not_eq_true] at c_2
    first | refine V.aload_n dR_along_7 rfl ?_ | refine V.aload_nN dR_along_7 rfl ?_
    refine V.getk dR_along_8 (by omega) (by assumption) f_R_13_4 (by assumption) ?_
    refine V.iload_n dR_along_11 rfl ?_
    refine V.ialoadN dR_along_12 (by omega) (by assumption) (by omega) (hkd e he) ?_
    refine V.iconst (v := (nI 2)) dR_along_13 (by decide) ?_
    refine V.icmp_eq (tgt := 19) dR_along_14 (by decide) (fun c_14 => ?_) (fun c_14 => ?_)
    · try simp (disch := omega) only [nI_ltI, nI_leI, nI_eq, zz_lt0, zz_ge0, zz_gt0, zz_le0, zz_eq0, zz_m1lt, zz_m1ge, zz_m1eq, bI_eq0, decide_eq_false_iff_not, decide_eq_true_eq, Decidable.not_not, not_true_eq_false, not_false_eq_true, Nat.not_lt, Nat.not_le, Bool.not_eq_false, Bool.not_eq_true] at c_14
      first | refine V.aload_n dR_along_19 rfl ?_ | refine V.aload_nN dR_along_19 rfl ?_
      refine V.iload_n dR_along_20 rfl ?_
      refine V.iload_n dR_along_21 rfl ?_
      refine V.iconst (v := (nI 1)) dR_along_22 (by decide) ?_
      refine V.callVk (kd := 4) 0 _ 0 _ [_, _, _] dR_along_23 okR_isDots n_R_47 (by omega) (by assumption) rfl imR_isDots seR_isDots_R (by decide) (by decide) rfl rfl (Nat.le_of_ble_eq_true rfl) (Nat.le_of_ble_eq_true rfl) (Nat.le_of_eq (Nat.zero_add _)) (Nat.le_of_eq (Nat.zero_add _)) (kR_isDots1 hS hP ha hb ?_)
      refine V.if_eq (tgt := 31) dR_along_26 (by decide) (fun c_26 => ?_) (fun c_26 => ?_)
      · try simp (disch := omega) only [nI_ltI, nI_leI, nI_eq, zz_lt0, zz_ge0, zz_gt0, zz_le0, zz_eq0, zz_m1lt, zz_m1ge, zz_m1eq, bI_eq0, decide_eq_false_iff_not, decide_eq_true_eq, Decidable.not_not, not_true_eq_false, not_false_eq_true, Nat.not_lt, Nat.not_le, Bool.not_eq_false, Bool.not_eq_true] at c_26
        first | refine V.aload_n dR_along_31 rfl ?_ | refine V.aload_nN dR_along_31 rfl ?_
        refine V.iload_n dR_along_32 rfl ?_
        refine V.iload_n dR_along_33 rfl ?_
        refine V.iconst (v := (nI 2)) dR_along_34 (by decide) ?_
        refine V.callVk (kd := 4) 0 _ 0 _ [_, _, _] dR_along_35 okR_isDots n_R_47 (by omega) (by assumption) rfl imR_isDots seR_isDots_R (by decide) (by decide) rfl rfl (Nat.le_of_ble_eq_true rfl) (Nat.le_of_ble_eq_true rfl) (Nat.le_of_eq (Nat.zero_add _)) (Nat.le_of_eq (Nat.zero_add _)) (kR_isDots2 hS hP ha hb ?_)
        refine V.if_eq (tgt := 50) dR_along_38 (by decide) (fun c_38 => ?_) (fun c_38 => ?_)
        · try simp (disch := omega) only [nI_ltI, nI_leI, nI_eq, zz_lt0, zz_ge0, zz_gt0, zz_le0, zz_eq0, zz_m1lt, zz_m1ge, zz_m1eq, bI_eq0, decide_eq_false_iff_not, decide_eq_true_eq, Decidable.not_not, not_true_eq_false, not_false_eq_true, Nat.not_lt, Nat.not_le, Bool.not_eq_false, Bool.not_eq_true] at c_38
          first | refine V.aload_n dR_along_50 rfl ?_ | refine V.aload_nN dR_along_50 rfl ?_
          refine V.iload_n dR_along_51 rfl ?_
          refine V.iload_n dR_along_52 rfl ?_
          refine V.iload_n dR_along_53 rfl ?_
          refine V.callVk (kd := 4) 0 _ 0 _ [_, _, _] dR_along_54 okR_entry n_R_51 (by omega) (by assumption) rfl imR_entry seR_entry_R (by decide) (by decide) rfl rfl (Nat.le_of_ble_eq_true rfl) (Nat.le_of_ble_eq_true rfl) (Nat.le_of_eq (Nat.zero_add _)) (Nat.le_of_eq (Nat.zero_add _)) (kR_entry hS hP hT he ha hb ?_)
          refine V.ireturn dR_along_57 rfl rfl ?_
          first | (unfold s_along at hQ; rw [if_neg (by omega), if_neg (by omega), if_neg (by omega), if_pos (by omega)] at hQ; exact hQ) | (unfold s_along at hQ; rw [if_neg (by omega), if_neg (by omega), if_neg (by omega), if_neg (by omega)] at hQ; exact hQ)
        · try simp (disch := omega) only [nI_ltI, nI_leI, nI_eq, zz_lt0, zz_ge0, zz_gt0, zz_le0, zz_eq0, zz_m1lt, zz_m1ge, zz_m1eq, bI_eq0, decide_eq_false_iff_not, decide_eq_true_eq, Decidable.not_not, not_true_eq_false, not_false_eq_true, Nat.not_lt, Nat.not_le, Bool.not_eq_false, Bool.not_eq_true] at c_38
          first | refine V.aload_n dR_along_41 rfl ?_ | refine V.aload_nN dR_along_41 rfl ?_
          refine V.getk dR_along_42 (by omega) (by assumption) f_R_16_4 (by assumption) ?_
          refine V.iload_n dR_along_45 rfl ?_
          refine V.ialoadN dR_along_46 (by omega) (by assumption) (by omega) (hin e he) ?_
          refine V.goto (tgt := 57) dR_along_47 (by decide) ?_
          refine V.ireturn dR_along_57 rfl rfl ?_
          first | (unfold s_along at hQ; rw [if_neg (by omega), if_neg (by omega), if_neg (by omega), if_pos (by omega)] at hQ; exact hQ) | (unfold s_along at hQ; rw [if_neg (by omega), if_neg (by omega), if_neg (by omega), if_neg (by omega)] at hQ; exact hQ)
      · try simp (disch := omega) only [nI_ltI, nI_leI, nI_eq, zz_lt0, zz_ge0, zz_gt0, zz_le0, zz_eq0, zz_m1lt, zz_m1ge, zz_m1eq, bI_eq0, decide_eq_false_iff_not, decide_eq_true_eq, Decidable.not_not, not_true_eq_false, not_false_eq_true, Nat.not_lt, Nat.not_le, Bool.not_eq_false, Bool.not_eq_true] at c_26
        refine V.iload_n dR_along_29 rfl ?_
        refine V.ireturn dR_along_30 rfl rfl ?_
        unfold s_along at hQ; rw [if_neg (by omega), if_neg (by omega), if_pos (by omega)] at hQ; exact hQ
    · try simp (disch := omega) only [nI_ltI, nI_leI, nI_eq, zz_lt0, zz_ge0, zz_gt0, zz_le0, zz_eq0, zz_m1lt, zz_m1ge, zz_m1eq, bI_eq0, decide_eq_false_iff_not, decide_eq_true_eq, Decidable.not_not, not_true_eq_false, not_false_eq_true, Nat.not_lt, Nat.not_le, Bool.not_eq_false, Bool.not_eq_true] at c_14
      refine V.iconst (v := (-1)) dR_along_17 (by decide) ?_
      refine V.ireturn dR_along_18 rfl rfl ?_
      unfold s_along at hQ; rw [if_neg (by omega), if_pos (by omega)] at hQ; exact hQ
  · try simp (disch := omega) only [nI_ltI, nI_leI, nI_eq, zz_lt0, zz_ge0, zz_gt0, zz_le0, zz_eq0, zz_m1lt, zz_m1ge, zz_m1eq, bI_eq0, decide_eq_false_iff_not, decide_eq_true_eq, Decidable.not_not, not_true_eq_false, not_false_eq_true, Nat.not_lt, Nat.not_le, Bool.not_eq_false, Bool.not_eq_true] at c_2
    refine V.iload_n dR_along_5 rfl ?_
    refine V.ireturn dR_along_6 rfl rfl ?_
    unfold s_along at hQ; rw [if_pos (by omega)] at hQ; exact hQ
