theorem zs_i {x y : Nat} (hx : x < 2 ^ 30) (hy : y < 2 ^ 30) : (nI x - nI y).toInt = (x : Int) - y := pk_sub_toInt hx hy
theorem zs_eq0 {x y : Nat} (hx : x < 2 ^ 30) (hy : y < 2 ^ 30) : nI x - nI y = 0 ↔ x = y := by
  rw [← Int32.toInt_inj, zs_i hx hy, Int32.toInt_zero]; omega
theorem zs_ge0 {x y : Nat} (hx : x < 2 ^ 30) (hy : y < 2 ^ 30) : 0 ≤ nI x - nI y ↔ y ≤ x := by
  rw [Int32.le_iff_toInt_le, zs_i hx hy, Int32.toInt_zero]; omega
theorem zs_lt0 {x y : Nat} (hx : x < 2 ^ 30) (hy : y < 2 ^ 30) : nI x - nI y < 0 ↔ x < y := by
  rw [Int32.lt_iff_toInt_lt, zs_i hx hy, Int32.toInt_zero]; omega
theorem s_lt_at {n1 n2 : Nat → Nat} {l1 l2 k : Nat} (h : ∀ j, j < k → n1 j = n2 j) (h1 : k < l1) (h2 : k < l2) (hne : ¬ n1 k = n2 k) : s_lt n1 l1 n2 l2 ↔ n1 k < n2 k := by
  refine ⟨fun ⟨x, hx1, hx2, hx3, hx4⟩ => ?_, fun z => ⟨k, by omega, h2, h, Or.inr z⟩⟩
  rcases Nat.lt_trichotomy x k with z | z | z
  · have := h x z
    rcases hx4 with q | q <;> omega
  · subst z
    rcases hx4 with q | q <;> omega
  · exact absurd (hx3 k z) hne
theorem s_lt_end {n1 n2 : Nat → Nat} {l1 l2 k : Nat} (h : ∀ j, j < k → n1 j = n2 j) (h1 : k ≤ l1) (h2 : k ≤ l2) (he : k = l1 ∨ k = l2) : s_lt n1 l1 n2 l2 ↔ l1 < l2 := by
  refine ⟨fun ⟨x, hx1, hx2, hx3, hx4⟩ => ?_, fun z => ⟨k, h1, by omega, h, Or.inl (by omega)⟩⟩
  by_cases z : x < k
  · have := h x z
    rcases hx4 with q | q <;> omega
  · omega
noncomputable def s_ltb (n1 : Nat → Nat) (l1 : Nat) (n2 : Nat → Nat) (l2 : Nat) : Bool := @decide (s_lt n1 l1 n2 l2) (Classical.propDecidable _)
theorem s_ltb_iff {n1 n2 : Nat → Nat} {l1 l2 : Nat} : s_ltb n1 l1 n2 l2 = true ↔ s_lt n1 l1 n2 l2 := by
  unfold s_ltb
  exact @decide_eq_true_iff _ (Classical.propDecidable _)
theorem s_ltb_of {n1 n2 : Nat → Nat} {l1 l2 : Nat} {b : Bool} (h : s_lt n1 l1 n2 l2 ↔ b = true) : s_ltb n1 l1 n2 l2 = b := by
  rw [Bool.eq_iff_iff, s_ltb_iff, h]
/-- how many below n -/
def s_cnt (f : Nat → Bool) : Nat → Nat
  | 0 => 0
  | n + 1 => s_cnt f n + (if f n = true then 1 else 0)
theorem s_cnt_le (f : Nat → Bool) : ∀ n, s_cnt f n ≤ n
  | 0 => Nat.le_refl 0
  | n + 1 => by
    have := s_cnt_le f n
    unfold s_cnt
    split <;> omega
theorem s_cnt_t {f : Nat → Bool} {n : Nat} (h : f n = true) : s_cnt f (n + 1) = s_cnt f n + 1 := by simp [s_cnt, h]
theorem s_cnt_f {f : Nat → Bool} {n : Nat} (h : f n = false) : s_cnt f (n + 1) = s_cnt f n + 0 := by simp [s_cnt, h]
theorem s_cnt_one {f : Nat → Bool} (h : f 0 = false) : s_cnt f 1 = 0 := by simp [s_cnt, h]
set_option maxHeartbeats 4000000 in
set_option maxRecDepth 100000 in
/-- PathTreeModel.isBefore -/
theorem kR_isBefore {G : GG} {h : HH} {o : Nat} {Q : Option Value → HH → Prop} {T : TT} {a b : Nat} (hS : RS G h o) (hT : RT h o T) (ha : a < 300) (hb : b < 300) (hQ : Q (some (.int (bI (s_ltb (T.2.2.2 a) (T.2.2.1 a) (T.2.2.2 b) (T.2.2.1 b))))) h) : V G mR_isBefore 0 (lv_args 0 [.ref o, .int (nI a), .int (nI b)]) [] h 0 0 Q := by
  obtain ⟨hz, hk0, hk1, hk2, hk3, hk4, hk5, hk6, hk7, hk8, hf0, hf2, hf3, hf4, hf5, hf6, hf12, hf13⟩ := id hS
  obtain ⟨hkd, hkd2, hin, hin2, hns, hns2, hnm, hnm2⟩ := id hT
  have hna := hns2 a ha
  have hnb := hns2 b hb
  have loop : ∀ r k, k + r = 100 → k ≤ T.2.2.1 a → k ≤ T.2.2.1 b → (∀ j, j < k → T.2.2.2 a j = T.2.2.2 b j) → V G mR_isBefore 2 [(3, .int (nI k)), (0, .ref o), (1, .int (nI a)), (2, .int (nI b))] [] h 0 0 Q := by
    intro r
    induction r with
    | zero =>
      intro k hr h1 h2
      omega
    | succ r ih =>
      intro k hr h1 h2 he
      refine V.iload_n dR_isBefore_2 rfl ?_
      first | refine V.aload_n dR_isBefore_3 rfl ?_ | refine V.aload_nN dR_isBefore_3 rfl ?_
      refine V.getk dR_isBefore_4 (by omega) (by assumption) f_R_22_4 (by assumption) ?_
      refine V.iload_n dR_isBefore_7 rfl ?_
      refine V.ialoadN dR_isBefore_8 (by omega) (by assumption) (by omega) (hns a ha) ?_
      refine V.icmp_ge (tgt := 69) dR_isBefore_9 (by decide) (fun c_9 => ?_) (fun c_9 => ?_)
      · try simp (disch := omega) only [nI_ltI, nI_leI, nI_eq, zz_lt0, zz_ge0, zz_gt0, zz_le0, zz_eq0, zz_m1lt, zz_m1ge, zz_m1eq, bI_eq0, decide_eq_false_iff_not, decide_eq_true_eq, Decidable.not_not, not_true_eq_false, not_false_eq_true, Nat.not_lt, Nat.not_le, Bool.not_eq_false, Bool.not_eq_true] at c_9
        first | refine V.aload_n dR_isBefore_69 rfl ?_ | refine V.aload_nN dR_isBefore_69 rfl ?_
        refine V.getk dR_isBefore_70 (by omega) (by assumption) f_R_22_4 (by assumption) ?_
        refine V.iload_n dR_isBefore_73 rfl ?_
        refine V.ialoadN dR_isBefore_74 (by omega) (by assumption) (by omega) (hns a ha) ?_
        first | refine V.aload_n dR_isBefore_75 rfl ?_ | refine V.aload_nN dR_isBefore_75 rfl ?_
        refine V.getk dR_isBefore_76 (by omega) (by assumption) f_R_22_4 (by assumption) ?_
        refine V.iload_n dR_isBefore_79 rfl ?_
        refine V.ialoadN dR_isBefore_80 (by omega) (by assumption) (by omega) (hns b hb) ?_
        refine V.icmp_ge (tgt := 88) dR_isBefore_81 (by decide) (fun c_81 => ?_) (fun c_81 => ?_)
        · try simp (disch := omega) only [nI_ltI, nI_leI, nI_eq, zz_lt0, zz_ge0, zz_gt0, zz_le0, zz_eq0, zz_m1lt, zz_m1ge, zz_m1eq, bI_eq0, decide_eq_false_iff_not, decide_eq_true_eq, Decidable.not_not, not_true_eq_false, not_false_eq_true, Nat.not_lt, Nat.not_le, Bool.not_eq_false, Bool.not_eq_true] at c_81
          refine V.iconst (v := (nI 0)) dR_isBefore_88 (by decide) ?_
          refine V.ireturn dR_isBefore_89 rfl rfl ?_
          first | (rw [s_ltb_of (b := true) ((s_lt_end he (by omega) (by omega) (by omega)).trans ⟨fun _ => rfl, fun _ => by omega⟩)] at hQ; exact hQ) | (rw [s_ltb_of (b := false) ((s_lt_end he (by omega) (by omega) (by omega)).trans ⟨fun z => by omega, fun z => by (cases z)⟩)] at hQ; exact hQ)
        · try simp (disch := omega) only [nI_ltI, nI_leI, nI_eq, zz_lt0, zz_ge0, zz_gt0, zz_le0, zz_eq0, zz_m1lt, zz_m1ge, zz_m1eq, bI_eq0, decide_eq_false_iff_not, decide_eq_true_eq, Decidable.not_not, not_true_eq_false, not_false_eq_true, Nat.not_lt, Nat.not_le, Bool.not_eq_false, Bool.not_eq_true] at c_81
          refine V.iconst (v := (nI 1)) dR_isBefore_84 (by decide) ?_
          refine V.goto (tgt := 89) dR_isBefore_85 (by decide) ?_
          refine V.ireturn dR_isBefore_89 rfl rfl ?_
          first | (rw [s_ltb_of (b := true) ((s_lt_end he (by omega) (by omega) (by omega)).trans ⟨fun _ => rfl, fun _ => by omega⟩)] at hQ; exact hQ) | (rw [s_ltb_of (b := false) ((s_lt_end he (by omega) (by omega) (by omega)).trans ⟨fun z => by omega, fun z => by (cases z)⟩)] at hQ; exact hQ)
      · try simp (disch := omega) only [nI_ltI, nI_leI, nI_eq, zz_lt0, zz_ge0, zz_gt0, zz_le0, zz_eq0, zz_m1lt, zz_m1ge, zz_m1eq, bI_eq0, decide_eq_false_iff_not, decide_eq_true_eq, Decidable.not_not, not_true_eq_false, not_false_eq_true, Nat.not_lt, Nat.not_le, Bool.not_eq_false, Bool.not_eq_true] at c_9
        refine V.iload_n dR_isBefore_12 rfl ?_
        first | refine V.aload_n dR_isBefore_13 rfl ?_ | refine V.aload_nN dR_isBefore_13 rfl ?_
        refine V.getk dR_isBefore_14 (by omega) (by assumption) f_R_22_4 (by assumption) ?_
        refine V.iload_n dR_isBefore_17 rfl ?_
        refine V.ialoadN dR_isBefore_18 (by omega) (by assumption) (by omega) (hns b hb) ?_
        refine V.icmp_ge (tgt := 69) dR_isBefore_19 (by decide) (fun c_19 => ?_) (fun c_19 => ?_)
        · try simp (disch := omega) only [nI_ltI, nI_leI, nI_eq, zz_lt0, zz_ge0, zz_gt0, zz_le0, zz_eq0, zz_m1lt, zz_m1ge, zz_m1eq, bI_eq0, decide_eq_false_iff_not, decide_eq_true_eq, Decidable.not_not, not_true_eq_false, not_false_eq_true, Nat.not_lt, Nat.not_le, Bool.not_eq_false, Bool.not_eq_true] at c_19
          first | refine V.aload_n dR_isBefore_69 rfl ?_ | refine V.aload_nN dR_isBefore_69 rfl ?_
          refine V.getk dR_isBefore_70 (by omega) (by assumption) f_R_22_4 (by assumption) ?_
          refine V.iload_n dR_isBefore_73 rfl ?_
          refine V.ialoadN dR_isBefore_74 (by omega) (by assumption) (by omega) (hns a ha) ?_
          first | refine V.aload_n dR_isBefore_75 rfl ?_ | refine V.aload_nN dR_isBefore_75 rfl ?_
          refine V.getk dR_isBefore_76 (by omega) (by assumption) f_R_22_4 (by assumption) ?_
          refine V.iload_n dR_isBefore_79 rfl ?_
          refine V.ialoadN dR_isBefore_80 (by omega) (by assumption) (by omega) (hns b hb) ?_
          refine V.icmp_ge (tgt := 88) dR_isBefore_81 (by decide) (fun c_81 => ?_) (fun c_81 => ?_)
          · try simp (disch := omega) only [nI_ltI, nI_leI, nI_eq, zz_lt0, zz_ge0, zz_gt0, zz_le0, zz_eq0, zz_m1lt, zz_m1ge, zz_m1eq, bI_eq0, decide_eq_false_iff_not, decide_eq_true_eq, Decidable.not_not, not_true_eq_false, not_false_eq_true, Nat.not_lt, Nat.not_le, Bool.not_eq_false, Bool.not_eq_true] at c_81
            refine V.iconst (v := (nI 0)) dR_isBefore_88 (by decide) ?_
            refine V.ireturn dR_isBefore_89 rfl rfl ?_
            first | (rw [s_ltb_of (b := true) ((s_lt_end he (by omega) (by omega) (by omega)).trans ⟨fun _ => rfl, fun _ => by omega⟩)] at hQ; exact hQ) | (rw [s_ltb_of (b := false) ((s_lt_end he (by omega) (by omega) (by omega)).trans ⟨fun z => by omega, fun z => by (cases z)⟩)] at hQ; exact hQ)
          · try simp (disch := omega) only [nI_ltI, nI_leI, nI_eq, zz_lt0, zz_ge0, zz_gt0, zz_le0, zz_eq0, zz_m1lt, zz_m1ge, zz_m1eq, bI_eq0, decide_eq_false_iff_not, decide_eq_true_eq, Decidable.not_not, not_true_eq_false, not_false_eq_true, Nat.not_lt, Nat.not_le, Bool.not_eq_false, Bool.not_eq_true] at c_81
            refine V.iconst (v := (nI 1)) dR_isBefore_84 (by decide) ?_
            refine V.goto (tgt := 89) dR_isBefore_85 (by decide) ?_
            refine V.ireturn dR_isBefore_89 rfl rfl ?_
            first | (rw [s_ltb_of (b := true) ((s_lt_end he (by omega) (by omega) (by omega)).trans ⟨fun _ => rfl, fun _ => by omega⟩)] at hQ; exact hQ) | (rw [s_ltb_of (b := false) ((s_lt_end he (by omega) (by omega) (by omega)).trans ⟨fun z => by omega, fun z => by (cases z)⟩)] at hQ; exact hQ)
        · try simp (disch := omega) only [nI_ltI, nI_leI, nI_eq, zz_lt0, zz_ge0, zz_gt0, zz_le0, zz_eq0, zz_m1lt, zz_m1ge, zz_m1eq, bI_eq0, decide_eq_false_iff_not, decide_eq_true_eq, Decidable.not_not, not_true_eq_false, not_false_eq_true, Nat.not_lt, Nat.not_le, Bool.not_eq_false, Bool.not_eq_true] at c_19
          have hq1 := hnm2 a k ha (by omega)
          have hq2 := hnm2 b k hb (by omega)
          first | refine V.aload_n dR_isBefore_22 rfl ?_ | refine V.aload_nN dR_isBefore_22 rfl ?_
          refine V.getk dR_isBefore_23 (by omega) (by assumption) f_R_25_4 (by assumption) ?_
          refine V.bipush (v := (nI 60)) dR_isBefore_26 (by decide) ?_
          refine V.iload_n dR_isBefore_28 rfl ?_
          refine V.imulN dR_isBefore_29 ?_
          refine V.iload_n dR_isBefore_30 rfl ?_
          refine V.iaddN dR_isBefore_31 ?_
          refine V.ialoadN dR_isBefore_32 (by omega) (by assumption) (by omega) (hnm a k ha (by omega)) ?_
          first | refine V.aload_n dR_isBefore_33 rfl ?_ | refine V.aload_nN dR_isBefore_33 rfl ?_
          refine V.getk dR_isBefore_34 (by omega) (by assumption) f_R_25_4 (by assumption) ?_
          refine V.bipush (v := (nI 60)) dR_isBefore_37 (by decide) ?_
          refine V.iload_n dR_isBefore_39 rfl ?_
          refine V.imulN dR_isBefore_40 ?_
          refine V.iload_n dR_isBefore_41 rfl ?_
          refine V.iaddN dR_isBefore_42 ?_
          refine V.ialoadN dR_isBefore_43 (by omega) (by assumption) (by omega) (hnm b k hb (by omega)) ?_
          refine V.isub dR_isBefore_44 ?_
          refine V.istore dR_isBefore_45 (by decide) ?_
          refine V.iload dR_isBefore_47 rfl ?_
          refine V.if_eq (tgt := 63) dR_isBefore_49 (by decide) (fun c_49 => ?_) (fun c_49 => ?_)
          · try simp (disch := omega) only [zs_eq0, zs_ge0, Nat.not_le] at c_49
            refine V.iincN dR_isBefore_63 rfl (by decide) ?_
            refine V.goto (tgt := 2) dR_isBefore_66 (by decide) ?_
            exact V.re [3, 0, 1, 2] rfl (ih (k + 1) (by omega) (by omega) (by omega) (fun j hj => (Nat.lt_or_ge j k).elim (he j) (fun z => by (rw [show j = k by omega]; exact c_49))))
          · try simp (disch := omega) only [zs_eq0, zs_ge0, Nat.not_le] at c_49
            refine V.iload dR_isBefore_52 rfl ?_
            refine V.if_ge (tgt := 61) dR_isBefore_54 (by decide) (fun c_54 => ?_) (fun c_54 => ?_)
            · try simp (disch := omega) only [zs_eq0, zs_ge0, Nat.not_le] at c_54
              refine V.iconst (v := (nI 0)) dR_isBefore_61 (by decide) ?_
              refine V.ireturn dR_isBefore_62 rfl rfl ?_
              first | (rw [s_ltb_of (b := true) ((s_lt_at he (by omega) (by omega) c_49).trans ⟨fun _ => rfl, fun _ => by omega⟩)] at hQ; exact hQ) | (rw [s_ltb_of (b := false) ((s_lt_at he (by omega) (by omega) c_49).trans ⟨fun z => by omega, fun z => by (cases z)⟩)] at hQ; exact hQ)
            · try simp (disch := omega) only [zs_eq0, zs_ge0, Nat.not_le] at c_54
              refine V.iconst (v := (nI 1)) dR_isBefore_57 (by decide) ?_
              refine V.goto (tgt := 62) dR_isBefore_58 (by decide) ?_
              refine V.ireturn dR_isBefore_62 rfl rfl ?_
              first | (rw [s_ltb_of (b := true) ((s_lt_at he (by omega) (by omega) c_49).trans ⟨fun _ => rfl, fun _ => by omega⟩)] at hQ; exact hQ) | (rw [s_ltb_of (b := false) ((s_lt_at he (by omega) (by omega) c_49).trans ⟨fun z => by omega, fun z => by (cases z)⟩)] at hQ; exact hQ)
  refine V.iconst (v := (nI 0)) dR_isBefore_0 (by decide) ?_
  refine V.istore_n dR_isBefore_1 (by decide) ?_
  exact loop 100 0 (by omega) (by omega) (by omega) (fun j hj => by omega)
set_option maxHeartbeats 4000000 in
set_option maxRecDepth 100000 in
/-- PathTreeModel.many -/
theorem kR_many {G : GG} {h : HH} {o : Nat} {Q : Option Value → HH → Prop} {T : TT} {w : Nat} (hS : RS G h o) (hT : RT h o T) (hw : w < 3) (hQ : Q (some (.int (nI (s_cnt (fun e => decide (T.1 e = w)) 300)))) h) : V G mR_many 0 (lv_args 0 [.ref o, .int (nI w)]) [] h 0 0 Q := by
  obtain ⟨hz, hk0, hk1, hk2, hk3, hk4, hk5, hk6, hk7, hk8, hf0, hf2, hf3, hf4, hf5, hf6, hf12, hf13⟩ := id hS
  obtain ⟨hkd, hkd2, hin, hin2, hns, hns2, hnm, hnm2⟩ := id hT
  have loop : ∀ r e, e + r = 300 → V G mR_many 4 [(3, .int (nI e)), (2, .int (nI (s_cnt (fun e => decide (T.1 e = w)) e))), (0, .ref o), (1, .int (nI w))] [] h 0 0 Q := by
    intro r
    induction r with
    | zero =>
      intro e hr
      refine V.iload_n dR_many_4 rfl ?_
      refine V.sipush (v := (nI 300)) dR_many_5 (by decide) ?_
      refine V.icmp_ge (tgt := 35) dR_many_8 (by decide) (fun c_8 => ?_) (fun c_8 => ?_)
      · try simp (disch := omega) only [nI_ltI, nI_leI, nI_eq, zz_lt0, zz_ge0, zz_gt0, zz_le0, zz_eq0, zz_m1lt, zz_m1ge, zz_m1eq, bI_eq0, decide_eq_false_iff_not, decide_eq_true_eq, Decidable.not_not, not_true_eq_false, not_false_eq_true, Nat.not_lt, Nat.not_le, Bool.not_eq_false, Bool.not_eq_true] at c_8
        refine V.iload_n dR_many_35 rfl ?_
        refine V.ireturn dR_many_36 rfl rfl ?_
        rw [show 300 = e by omega] at hQ; exact hQ
      · try simp (disch := omega) only [nI_ltI, nI_leI, nI_eq, zz_lt0, zz_ge0, zz_gt0, zz_le0, zz_eq0, zz_m1lt, zz_m1ge, zz_m1eq, bI_eq0, decide_eq_false_iff_not, decide_eq_true_eq, Decidable.not_not, not_true_eq_false, not_false_eq_true, Nat.not_lt, Nat.not_le, Bool.not_eq_false, Bool.not_eq_true] at c_8
        all_goals omega
    | succ r ih =>
      intro e hr
      have hkd2e := hkd2 e (by omega)
      refine V.iload_n dR_many_4 rfl ?_
      refine V.sipush (v := (nI 300)) dR_many_5 (by decide) ?_
      refine V.icmp_ge (tgt := 35) dR_many_8 (by decide) (fun c_8 => ?_) (fun c_8 => ?_)
      · try simp (disch := omega) only [nI_ltI, nI_leI, nI_eq, zz_lt0, zz_ge0, zz_gt0, zz_le0, zz_eq0, zz_m1lt, zz_m1ge, zz_m1eq, bI_eq0, decide_eq_false_iff_not, decide_eq_true_eq, Decidable.not_not, not_true_eq_false, not_false_eq_true, Nat.not_lt, Nat.not_le, Bool.not_eq_false, Bool.not_eq_true] at c_8
        all_goals omega
      · try simp (disch := omega) only [nI_ltI, nI_leI, nI_eq, zz_lt0, zz_ge0, zz_gt0, zz_le0, zz_eq0, zz_m1lt, zz_m1ge, zz_m1eq, bI_eq0, decide_eq_false_iff_not, decide_eq_true_eq, Decidable.not_not, not_true_eq_false, not_false_eq_true, Nat.not_lt, Nat.not_le, Bool.not_eq_false, Bool.not_eq_true] at c_8
        refine V.iload_n dR_many_11 rfl ?_
        first | refine V.aload_n dR_many_12 rfl ?_ | refine V.aload_nN dR_many_12 rfl ?_
        refine V.getk dR_many_13 (by omega) (by assumption) f_R_13_4 (by assumption) ?_
        refine V.iload_n dR_many_16 rfl ?_
        refine V.ialoadN dR_many_17 (by omega) (by assumption) (by omega) (hkd e (by omega)) ?_
        refine V.iload_n dR_many_18 rfl ?_
        refine V.icmp_ne (tgt := 26) dR_many_19 (by decide) (fun c_19 => ?_) (fun c_19 => ?_)
        · try simp (disch := omega) only [nI_ltI, nI_leI, nI_eq, zz_lt0, zz_ge0, zz_gt0, zz_le0, zz_eq0, zz_m1lt, zz_m1ge, zz_m1eq, bI_eq0, decide_eq_false_iff_not, decide_eq_true_eq, Decidable.not_not, not_true_eq_false, not_false_eq_true, Nat.not_lt, Nat.not_le, Bool.not_eq_false, Bool.not_eq_true] at c_19
          refine V.iconst (v := (nI 0)) dR_many_26 (by decide) ?_
          refine V.iaddN dR_many_27 ?_
          refine V.istore_n dR_many_28 (by decide) ?_
          refine V.iincN dR_many_29 rfl (by decide) ?_
          refine V.goto (tgt := 4) dR_many_32 (by decide) ?_
          first | exact V.re [3, 2, 0, 1] rfl (by rw [← s_cnt_t (f := (fun e => decide (T.1 e = w))) (decide_eq_true (by omega))]; exact ih (e + 1) (by omega)) | exact V.re [3, 2, 0, 1] rfl (by rw [← s_cnt_f (f := (fun e => decide (T.1 e = w))) (decide_eq_false (by omega))]; exact ih (e + 1) (by omega))
        · try simp (disch := omega) only [nI_ltI, nI_leI, nI_eq, zz_lt0, zz_ge0, zz_gt0, zz_le0, zz_eq0, zz_m1lt, zz_m1ge, zz_m1eq, bI_eq0, decide_eq_false_iff_not, decide_eq_true_eq, Decidable.not_not, not_true_eq_false, not_false_eq_true, Nat.not_lt, Nat.not_le, Bool.not_eq_false, Bool.not_eq_true] at c_19
          refine V.iconst (v := (nI 1)) dR_many_22 (by decide) ?_
          refine V.goto (tgt := 27) dR_many_23 (by decide) ?_
          refine V.iaddN dR_many_27 ?_
          refine V.istore_n dR_many_28 (by decide) ?_
          refine V.iincN dR_many_29 rfl (by decide) ?_
          refine V.goto (tgt := 4) dR_many_32 (by decide) ?_
          first | exact V.re [3, 2, 0, 1] rfl (by rw [← s_cnt_t (f := (fun e => decide (T.1 e = w))) (decide_eq_true (by omega))]; exact ih (e + 1) (by omega)) | exact V.re [3, 2, 0, 1] rfl (by rw [← s_cnt_f (f := (fun e => decide (T.1 e = w))) (decide_eq_false (by omega))]; exact ih (e + 1) (by omega))
  refine V.iconst (v := (nI 0)) dR_many_0 (by decide) ?_
  refine V.istore_n dR_many_1 (by decide) ?_
  refine V.iconst (v := (nI 0)) dR_many_2 (by decide) ?_
  refine V.istore_n dR_many_3 (by decide) ?_
  exact loop 300 0 (by omega)
set_option maxHeartbeats 4000000 in
set_option maxRecDepth 100000 in
/-- PathTreeModel.atHand -/
theorem kR_atHand {G : GG} {h : HH} {o : Nat} {Q : Option Value → HH → Prop} {T : TT} {hand : Nat} (hS : RS G h o) (hT : RT h o T) (hH : h.2.1 o 8 = .int (nI hand) ∧ hand < 300) (hQ : Q (some (.int (nI (s_cnt (fun e => decide (1 ≤ e ∧ T.1 e ≠ 0 ∧ T.2.1 e = hand)) 300)))) h) : V G mR_atHand 0 (lv_args 0 [.ref o]) [] h 0 0 Q := by
  obtain ⟨hz, hk0, hk1, hk2, hk3, hk4, hk5, hk6, hk7, hk8, hf0, hf2, hf3, hf4, hf5, hf6, hf12, hf13⟩ := id hS
  obtain ⟨hkd, hkd2, hin, hin2, hns, hns2, hnm, hnm2⟩ := id hT
  have hhand : h.2.1 o 8 = .int (nI hand) := hH.1
  have hhl : hand < 300 := hH.2
  have loop : ∀ r e, e + r = 300 → 1 ≤ e → V G mR_atHand 4 [(2, .int (nI e)), (1, .int (nI (s_cnt (fun e => decide (1 ≤ e ∧ T.1 e ≠ 0 ∧ T.2.1 e = hand)) e))), (0, .ref o)] [] h 0 0 Q := by
    intro r
    induction r with
    | zero =>
      intro e hr h1
      refine V.iload_n dR_atHand_4 rfl ?_
      refine V.sipush (v := (nI 300)) dR_atHand_5 (by decide) ?_
      refine V.icmp_ge (tgt := 47) dR_atHand_8 (by decide) (fun c_8 => ?_) (fun c_8 => ?_)
      · try simp (disch := omega) only [nI_ltI, nI_leI, nI_eq, zz_lt0, zz_ge0, zz_gt0, zz_le0, zz_eq0, zz_m1lt, zz_m1ge, zz_m1eq, bI_eq0, decide_eq_false_iff_not, decide_eq_true_eq, Decidable.not_not, not_true_eq_false, not_false_eq_true, Nat.not_lt, Nat.not_le, Bool.not_eq_false, Bool.not_eq_true] at c_8
        refine V.iload_n dR_atHand_47 rfl ?_
        refine V.ireturn dR_atHand_48 rfl rfl ?_
        rw [show 300 = e by omega] at hQ; exact hQ
      · try simp (disch := omega) only [nI_ltI, nI_leI, nI_eq, zz_lt0, zz_ge0, zz_gt0, zz_le0, zz_eq0, zz_m1lt, zz_m1ge, zz_m1eq, bI_eq0, decide_eq_false_iff_not, decide_eq_true_eq, Decidable.not_not, not_true_eq_false, not_false_eq_true, Nat.not_lt, Nat.not_le, Bool.not_eq_false, Bool.not_eq_true] at c_8
        all_goals omega
    | succ r ih =>
      intro e hr h1
      have hkd2e := hkd2 e (by omega)
      have hin2e := hin2 e (by omega)
      refine V.iload_n dR_atHand_4 rfl ?_
      refine V.sipush (v := (nI 300)) dR_atHand_5 (by decide) ?_
      refine V.icmp_ge (tgt := 47) dR_atHand_8 (by decide) (fun c_8 => ?_) (fun c_8 => ?_)
      · try simp (disch := omega) only [nI_ltI, nI_leI, nI_eq, zz_lt0, zz_ge0, zz_gt0, zz_le0, zz_eq0, zz_m1lt, zz_m1ge, zz_m1eq, bI_eq0, decide_eq_false_iff_not, decide_eq_true_eq, Decidable.not_not, not_true_eq_false, not_false_eq_true, Nat.not_lt, Nat.not_le, Bool.not_eq_false, Bool.not_eq_true] at c_8
        all_goals omega
      · try simp (disch := omega) only [nI_ltI, nI_leI, nI_eq, zz_lt0, zz_ge0, zz_gt0, zz_le0, zz_eq0, zz_m1lt, zz_m1ge, zz_m1eq, bI_eq0, decide_eq_false_iff_not, decide_eq_true_eq, Decidable.not_not, not_true_eq_false, not_false_eq_true, Nat.not_lt, Nat.not_le, Bool.not_eq_false, Bool.not_eq_true] at c_8
        refine V.iload_n dR_atHand_11 rfl ?_
        first | refine V.aload_n dR_atHand_12 rfl ?_ | refine V.aload_nN dR_atHand_12 rfl ?_
        refine V.getk dR_atHand_13 (by omega) (by assumption) f_R_13_4 (by assumption) ?_
        refine V.iload_n dR_atHand_16 rfl ?_
        refine V.ialoadN dR_atHand_17 (by omega) (by assumption) (by omega) (hkd e (by omega)) ?_
        refine V.if_eq (tgt := 38) dR_atHand_18 (by decide) (fun c_18 => ?_) (fun c_18 => ?_)
        · try simp (disch := omega) only [nI_ltI, nI_leI, nI_eq, zz_lt0, zz_ge0, zz_gt0, zz_le0, zz_eq0, zz_m1lt, zz_m1ge, zz_m1eq, bI_eq0, decide_eq_false_iff_not, decide_eq_true_eq, Decidable.not_not, not_true_eq_false, not_false_eq_true, Nat.not_lt, Nat.not_le, Bool.not_eq_false, Bool.not_eq_true] at c_18
          refine V.iconst (v := (nI 0)) dR_atHand_38 (by decide) ?_
          refine V.iaddN dR_atHand_39 ?_
          refine V.istore_n dR_atHand_40 (by decide) ?_
          refine V.iincN dR_atHand_41 rfl (by decide) ?_
          refine V.goto (tgt := 4) dR_atHand_44 (by decide) ?_
          first | exact V.re [2, 1, 0] rfl (by rw [← s_cnt_t (f := (fun e => decide (1 ≤ e ∧ T.1 e ≠ 0 ∧ T.2.1 e = hand))) (decide_eq_true (by omega))]; exact ih (e + 1) (by omega) (by omega)) | exact V.re [2, 1, 0] rfl (by rw [← s_cnt_f (f := (fun e => decide (1 ≤ e ∧ T.1 e ≠ 0 ∧ T.2.1 e = hand))) (decide_eq_false (by omega))]; exact ih (e + 1) (by omega) (by omega))
        · try simp (disch := omega) only [nI_ltI, nI_leI, nI_eq, zz_lt0, zz_ge0, zz_gt0, zz_le0, zz_eq0, zz_m1lt, zz_m1ge, zz_m1eq, bI_eq0, decide_eq_false_iff_not, decide_eq_true_eq, Decidable.not_not, not_true_eq_false, not_false_eq_true, Nat.not_lt, Nat.not_le, Bool.not_eq_false, Bool.not_eq_true] at c_18
          first | refine V.aload_n dR_atHand_21 rfl ?_ | refine V.aload_nN dR_atHand_21 rfl ?_
          refine V.getk dR_atHand_22 (by omega) (by assumption) f_R_16_4 (by assumption) ?_
          refine V.iload_n dR_atHand_25 rfl ?_
          refine V.ialoadN dR_atHand_26 (by omega) (by assumption) (by omega) (hin e (by omega)) ?_
          first | refine V.aload_n dR_atHand_27 rfl ?_ | refine V.aload_nN dR_atHand_27 rfl ?_
          refine V.getk dR_atHand_28 (by omega) (by assumption) f_R_55_4 (by assumption) ?_
          refine V.icmp_ne (tgt := 38) dR_atHand_31 (by decide) (fun c_31 => ?_) (fun c_31 => ?_)
          · try simp (disch := omega) only [nI_ltI, nI_leI, nI_eq, zz_lt0, zz_ge0, zz_gt0, zz_le0, zz_eq0, zz_m1lt, zz_m1ge, zz_m1eq, bI_eq0, decide_eq_false_iff_not, decide_eq_true_eq, Decidable.not_not, not_true_eq_false, not_false_eq_true, Nat.not_lt, Nat.not_le, Bool.not_eq_false, Bool.not_eq_true] at c_31
            refine V.iconst (v := (nI 0)) dR_atHand_38 (by decide) ?_
            refine V.iaddN dR_atHand_39 ?_
            refine V.istore_n dR_atHand_40 (by decide) ?_
            refine V.iincN dR_atHand_41 rfl (by decide) ?_
            refine V.goto (tgt := 4) dR_atHand_44 (by decide) ?_
            first | exact V.re [2, 1, 0] rfl (by rw [← s_cnt_t (f := (fun e => decide (1 ≤ e ∧ T.1 e ≠ 0 ∧ T.2.1 e = hand))) (decide_eq_true (by omega))]; exact ih (e + 1) (by omega) (by omega)) | exact V.re [2, 1, 0] rfl (by rw [← s_cnt_f (f := (fun e => decide (1 ≤ e ∧ T.1 e ≠ 0 ∧ T.2.1 e = hand))) (decide_eq_false (by omega))]; exact ih (e + 1) (by omega) (by omega))
          · try simp (disch := omega) only [nI_ltI, nI_leI, nI_eq, zz_lt0, zz_ge0, zz_gt0, zz_le0, zz_eq0, zz_m1lt, zz_m1ge, zz_m1eq, bI_eq0, decide_eq_false_iff_not, decide_eq_true_eq, Decidable.not_not, not_true_eq_false, not_false_eq_true, Nat.not_lt, Nat.not_le, Bool.not_eq_false, Bool.not_eq_true] at c_31
            refine V.iconst (v := (nI 1)) dR_atHand_34 (by decide) ?_
            refine V.goto (tgt := 39) dR_atHand_35 (by decide) ?_
            refine V.iaddN dR_atHand_39 ?_
            refine V.istore_n dR_atHand_40 (by decide) ?_
            refine V.iincN dR_atHand_41 rfl (by decide) ?_
            refine V.goto (tgt := 4) dR_atHand_44 (by decide) ?_
            first | exact V.re [2, 1, 0] rfl (by rw [← s_cnt_t (f := (fun e => decide (1 ≤ e ∧ T.1 e ≠ 0 ∧ T.2.1 e = hand))) (decide_eq_true (by omega))]; exact ih (e + 1) (by omega) (by omega)) | exact V.re [2, 1, 0] rfl (by rw [← s_cnt_f (f := (fun e => decide (1 ≤ e ∧ T.1 e ≠ 0 ∧ T.2.1 e = hand))) (decide_eq_false (by omega))]; exact ih (e + 1) (by omega) (by omega))
  refine V.iconst (v := (nI 0)) dR_atHand_0 (by decide) ?_
  refine V.istore_n dR_atHand_1 (by decide) ?_
  refine V.iconst (v := (nI 1)) dR_atHand_2 (by decide) ?_
  refine V.istore_n dR_atHand_3 (by decide) ?_
  have hc1 := s_cnt_one (f := (fun e => decide (1 ≤ e ∧ T.1 e ≠ 0 ∧ T.2.1 e = hand))) (decide_eq_false (by omega))
  have hl := loop 299 1 (by omega) (by omega)
  rw [hc1] at hl
  exact hl
set_option maxHeartbeats 4000000 in
set_option maxRecDepth 100000 in
/-- PathTreeModel.above -/
theorem kR_above {G : GG} {h : HH} {o : Nat} {Q : Option Value → HH → Prop} {T : TT} {hand : Nat} {dp : Nat → Nat} (hS : RS G h o) (hT : RT h o T) (hH : h.2.1 o 8 = .int (nI hand) ∧ hand < 300) (hd0 : dp 0 = 0) (hdp : ∀ e, e < 300 → T.1 e = 2 → e ≠ 0 → T.1 (T.2.1 e) = 2 ∧ dp e = dp (T.2.1 e) + 1) (hhd : T.1 hand = 2) (hbd : dp hand < 2 ^ 20) (hQ : Q (some (.int (nI (dp hand)))) h) : V G mR_above 0 (lv_args 0 [.ref o]) [] h 0 0 Q := by
  obtain ⟨hz, hk0, hk1, hk2, hk3, hk4, hk5, hk6, hk7, hk8, hf0, hf2, hf3, hf4, hf5, hf6, hf12, hf13⟩ := id hS
  obtain ⟨hkd, hkd2, hin, hin2, hns, hns2, hnm, hnm2⟩ := id hT
  have hhand : h.2.1 o 8 = .int (nI hand) := hH.1
  have hhl : hand < 300 := hH.2
  have loop : ∀ m e n, e < 300 → T.1 e = 2 → dp e = m → n + m = dp hand → V G mR_above 7 [(2, .int (nI e)), (1, .int (nI n)), (0, .ref o)] [] h 0 0 Q := by
    intro m
    induction m with
    | zero =>
      intro e n he hk hm hn
      have he0 : e = 0 := (Nat.eq_zero_or_pos e).elim id (fun z => by have := hdp e he hk (by omega); omega)
      refine V.iload_n dR_above_7 rfl ?_
      refine V.if_eq (tgt := 24) dR_above_8 (by decide) (fun c_8 => ?_) (fun c_8 => ?_)
      · try simp (disch := omega) only [nI_ltI, nI_leI, nI_eq, zz_lt0, zz_ge0, zz_gt0, zz_le0, zz_eq0, zz_m1lt, zz_m1ge, zz_m1eq, bI_eq0, decide_eq_false_iff_not, decide_eq_true_eq, Decidable.not_not, not_true_eq_false, not_false_eq_true, Nat.not_lt, Nat.not_le, Bool.not_eq_false, Bool.not_eq_true] at c_8
        refine V.iload_n dR_above_24 rfl ?_
        refine V.ireturn dR_above_25 rfl rfl ?_
        rw [show dp hand = n by omega] at hQ; exact hQ
      · try simp (disch := omega) only [nI_ltI, nI_leI, nI_eq, zz_lt0, zz_ge0, zz_gt0, zz_le0, zz_eq0, zz_m1lt, zz_m1ge, zz_m1eq, bI_eq0, decide_eq_false_iff_not, decide_eq_true_eq, Decidable.not_not, not_true_eq_false, not_false_eq_true, Nat.not_lt, Nat.not_le, Bool.not_eq_false, Bool.not_eq_true] at c_8
        all_goals omega
    | succ m ih =>
      intro e n he hk hm hn
      have he0 : e ≠ 0 := fun z => by (rw [z, hd0] at hm; omega)
      have hd := hdp e he hk he0
      have hi2 := hin2 e he
      refine V.iload_n dR_above_7 rfl ?_
      refine V.if_eq (tgt := 24) dR_above_8 (by decide) (fun c_8 => ?_) (fun c_8 => ?_)
      · try simp (disch := omega) only [nI_ltI, nI_leI, nI_eq, zz_lt0, zz_ge0, zz_gt0, zz_le0, zz_eq0, zz_m1lt, zz_m1ge, zz_m1eq, bI_eq0, decide_eq_false_iff_not, decide_eq_true_eq, Decidable.not_not, not_true_eq_false, not_false_eq_true, Nat.not_lt, Nat.not_le, Bool.not_eq_false, Bool.not_eq_true] at c_8
        all_goals omega
      · try simp (disch := omega) only [nI_ltI, nI_leI, nI_eq, zz_lt0, zz_ge0, zz_gt0, zz_le0, zz_eq0, zz_m1lt, zz_m1ge, zz_m1eq, bI_eq0, decide_eq_false_iff_not, decide_eq_true_eq, Decidable.not_not, not_true_eq_false, not_false_eq_true, Nat.not_lt, Nat.not_le, Bool.not_eq_false, Bool.not_eq_true] at c_8
        refine V.iincN dR_above_11 rfl (by decide) ?_
        first | refine V.aload_n dR_above_14 rfl ?_ | refine V.aload_nN dR_above_14 rfl ?_
        refine V.getk dR_above_15 (by omega) (by assumption) f_R_16_4 (by assumption) ?_
        refine V.iload_n dR_above_18 rfl ?_
        refine V.ialoadN dR_above_19 (by omega) (by assumption) (by omega) (hin e he) ?_
        refine V.istore_n dR_above_20 (by decide) ?_
        refine V.goto (tgt := 7) dR_above_21 (by decide) ?_
        exact V.re [2, 1, 0] rfl (ih (T.2.1 e) (n + 1) hi2 hd.1 (by omega) (by omega))
  refine V.iconst (v := (nI 0)) dR_above_0 (by decide) ?_
  refine V.istore_n dR_above_1 (by decide) ?_
  first | refine V.aload_n dR_above_2 rfl ?_ | refine V.aload_nN dR_above_2 rfl ?_
  refine V.getk dR_above_3 (by omega) (by assumption) f_R_55_4 (by assumption) ?_
  refine V.istore_n dR_above_6 (by decide) ?_
  exact loop (dp hand) hand 0 hhl hhd rfl (by omega)
