/-- a PathTreeModel at o, its arrays behind it -/
def RS (G : GG) (h : HH) (o : Nat) : Prop :=
  (g_0 G ≤ o ∧ o + 9 ≤ h.2.2) ∧ (h.1 o).1 = 4 ∧ h.1 (o + 1) = (104, 250) ∧ h.1 (o + 2) = (104, 300) ∧ h.1 (o + 3) = (104, 300) ∧ h.1 (o + 4) = (104, 300) ∧ h.1 (o + 5) = (104, 300) ∧ h.1 (o + 6) = (104, 18000) ∧ h.1 (o + 7) = (102, 65536) ∧ h.1 (o + 8) = (103, 65536) ∧
  h.2.1 o 0 = .ref (o + 1) ∧ h.2.1 o 2 = .ref (o + 2) ∧ h.2.1 o 3 = .ref (o + 3) ∧ h.2.1 o 4 = .ref (o + 4) ∧ h.2.1 o 5 = .ref (o + 5) ∧ h.2.1 o 6 = .ref (o + 6) ∧ h.2.1 o 12 = .ref (o + 7) ∧ h.2.1 o 13 = .ref (o + 8)
/-- its path -/
def RP (h : HH) (o : Nat) (p : Nat → Nat) (len : Nat) : Prop := h.2.1 o 1 = .int (nI len) ∧ (∀ j, j < len → h.2.1 (o + 1) j = .int (nI (p j))) ∧ len ≤ 250 ∧ ∀ j, j < len → p j < 256
/-- its tree -/
def RT (h : HH) (o : Nat) (T : TT) : Prop := (∀ e, e < 300 → h.2.1 (o + 2) e = .int (nI (T.1 e))) ∧ (∀ e, e < 300 → T.1 e ≤ 2) ∧ (∀ e, e < 300 → h.2.1 (o + 3) e = .int (nI (T.2.1 e))) ∧ (∀ e, e < 300 → T.2.1 e < 300) ∧
  (∀ e, e < 300 → h.2.1 (o + 5) e = .int (nI (T.2.2.1 e))) ∧ (∀ e, e < 300 → T.2.2.1 e ≤ 60) ∧ (∀ e k, e < 300 → k < T.2.2.1 e → h.2.1 (o + 6) (60 * e + k) = .int (nI (T.2.2.2 e k))) ∧ ∀ e k, e < 300 → k < T.2.2.1 e → T.2.2.2 e k < 256
theorem oI_none : oI none = -1 := rfl
theorem oI_some {e : Nat} : oI (some e) = nI e := rfl
theorem dots_t {p : Nat → Nat} {a b n k : Nat} {isv : Bool} (hk : a ≤ k) (hD : isv = true ↔ (b - a = n ∧ ∀ j, j < k - a → p (a + j) = 46)) (h1 : isv = true) (h2 : p k = 46) : true = true ↔ (b - a = n ∧ ∀ j, j < k + 1 - a → p (a + j) = 46) := by
  refine ⟨fun _ => ⟨(hD.mp h1).1, fun j hj => ?_⟩, fun _ => rfl⟩
  by_cases z : j < k - a
  · exact (hD.mp h1).2 j z
  · rw [show a + j = k by omega]; exact h2
theorem dots_f {p : Nat → Nat} {a b n k : Nat} {isv : Bool} (hk : a ≤ k) (hD : isv = true ↔ (b - a = n ∧ ∀ j, j < k - a → p (a + j) = 46)) (h1 : isv = false ∨ ¬ p k = 46) : false = true ↔ (b - a = n ∧ ∀ j, j < k + 1 - a → p (a + j) = 46) := by
  refine ⟨fun z => by (cases z), fun z => ?_⟩
  rcases h1 with h1 | h1
  · rw [hD.mpr ⟨z.1, fun j hj => z.2 j (by omega)⟩] at h1; cases h1
  · have z2 := z.2 (k - a) (by omega)
    rw [show a + (k - a) = k by omega] at z2
    exact absurd z2 h1
set_option maxHeartbeats 4000000 in
set_option maxRecDepth 100000 in
/-- PathTreeModel.last -/
theorem kR_last {G : GG} {h : HH} {o : Nat} {p : Nat → Nat} {len : Nat} {Q : Option Value → HH → Prop} (hS : RS G h o) (hP : RP h o p len) (hQ : Q (some (.int (nI (s_last p len)))) h) : V G mR_last 0 (lv_args 0 [.ref o]) [] h 0 0 Q := by
  obtain ⟨hz, hk0, hk1, hk2, hk3, hk4, hk5, hk6, hk7, hk8, hf0, hf2, hf3, hf4, hf5, hf6, hf12, hf13⟩ := id hS
  obtain ⟨hln, hpp, hl2, hp⟩ := id hP
  have loop : ∀ m, m ≤ len → s_last p m = s_last p len → V G mR_last 5 [(1, .int (nI m)), (0, .ref o)] [] h 0 0 Q := by
    intro m
    induction m with
    | zero =>
      intro hm hs
      refine V.iload_n dR_last_5 rfl ?_
      refine V.if_le (tgt := 28) dR_last_6 (by decide) (fun c_6 => ?_) (fun c_6 => ?_)
      · try simp (disch := omega) only [nI_ltI, nI_leI, nI_eq, zz_lt0, zz_ge0, zz_gt0, zz_le0, zz_eq0, zz_m1lt, zz_m1ge, zz_m1eq, bI_eq0, decide_eq_false_iff_not, decide_eq_true_eq, Decidable.not_not, not_true_eq_false, not_false_eq_true, Nat.not_lt, Nat.not_le, Bool.not_eq_false, Bool.not_eq_true] at c_6
        refine V.iload_n dR_last_28 rfl ?_
        refine V.ireturn dR_last_29 rfl rfl ?_
        rw [← hs] at hQ; exact hQ
      · try simp (disch := omega) only [nI_ltI, nI_leI, nI_eq, zz_lt0, zz_ge0, zz_gt0, zz_le0, zz_eq0, zz_m1lt, zz_m1ge, zz_m1eq, bI_eq0, decide_eq_false_iff_not, decide_eq_true_eq, Decidable.not_not, not_true_eq_false, not_false_eq_true, Nat.not_lt, Nat.not_le, Bool.not_eq_false, Bool.not_eq_true] at c_6
        all_goals omega
    | succ m ih =>
      intro hm hs
      refine V.iload_n dR_last_5 rfl ?_
      refine V.if_le (tgt := 28) dR_last_6 (by decide) (fun c_6 => ?_) (fun c_6 => ?_)
      · try simp (disch := omega) only [nI_ltI, nI_leI, nI_eq, zz_lt0, zz_ge0, zz_gt0, zz_le0, zz_eq0, zz_m1lt, zz_m1ge, zz_m1eq, bI_eq0, decide_eq_false_iff_not, decide_eq_true_eq, Decidable.not_not, not_true_eq_false, not_false_eq_true, Nat.not_lt, Nat.not_le, Bool.not_eq_false, Bool.not_eq_true] at c_6
        all_goals omega
      · try simp (disch := omega) only [nI_ltI, nI_leI, nI_eq, zz_lt0, zz_ge0, zz_gt0, zz_le0, zz_eq0, zz_m1lt, zz_m1ge, zz_m1eq, bI_eq0, decide_eq_false_iff_not, decide_eq_true_eq, Decidable.not_not, not_true_eq_false, not_false_eq_true, Nat.not_lt, Nat.not_le, Bool.not_eq_false, Bool.not_eq_true] at c_6
        first | refine V.aload_n dR_last_9 rfl ?_ | refine V.aload_nN dR_last_9 rfl ?_
        refine V.getk dR_last_10 (by omega) (by assumption) f_R_7_4 (by assumption) ?_
        refine V.iload_n dR_last_13 rfl ?_
        refine V.iconst (v := (nI 1)) dR_last_14 (by decide) ?_
        refine V.isubN dR_last_15 (by omega) ?_
        have hpm := hp m (by omega)
        refine V.ialoadN dR_last_16 (by omega) (by assumption) (by omega) (hpp m (by omega)) ?_
        refine V.bipush (v := (nI 47)) dR_last_17 (by decide) ?_
        refine V.icmp_eq (tgt := 28) dR_last_19 (by decide) (fun c_19 => ?_) (fun c_19 => ?_)
        · try simp (disch := omega) only [nI_ltI, nI_leI, nI_eq, zz_lt0, zz_ge0, zz_gt0, zz_le0, zz_eq0, zz_m1lt, zz_m1ge, zz_m1eq, bI_eq0, decide_eq_false_iff_not, decide_eq_true_eq, Decidable.not_not, not_true_eq_false, not_false_eq_true, Nat.not_lt, Nat.not_le, Bool.not_eq_false, Bool.not_eq_true] at c_19
          refine V.iload_n dR_last_28 rfl ?_
          refine V.ireturn dR_last_29 rfl rfl ?_
          rw [← hs] at hQ; simp only [s_last] at hQ; rw [if_pos (by omega)] at hQ; exact hQ
        · try simp (disch := omega) only [nI_ltI, nI_leI, nI_eq, zz_lt0, zz_ge0, zz_gt0, zz_le0, zz_eq0, zz_m1lt, zz_m1ge, zz_m1eq, bI_eq0, decide_eq_false_iff_not, decide_eq_true_eq, Decidable.not_not, not_true_eq_false, not_false_eq_true, Nat.not_lt, Nat.not_le, Bool.not_eq_false, Bool.not_eq_true] at c_19
          refine V.iincM dR_last_22 rfl (by decide) ?_
          refine V.goto (tgt := 5) dR_last_25 (by decide) ?_
          exact ih (by omega) (by rw [← hs]; simp only [s_last]; rw [if_neg (by omega)])
  first | refine V.aload_n dR_last_0 rfl ?_ | refine V.aload_nN dR_last_0 rfl ?_
  refine V.getk dR_last_1 (by omega) (by assumption) f_R_44_4 (by assumption) ?_
  refine V.istore_n dR_last_4 (by decide) ?_
  exact loop len (Nat.le_refl _) rfl
set_option maxHeartbeats 4000000 in
set_option maxRecDepth 100000 in
/-- PathTreeModel.isDots -/
theorem kR_isDots {G : GG} {h : HH} {o : Nat} {p : Nat → Nat} {len : Nat} {Q : Option Value → HH → Prop} {a b n : Nat} (hS : RS G h o) (hP : RP h o p len) (ha : a ≤ b) (hb : b ≤ len) (hn : n < 10) (hX : ∀ isv : Bool, (isv = true ↔ (b - a = n ∧ ∀ j, j < b - a → p (a + j) = 46)) → Q (some (.int (bI isv))) h) : V G mR_isDots 0 (lv_args 0 [.ref o, .int (nI a), .int (nI b), .int (nI n)]) [] h 0 0 Q := by
  obtain ⟨hz, hk0, hk1, hk2, hk3, hk4, hk5, hk6, hk7, hk8, hf0, hf2, hf3, hf4, hf5, hf6, hf12, hf13⟩ := id hS
  obtain ⟨hln, hpp, hl2, hp⟩ := id hP
  have loop : ∀ r k (isv : Bool), k + r = b → a ≤ k → (isv = true ↔ (b - a = n ∧ ∀ j, j < k - a → p (a + j) = 46)) → V G mR_isDots 17 [(5, .int (nI k)), (4, .int (bI isv)), (0, .ref o), (1, .int (nI a)), (2, .int (nI b)), (3, .int (nI n))] [] h 0 0 Q := by
    intro r
    induction r with
    | zero =>
      intro k isv hr hk hD
      refine V.iload dR_isDots_17 rfl ?_
      refine V.iload_n dR_isDots_19 rfl ?_
      refine V.icmp_ge (tgt := 53) dR_isDots_20 (by decide) (fun c_20 => ?_) (fun c_20 => ?_)
      · try simp (disch := omega) only [nI_ltI, nI_leI, nI_eq, zz_lt0, zz_ge0, zz_gt0, zz_le0, zz_eq0, zz_m1lt, zz_m1ge, zz_m1eq, bI_eq0, decide_eq_false_iff_not, decide_eq_true_eq, Decidable.not_not, not_true_eq_false, not_false_eq_true, Nat.not_lt, Nat.not_le, Bool.not_eq_false, Bool.not_eq_true] at c_20
        refine V.iload dR_isDots_53 rfl ?_
        refine V.ireturn dR_isDots_55 rfl bI_nar ?_
        exact hX isv (hD.trans (by rw [show k = b by omega]))
      · try simp (disch := omega) only [nI_ltI, nI_leI, nI_eq, zz_lt0, zz_ge0, zz_gt0, zz_le0, zz_eq0, zz_m1lt, zz_m1ge, zz_m1eq, bI_eq0, decide_eq_false_iff_not, decide_eq_true_eq, Decidable.not_not, not_true_eq_false, not_false_eq_true, Nat.not_lt, Nat.not_le, Bool.not_eq_false, Bool.not_eq_true] at c_20
        all_goals omega
    | succ r ih =>
      intro k isv hr hk hD
      refine V.iload dR_isDots_17 rfl ?_
      refine V.iload_n dR_isDots_19 rfl ?_
      refine V.icmp_ge (tgt := 53) dR_isDots_20 (by decide) (fun c_20 => ?_) (fun c_20 => ?_)
      · try simp (disch := omega) only [nI_ltI, nI_leI, nI_eq, zz_lt0, zz_ge0, zz_gt0, zz_le0, zz_eq0, zz_m1lt, zz_m1ge, zz_m1eq, bI_eq0, decide_eq_false_iff_not, decide_eq_true_eq, Decidable.not_not, not_true_eq_false, not_false_eq_true, Nat.not_lt, Nat.not_le, Bool.not_eq_false, Bool.not_eq_true] at c_20
        all_goals omega
      · try simp (disch := omega) only [nI_ltI, nI_leI, nI_eq, zz_lt0, zz_ge0, zz_gt0, zz_le0, zz_eq0, zz_m1lt, zz_m1ge, zz_m1eq, bI_eq0, decide_eq_false_iff_not, decide_eq_true_eq, Decidable.not_not, not_true_eq_false, not_false_eq_true, Nat.not_lt, Nat.not_le, Bool.not_eq_false, Bool.not_eq_true] at c_20
        refine V.iload dR_isDots_23 rfl ?_
        refine V.if_eq (tgt := 44) dR_isDots_25 (by decide) (fun c_25 => ?_) (fun c_25 => ?_)
        · try simp (disch := omega) only [nI_ltI, nI_leI, nI_eq, zz_lt0, zz_ge0, zz_gt0, zz_le0, zz_eq0, zz_m1lt, zz_m1ge, zz_m1eq, bI_eq0, decide_eq_false_iff_not, decide_eq_true_eq, Decidable.not_not, not_true_eq_false, not_false_eq_true, Nat.not_lt, Nat.not_le, Bool.not_eq_false, Bool.not_eq_true] at c_25
          refine V.iconst (v := (nI 0)) dR_isDots_44 (by decide) ?_
          refine V.istore dR_isDots_45 (by decide) ?_
          refine V.iincN dR_isDots_47 rfl (by decide) ?_
          refine V.goto (tgt := 17) dR_isDots_50 (by decide) ?_
          first | exact ih (k + 1) true (by omega) (by omega) (dots_t hk hD c_25 c_37) | exact ih (k + 1) false (by omega) (by omega) (dots_f hk hD (Or.inl c_25)) | exact ih (k + 1) false (by omega) (by omega) (dots_f hk hD (Or.inr c_37))
        · try simp (disch := omega) only [nI_ltI, nI_leI, nI_eq, zz_lt0, zz_ge0, zz_gt0, zz_le0, zz_eq0, zz_m1lt, zz_m1ge, zz_m1eq, bI_eq0, decide_eq_false_iff_not, decide_eq_true_eq, Decidable.not_not, not_true_eq_false, not_false_eq_true, Nat.not_lt, Nat.not_le, Bool.not_eq_false, Bool.not_eq_true] at c_25
          first | refine V.aload_n dR_isDots_28 rfl ?_ | refine V.aload_nN dR_isDots_28 rfl ?_
          refine V.getk dR_isDots_29 (by omega) (by assumption) f_R_7_4 (by assumption) ?_
          refine V.iload dR_isDots_32 rfl ?_
          have hpk := hp k (by omega)
          refine V.ialoadN dR_isDots_34 (by omega) (by assumption) (by omega) (hpp k (by omega)) ?_
          refine V.bipush (v := (nI 46)) dR_isDots_35 (by decide) ?_
          refine V.icmp_ne (tgt := 44) dR_isDots_37 (by decide) (fun c_37 => ?_) (fun c_37 => ?_)
          · try simp (disch := omega) only [nI_ltI, nI_leI, nI_eq, zz_lt0, zz_ge0, zz_gt0, zz_le0, zz_eq0, zz_m1lt, zz_m1ge, zz_m1eq, bI_eq0, decide_eq_false_iff_not, decide_eq_true_eq, Decidable.not_not, not_true_eq_false, not_false_eq_true, Nat.not_lt, Nat.not_le, Bool.not_eq_false, Bool.not_eq_true] at c_37
            refine V.iconst (v := (nI 0)) dR_isDots_44 (by decide) ?_
            refine V.istore dR_isDots_45 (by decide) ?_
            refine V.iincN dR_isDots_47 rfl (by decide) ?_
            refine V.goto (tgt := 17) dR_isDots_50 (by decide) ?_
            first | exact ih (k + 1) true (by omega) (by omega) (dots_t hk hD c_25 c_37) | exact ih (k + 1) false (by omega) (by omega) (dots_f hk hD (Or.inl c_25)) | exact ih (k + 1) false (by omega) (by omega) (dots_f hk hD (Or.inr c_37))
          · try simp (disch := omega) only [nI_ltI, nI_leI, nI_eq, zz_lt0, zz_ge0, zz_gt0, zz_le0, zz_eq0, zz_m1lt, zz_m1ge, zz_m1eq, bI_eq0, decide_eq_false_iff_not, decide_eq_true_eq, Decidable.not_not, not_true_eq_false, not_false_eq_true, Nat.not_lt, Nat.not_le, Bool.not_eq_false, Bool.not_eq_true] at c_37
            refine V.iconst (v := (nI 1)) dR_isDots_40 (by decide) ?_
            refine V.goto (tgt := 45) dR_isDots_41 (by decide) ?_
            refine V.istore dR_isDots_45 (by decide) ?_
            refine V.iincN dR_isDots_47 rfl (by decide) ?_
            refine V.goto (tgt := 17) dR_isDots_50 (by decide) ?_
            first | exact ih (k + 1) true (by omega) (by omega) (dots_t hk hD c_25 c_37) | exact ih (k + 1) false (by omega) (by omega) (dots_f hk hD (Or.inl c_25)) | exact ih (k + 1) false (by omega) (by omega) (dots_f hk hD (Or.inr c_37))
  refine V.iload_n dR_isDots_0 rfl ?_
  refine V.iload_n dR_isDots_1 rfl ?_
  refine V.isubN dR_isDots_2 (by omega) ?_
  refine V.iload_n dR_isDots_3 rfl ?_
  refine V.icmp_ne (tgt := 11) dR_isDots_4 (by decide) (fun c_4 => ?_) (fun c_4 => ?_)
  · try simp (disch := omega) only [nI_ltI, nI_leI, nI_eq, zz_lt0, zz_ge0, zz_gt0, zz_le0, zz_eq0, zz_m1lt, zz_m1ge, zz_m1eq, bI_eq0, decide_eq_false_iff_not, decide_eq_true_eq, Decidable.not_not, not_true_eq_false, not_false_eq_true, Nat.not_lt, Nat.not_le, Bool.not_eq_false, Bool.not_eq_true] at c_4
    refine V.iconst (v := (nI 0)) dR_isDots_11 (by decide) ?_
    refine V.istore dR_isDots_12 (by decide) ?_
    refine V.iload_n dR_isDots_14 rfl ?_
    refine V.istore dR_isDots_15 (by decide) ?_
    first | exact loop (b - a) a true (by omega) (by omega) ⟨fun _ => ⟨by omega, fun j hj => by omega⟩, fun _ => rfl⟩ | exact loop (b - a) a false (by omega) (by omega) ⟨fun z => by (cases z), fun z => by omega⟩
  · try simp (disch := omega) only [nI_ltI, nI_leI, nI_eq, zz_lt0, zz_ge0, zz_gt0, zz_le0, zz_eq0, zz_m1lt, zz_m1ge, zz_m1eq, bI_eq0, decide_eq_false_iff_not, decide_eq_true_eq, Decidable.not_not, not_true_eq_false, not_false_eq_true, Nat.not_lt, Nat.not_le, Bool.not_eq_false, Bool.not_eq_true] at c_4
    refine V.iconst (v := (nI 1)) dR_isDots_7 (by decide) ?_
    refine V.goto (tgt := 12) dR_isDots_8 (by decide) ?_
    refine V.istore dR_isDots_12 (by decide) ?_
    refine V.iload_n dR_isDots_14 rfl ?_
    refine V.istore dR_isDots_15 (by decide) ?_
    first | exact loop (b - a) a true (by omega) (by omega) ⟨fun _ => ⟨by omega, fun j hj => by omega⟩, fun _ => rfl⟩ | exact loop (b - a) a false (by omega) (by omega) ⟨fun z => by (cases z), fun z => by omega⟩
set_option maxHeartbeats 4000000 in
set_option maxRecDepth 100000 in
/-- isDots of one -/
theorem kR_isDots1 {G : GG} {h : HH} {o : Nat} {p : Nat → Nat} {len : Nat} {Q : Option Value → HH → Prop} {a b : Nat} (hS : RS G h o) (hP : RP h o p len) (ha : a ≤ b) (hb : b ≤ len) (hQ : Q (some (.int (bI (decide (b - a = 1 ∧ p a = 46))))) h) : V G mR_isDots 0 (lv_args 0 [.ref o, .int (nI a), .int (nI b), .int (nI 1)]) [] h 0 0 Q := by
  refine kR_isDots hS hP ha hb (by decide) (fun isv hv => ?_)
  have e : isv = decide (b - a = 1 ∧ p a = 46) := by
    rw [Bool.eq_iff_iff, hv, decide_eq_true_eq]
    refine ⟨fun z => ⟨z.1, z.2 0 (by omega)⟩, fun z => ⟨z.1, fun j hj => ?_⟩⟩
    rw [show j = 0 by omega]; exact z.2
  rw [e]; exact hQ
set_option maxHeartbeats 4000000 in
set_option maxRecDepth 100000 in
/-- isDots of two -/
theorem kR_isDots2 {G : GG} {h : HH} {o : Nat} {p : Nat → Nat} {len : Nat} {Q : Option Value → HH → Prop} {a b : Nat} (hS : RS G h o) (hP : RP h o p len) (ha : a ≤ b) (hb : b ≤ len) (hQ : Q (some (.int (bI (decide (b - a = 2 ∧ p a = 46 ∧ p (a + 1) = 46))))) h) : V G mR_isDots 0 (lv_args 0 [.ref o, .int (nI a), .int (nI b), .int (nI 2)]) [] h 0 0 Q := by
  refine kR_isDots hS hP ha hb (by decide) (fun isv hv => ?_)
  have e : isv = decide (b - a = 2 ∧ p a = 46 ∧ p (a + 1) = 46) := by
    rw [Bool.eq_iff_iff, hv, decide_eq_true_eq]
    refine ⟨fun z => ⟨z.1, z.2 0 (by omega), z.2 1 (by omega)⟩, fun z => ⟨z.1, fun j hj => ?_⟩⟩
    rcases (show j = 0 ∨ j = 1 by omega) with e | e
    · rw [e]; exact z.2.1
    · rw [e]; exact z.2.2
  rw [e]; exact hQ
