theorem bI_t {P : Prop} [Decidable P] (h : P) : bI (decide P) = nI 1 := by rw [decide_eq_true h]; decide
theorem bI_f {P : Prop} [Decidable P] (h : ¬ P) : bI (decide P) = nI 0 := by rw [decide_eq_false h]; decide
/-- a PathText at t, its characters at t + 1: the path p, of len characters -/
def TX (G : GG) (h : HH) (t : Nat) (p : Nat → Nat) (len : Nat) : Prop :=
  (g_0 G ≤ t ∧ t < h.2.2) ∧ (h.1 t).1 = 1 ∧ h.2.1 t 0 = .ref (t + 1) ∧ h.2.1 t 1 = .int (nI len) ∧ (g_0 G ≤ t + 1 ∧ t + 1 < h.2.2) ∧ h.1 (t + 1) = (101, 250) ∧ (∀ j, j < len → h.2.1 (t + 1) j = .int (nI (p j))) ∧ len ≤ 250 ∧ ∀ j, j < len → p j < 256
set_option maxHeartbeats 4000000 in
set_option maxRecDepth 100000 in
/-- PathText.is -/
theorem k_is {G : GG} {h : HH} {t : Nat} {p : Nat → Nat} {len : Nat} {Q : Option Value → HH → Prop} {k cc : Nat} (hT : TX G h t p len) (hk : k < 2 ^ 31) (hc : cc < 256) (hQ : Q (some (.int (bI (decide (k < len ∧ p k = cc))))) h) : V G mT_is 0 (lv_args 0 [.ref t, .int (nI cc), .int (nI k)]) [] h 0 0 Q := by
  obtain ⟨ht, htk, hca, hln, hcs, hck, hch, hl2, hp⟩ := id hT
  refine V.iload_n dT_is_0 rfl ?_
  refine V.if_lt (tgt := 26) dT_is_1 (by decide) (fun c_1 => ?_) (fun c_1 => ?_)
  · try simp (disch := omega) only [nI_ltI, nI_leI, nI_eq, zz_lt0, zz_ge0, zz_gt0, zz_le0, zz_eq0, zz_m1lt, zz_m1ge, zz_m1eq, bI_eq0, decide_eq_false_iff_not, decide_eq_true_eq, Decidable.not_not, not_true_eq_false, not_false_eq_true, Nat.not_lt, Nat.not_le, Bool.not_eq_false, Bool.not_eq_true] at c_1
    
  · try simp (disch := omega) only [nI_ltI, nI_leI, nI_eq, zz_lt0, zz_ge0, zz_gt0, zz_le0, zz_eq0, zz_m1lt, zz_m1ge, zz_m1eq, bI_eq0, decide_eq_false_iff_not, decide_eq_true_eq, Decidable.not_not, not_true_eq_false, not_false_eq_true, Nat.not_lt, Nat.not_le, Bool.not_eq_false, Bool.not_eq_true] at c_1
    refine V.iload_n dT_is_4 rfl ?_
    first | refine V.aload_n dT_is_5 rfl ?_ | refine V.aload_nN dT_is_5 rfl ?_
    refine V.getk dT_is_6 (by assumption) (by assumption) f_T_13_1 (by assumption) ?_
    refine V.icmp_ge (tgt := 26) dT_is_9 (by decide) (fun c_9 => ?_) (fun c_9 => ?_)
    · try simp (disch := omega) only [nI_ltI, nI_leI, nI_eq, zz_lt0, zz_ge0, zz_gt0, zz_le0, zz_eq0, zz_m1lt, zz_m1ge, zz_m1eq, bI_eq0, decide_eq_false_iff_not, decide_eq_true_eq, Decidable.not_not, not_true_eq_false, not_false_eq_true, Nat.not_lt, Nat.not_le, Bool.not_eq_false, Bool.not_eq_true] at c_9
      refine V.iconst (v := (nI 0)) dT_is_26 (by decide) ?_
      refine V.ireturn dT_is_27 rfl rfl ?_
      first | (rw [bI_t (by omega)] at hQ; exact hQ) | (rw [bI_f (by omega)] at hQ; exact hQ)
    · try simp (disch := omega) only [nI_ltI, nI_leI, nI_eq, zz_lt0, zz_ge0, zz_gt0, zz_le0, zz_eq0, zz_m1lt, zz_m1ge, zz_m1eq, bI_eq0, decide_eq_false_iff_not, decide_eq_true_eq, Decidable.not_not, not_true_eq_false, not_false_eq_true, Nat.not_lt, Nat.not_le, Bool.not_eq_false, Bool.not_eq_true] at c_9
      first | refine V.aload_n dT_is_12 rfl ?_ | refine V.aload_nN dT_is_12 rfl ?_
      refine V.getk dT_is_13 (by assumption) (by assumption) f_T_9_1 (by assumption) ?_
      refine V.iload_n dT_is_16 rfl ?_
      have hpk := hp k (by omega)
      refine V.caloadN dT_is_17 (by assumption) (by assumption) (by omega) (hch k (by omega)) ?_
      refine V.iload_n dT_is_18 rfl ?_
      refine V.icmp_ne (tgt := 26) dT_is_19 (by decide) (fun c_19 => ?_) (fun c_19 => ?_)
      · try simp (disch := omega) only [nI_ltI, nI_leI, nI_eq, zz_lt0, zz_ge0, zz_gt0, zz_le0, zz_eq0, zz_m1lt, zz_m1ge, zz_m1eq, bI_eq0, decide_eq_false_iff_not, decide_eq_true_eq, Decidable.not_not, not_true_eq_false, not_false_eq_true, Nat.not_lt, Nat.not_le, Bool.not_eq_false, Bool.not_eq_true] at c_19
        refine V.iconst (v := (nI 0)) dT_is_26 (by decide) ?_
        refine V.ireturn dT_is_27 rfl rfl ?_
        first | (rw [bI_t (by omega)] at hQ; exact hQ) | (rw [bI_f (by omega)] at hQ; exact hQ)
      · try simp (disch := omega) only [nI_ltI, nI_leI, nI_eq, zz_lt0, zz_ge0, zz_gt0, zz_le0, zz_eq0, zz_m1lt, zz_m1ge, zz_m1eq, bI_eq0, decide_eq_false_iff_not, decide_eq_true_eq, Decidable.not_not, not_true_eq_false, not_false_eq_true, Nat.not_lt, Nat.not_le, Bool.not_eq_false, Bool.not_eq_true] at c_19
        refine V.iconst (v := (nI 1)) dT_is_22 (by decide) ?_
        refine V.goto (tgt := 27) dT_is_23 (by decide) ?_
        refine V.ireturn dT_is_27 rfl rfl ?_
        first | (rw [bI_t (by omega)] at hQ; exact hQ) | (rw [bI_f (by omega)] at hQ; exact hQ)
set_option maxHeartbeats 4000000 in
set_option maxRecDepth 100000 in
/-- PathText.isSlash -/
theorem k_isSlash {G : GG} {h : HH} {t : Nat} {p : Nat → Nat} {len : Nat} {Q : Option Value → HH → Prop} {k : Nat} (hT : TX G h t p len) (hk : k < 2 ^ 31) (hQ : Q (some (.int (bI (decide (k < len ∧ p k = 47))))) h) : V G mT_isSlash 0 (lv_args 0 [.ref t, .int (nI k)]) [] h 0 0 Q := by
  obtain ⟨ht, htk, hca, hln, hcs, hck, hch, hl2, hp⟩ := id hT
  first | refine V.aload_n dT_isSlash_0 rfl ?_ | refine V.aload_nN dT_isSlash_0 rfl ?_
  refine V.bipush (v := (nI 47)) dT_isSlash_1 (by decide) ?_
  refine V.iload_n dT_isSlash_3 rfl ?_
  refine V.callVk (kd := 1) 0 _ 0 _ [_, _] dT_isSlash_4 okT_is n_T_27 (by assumption) (by assumption) rfl imT_is seT_is_T (by decide) (by decide) rfl rfl (Nat.le_of_ble_eq_true rfl) (Nat.le_of_ble_eq_true rfl) (Nat.le_of_eq (Nat.zero_add _)) (Nat.le_of_eq (Nat.zero_add _)) (k_is hT hk (by decide) ?_)
  exact V.ireturn dT_isSlash_7 rfl bI_nar hQ
set_option maxHeartbeats 4000000 in
set_option maxRecDepth 100000 in
/-- PathText.isDot -/
theorem k_isDot {G : GG} {h : HH} {t : Nat} {p : Nat → Nat} {len : Nat} {Q : Option Value → HH → Prop} {a b : Nat} (hT : TX G h t p len) (ha : a ≤ b) (hb : b ≤ len) (hQ : Q (some (.int (bI (decide (b - a = 1 ∧ p a = 46))))) h) : V G mT_isDot 0 (lv_args 0 [.ref t, .int (nI a), .int (nI b)]) [] h 0 0 Q := by
  obtain ⟨ht, htk, hca, hln, hcs, hck, hch, hl2, hp⟩ := id hT
  refine V.iload_n dT_isDot_0 rfl ?_
  refine V.iload_n dT_isDot_1 rfl ?_
  refine V.isubN dT_isDot_2 (by omega) ?_
  refine V.iconst (v := (nI 1)) dT_isDot_3 (by decide) ?_
  refine V.icmp_ne (tgt := 21) dT_isDot_4 (by decide) (fun c_4 => ?_) (fun c_4 => ?_)
  · try simp (disch := omega) only [nI_ltI, nI_leI, nI_eq, zz_lt0, zz_ge0, zz_gt0, zz_le0, zz_eq0, zz_m1lt, zz_m1ge, zz_m1eq, bI_eq0, decide_eq_false_iff_not, decide_eq_true_eq, Decidable.not_not, not_true_eq_false, not_false_eq_true, Nat.not_lt, Nat.not_le, Bool.not_eq_false, Bool.not_eq_true] at c_4
    refine V.iconst (v := (nI 0)) dT_isDot_21 (by decide) ?_
    refine V.ireturn dT_isDot_22 rfl rfl ?_
    first | (rw [bI_t (by omega)] at hQ; exact hQ) | (rw [bI_f (by omega)] at hQ; exact hQ)
  · try simp (disch := omega) only [nI_ltI, nI_leI, nI_eq, zz_lt0, zz_ge0, zz_gt0, zz_le0, zz_eq0, zz_m1lt, zz_m1ge, zz_m1eq, bI_eq0, decide_eq_false_iff_not, decide_eq_true_eq, Decidable.not_not, not_true_eq_false, not_false_eq_true, Nat.not_lt, Nat.not_le, Bool.not_eq_false, Bool.not_eq_true] at c_4
    first | refine V.aload_n dT_isDot_7 rfl ?_ | refine V.aload_nN dT_isDot_7 rfl ?_
    refine V.bipush (v := (nI 46)) dT_isDot_8 (by decide) ?_
    refine V.iload_n dT_isDot_10 rfl ?_
    refine V.callVk (kd := 1) 0 _ 0 _ [_, _] dT_isDot_11 okT_is n_T_27 (by assumption) (by assumption) rfl imT_is seT_is_T (by decide) (by decide) rfl rfl (Nat.le_of_ble_eq_true rfl) (Nat.le_of_ble_eq_true rfl) (Nat.le_of_eq (Nat.zero_add _)) (Nat.le_of_eq (Nat.zero_add _)) (k_is hT (by omega) (by decide) ?_)
    refine V.if_eq (tgt := 21) dT_isDot_14 (by decide) (fun c_14 => ?_) (fun c_14 => ?_)
    · try simp (disch := omega) only [nI_ltI, nI_leI, nI_eq, zz_lt0, zz_ge0, zz_gt0, zz_le0, zz_eq0, zz_m1lt, zz_m1ge, zz_m1eq, bI_eq0, decide_eq_false_iff_not, decide_eq_true_eq, Decidable.not_not, not_true_eq_false, not_false_eq_true, Nat.not_lt, Nat.not_le, Bool.not_eq_false, Bool.not_eq_true] at c_14
      refine V.iconst (v := (nI 0)) dT_isDot_21 (by decide) ?_
      refine V.ireturn dT_isDot_22 rfl rfl ?_
      first | (rw [bI_t (by omega)] at hQ; exact hQ) | (rw [bI_f (by omega)] at hQ; exact hQ)
    · try simp (disch := omega) only [nI_ltI, nI_leI, nI_eq, zz_lt0, zz_ge0, zz_gt0, zz_le0, zz_eq0, zz_m1lt, zz_m1ge, zz_m1eq, bI_eq0, decide_eq_false_iff_not, decide_eq_true_eq, Decidable.not_not, not_true_eq_false, not_false_eq_true, Nat.not_lt, Nat.not_le, Bool.not_eq_false, Bool.not_eq_true] at c_14
      refine V.iconst (v := (nI 1)) dT_isDot_17 (by decide) ?_
      refine V.goto (tgt := 22) dT_isDot_18 (by decide) ?_
      refine V.ireturn dT_isDot_22 rfl rfl ?_
      first | (rw [bI_t (by omega)] at hQ; exact hQ) | (rw [bI_f (by omega)] at hQ; exact hQ)
set_option maxHeartbeats 4000000 in
set_option maxRecDepth 100000 in
/-- PathText.isDotDot -/
theorem k_isDotDot {G : GG} {h : HH} {t : Nat} {p : Nat → Nat} {len : Nat} {Q : Option Value → HH → Prop} {a b : Nat} (hT : TX G h t p len) (ha : a ≤ b) (hb : b ≤ len) (hQ : Q (some (.int (bI (decide (b - a = 2 ∧ p a = 46 ∧ p (a + 1) = 46))))) h) : V G mT_isDotDot 0 (lv_args 0 [.ref t, .int (nI a), .int (nI b)]) [] h 0 0 Q := by
  obtain ⟨ht, htk, hca, hln, hcs, hck, hch, hl2, hp⟩ := id hT
  refine V.iload_n dT_isDotDot_0 rfl ?_
  refine V.iload_n dT_isDotDot_1 rfl ?_
  refine V.isubN dT_isDotDot_2 (by omega) ?_
  refine V.iconst (v := (nI 2)) dT_isDotDot_3 (by decide) ?_
  refine V.icmp_ne (tgt := 33) dT_isDotDot_4 (by decide) (fun c_4 => ?_) (fun c_4 => ?_)
  · try simp (disch := omega) only [nI_ltI, nI_leI, nI_eq, zz_lt0, zz_ge0, zz_gt0, zz_le0, zz_eq0, zz_m1lt, zz_m1ge, zz_m1eq, bI_eq0, decide_eq_false_iff_not, decide_eq_true_eq, Decidable.not_not, not_true_eq_false, not_false_eq_true, Nat.not_lt, Nat.not_le, Bool.not_eq_false, Bool.not_eq_true] at c_4
    refine V.iconst (v := (nI 0)) dT_isDotDot_33 (by decide) ?_
    refine V.ireturn dT_isDotDot_34 rfl rfl ?_
    first | (rw [bI_t (by omega)] at hQ; exact hQ) | (rw [bI_f (by omega)] at hQ; exact hQ)
  · try simp (disch := omega) only [nI_ltI, nI_leI, nI_eq, zz_lt0, zz_ge0, zz_gt0, zz_le0, zz_eq0, zz_m1lt, zz_m1ge, zz_m1eq, bI_eq0, decide_eq_false_iff_not, decide_eq_true_eq, Decidable.not_not, not_true_eq_false, not_false_eq_true, Nat.not_lt, Nat.not_le, Bool.not_eq_false, Bool.not_eq_true] at c_4
    first | refine V.aload_n dT_isDotDot_7 rfl ?_ | refine V.aload_nN dT_isDotDot_7 rfl ?_
    refine V.bipush (v := (nI 46)) dT_isDotDot_8 (by decide) ?_
    refine V.iload_n dT_isDotDot_10 rfl ?_
    refine V.callVk (kd := 1) 0 _ 0 _ [_, _] dT_isDotDot_11 okT_is n_T_27 (by assumption) (by assumption) rfl imT_is seT_is_T (by decide) (by decide) rfl rfl (Nat.le_of_ble_eq_true rfl) (Nat.le_of_ble_eq_true rfl) (Nat.le_of_eq (Nat.zero_add _)) (Nat.le_of_eq (Nat.zero_add _)) (k_is hT (by omega) (by decide) ?_)
    refine V.if_eq (tgt := 33) dT_isDotDot_14 (by decide) (fun c_14 => ?_) (fun c_14 => ?_)
    · try simp (disch := omega) only [nI_ltI, nI_leI, nI_eq, zz_lt0, zz_ge0, zz_gt0, zz_le0, zz_eq0, zz_m1lt, zz_m1ge, zz_m1eq, bI_eq0, decide_eq_false_iff_not, decide_eq_true_eq, Decidable.not_not, not_true_eq_false, not_false_eq_true, Nat.not_lt, Nat.not_le, Bool.not_eq_false, Bool.not_eq_true] at c_14
      refine V.iconst (v := (nI 0)) dT_isDotDot_33 (by decide) ?_
      refine V.ireturn dT_isDotDot_34 rfl rfl ?_
      first | (rw [bI_t (by omega)] at hQ; exact hQ) | (rw [bI_f (by omega)] at hQ; exact hQ)
    · try simp (disch := omega) only [nI_ltI, nI_leI, nI_eq, zz_lt0, zz_ge0, zz_gt0, zz_le0, zz_eq0, zz_m1lt, zz_m1ge, zz_m1eq, bI_eq0, decide_eq_false_iff_not, decide_eq_true_eq, Decidable.not_not, not_true_eq_false, not_false_eq_true, Nat.not_lt, Nat.not_le, Bool.not_eq_false, Bool.not_eq_true] at c_14
      first | refine V.aload_n dT_isDotDot_17 rfl ?_ | refine V.aload_nN dT_isDotDot_17 rfl ?_
      refine V.bipush (v := (nI 46)) dT_isDotDot_18 (by decide) ?_
      refine V.iload_n dT_isDotDot_20 rfl ?_
      refine V.iconst (v := (nI 1)) dT_isDotDot_21 (by decide) ?_
      refine V.iaddN dT_isDotDot_22 ?_
      refine V.callVk (kd := 1) 0 _ 0 _ [_, _] dT_isDotDot_23 okT_is n_T_27 (by assumption) (by assumption) rfl imT_is seT_is_T (by decide) (by decide) rfl rfl (Nat.le_of_ble_eq_true rfl) (Nat.le_of_ble_eq_true rfl) (Nat.le_of_eq (Nat.zero_add _)) (Nat.le_of_eq (Nat.zero_add _)) (k_is hT (by omega) (by decide) ?_)
      refine V.if_eq (tgt := 33) dT_isDotDot_26 (by decide) (fun c_26 => ?_) (fun c_26 => ?_)
      · try simp (disch := omega) only [nI_ltI, nI_leI, nI_eq, zz_lt0, zz_ge0, zz_gt0, zz_le0, zz_eq0, zz_m1lt, zz_m1ge, zz_m1eq, bI_eq0, decide_eq_false_iff_not, decide_eq_true_eq, Decidable.not_not, not_true_eq_false, not_false_eq_true, Nat.not_lt, Nat.not_le, Bool.not_eq_false, Bool.not_eq_true] at c_26
        refine V.iconst (v := (nI 0)) dT_isDotDot_33 (by decide) ?_
        refine V.ireturn dT_isDotDot_34 rfl rfl ?_
        first | (rw [bI_t (by omega)] at hQ; exact hQ) | (rw [bI_f (by omega)] at hQ; exact hQ)
      · try simp (disch := omega) only [nI_ltI, nI_leI, nI_eq, zz_lt0, zz_ge0, zz_gt0, zz_le0, zz_eq0, zz_m1lt, zz_m1ge, zz_m1eq, bI_eq0, decide_eq_false_iff_not, decide_eq_true_eq, Decidable.not_not, not_true_eq_false, not_false_eq_true, Nat.not_lt, Nat.not_le, Bool.not_eq_false, Bool.not_eq_true] at c_26
        refine V.iconst (v := (nI 1)) dT_isDotDot_29 (by decide) ?_
        refine V.goto (tgt := 34) dT_isDotDot_30 (by decide) ?_
        refine V.ireturn dT_isDotDot_34 rfl rfl ?_
        first | (rw [bI_t (by omega)] at hQ; exact hQ) | (rw [bI_f (by omega)] at hQ; exact hQ)
set_option maxHeartbeats 4000000 in
set_option maxRecDepth 100000 in
/-- PathText.clear -/
theorem k_clear {G : GG} {h : HH} {t : Nat} {p : Nat → Nat} {len : Nat} {Q : Option Value → HH → Prop} (hT : TX G h t p len) (hQ : ∀ h', h' = h_put h t 1 (.int (nI 0)) → Q none h') : V G mT_clear 0 (lv_args 0 [.ref t]) [] h 0 0 Q := by
  obtain ⟨ht, htk, hca, hln, hcs, hck, hch, hl2, hp⟩ := id hT
  first | refine V.aload_n dT_clear_0 rfl ?_ | refine V.aload_nN dT_clear_0 rfl ?_
  refine V.iconst (v := (nI 0)) dT_clear_1 (by decide) ?_
  refine V.putk dT_clear_2 (by assumption) (by assumption) p_T_13_1 rfl rfl ?_
  intro h2 e_h2
  refine V.vreturn dT_clear_5 rfl ?_
  exact hQ _ e_h2
