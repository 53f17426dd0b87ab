theorem bI_t {P : Prop} [Decidable P] (h : P) : bI (decide P) = nI 1 := by rw [decide_eq_true h]; decide
theorem bI_f {P : Prop} [Decidable P] (h : ¬ P) : bI (decide P) = nI 0 := by rw [decide_eq_false h]; decide
/-- a PathText at t, its characters at t + 1: the path p, of len characters -/
def TX (G : GG) (h : HH) (t : Nat) (p : Nat → Nat) (len : Nat) : Prop :=
  (g_0 G ≤ t ∧ t < h.2.2) ∧ (h.1 t).1 = 1 ∧ h.2.1 t 0 = .ref (t + 1) ∧ h.2.1 t 1 = .int (nI len) ∧ (g_0 G ≤ t + 1 ∧ t + 1 < h.2.2) ∧ h.1 (t + 1) = (101, 250) ∧ (∀ j, j < len → h.2.1 (t + 1) j = .int (nI (p j))) ∧ len ≤ 250 ∧ ∀ j, j < len → p j < 256
set_option maxHeartbeats 4000000 in
set_option maxRecDepth 100000 in
/-- PathText.is -/
theorem k_is {G : GG} {h : HH} {t : Nat} {p : Nat → Nat} {len : Nat} {Q : Option Value → HH → Prop} {k cc : Nat} (hT : TX G h t p len) (hk : k < 2 ^ 31) (hc : cc < 256) (hQ : Q (some (.int (bI (decide (k < len ∧ p k = cc))))) h) : V G mT_is 0 (lv_args 0 [.ref t, .int (nI cc), .int (nI k)]) [] h 0 0 Q := by
  obtain ⟨ht, htk, hca, hln, hcs, hck, hch, hl2, hp⟩ := id hT
  refine V.iload_n dT_is_0 rfl ?_
  refine V.if_lt (tgt := 26) dT_is_1 (by decide) (fun c_1 => ?_) (fun c_1 => ?_)
  · try simp (disch := omega) only [nI_ltI, nI_leI, nI_eq, zz_lt0, zz_ge0, zz_gt0, zz_le0, zz_eq0, zz_m1lt, zz_m1ge, zz_m1eq, bI_eq0, decide_eq_false_iff_not, decide_eq_true_eq, Decidable.not_not, not_true_eq_false, not_false_eq_true, Nat.not_lt, Nat.not_le, Bool.not_eq_false, Bool.not_eq_true] at c_1
    
  · try simp (disch := omega) only [nI_ltI, nI_leI, nI_eq, zz_lt0, zz_ge0, zz_gt0, zz_le0, zz_eq0, zz_m1lt, zz_m1ge, zz_m1eq, bI_eq0, decide_eq_false_iff_not, decide_eq_true_eq, Decidable.not_not, not_true_eq_false, not_false_eq_true, Nat.not_lt, Nat.not_le, Bool.not_eq_false, Bool.not_eq_true] at c_1
    refine V.iload_n dT_is_4 rfl ?_
    first | refine V.aload_n dT_is_5 rfl ?_ | refine V.aload_nN dT_is_5 rfl ?_
    refine V.getk dT_is_6 (by assumption) (by assumption) f_T_13_1 (by assumption) ?_
    refine V.icmp_ge (tgt := 26) dT_is_9 (by decide) (fun c_9 => ?_) (fun c_9 => ?_)
    · try simp (disch := omega) only [nI_ltI, nI_leI, nI_eq, zz_lt0, zz_ge0, zz_gt0, zz_le0, zz_eq0, zz_m1lt, zz_m1ge, zz_m1eq, bI_eq0, decide_eq_false_iff_not, decide_eq_true_eq, Decidable.not_not, not_true_eq_false, not_false_eq_true, Nat.not_lt, Nat.not_le, Bool.not_eq_false, Bool.not_eq_true] at c_9
      refine V.iconst (v := (nI 0)) dT_is_26 (by decide) ?_
      refine V.ireturn dT_is_27 rfl rfl ?_
      first | (rw [bI_t (by omega)] at hQ; exact hQ) | (rw [bI_f (by omega)] at hQ; exact hQ)
    · try simp (disch := omega) only [nI_ltI, nI_leI, nI_eq, zz_lt0, zz_ge0, zz_gt0, zz_le0, zz_eq0, zz_m1lt, zz_m1ge, zz_m1eq, bI_eq0, decide_eq_false_iff_not, decide_eq_true_eq, Decidable.not_not, not_true_eq_false, not_false_eq_true, Nat.not_lt, Nat.not_le, Bool.not_eq_false, Bool.not_eq_true] at c_9
      first | refine V.aload_n dT_is_12 rfl ?_ | refine V.aload_nN dT_is_12 rfl ?_
      refine V.getk dT_is_13 (by assumption) (by assumption) f_T_9_1 (by assumption) ?_
      refine V.iload_n dT_is_16 rfl ?_
      have hpk := hp k (by omega)
      refine V.caloadN dT_is_17 (by assumption) (by assumption) (by omega) (hch k (by omega)) ?_
      refine V.iload_n dT_is_18 rfl ?_
      refine V.icmp_ne (tgt := 26) dT_is_19 (by decide) (fun c_19 => ?_) (fun c_19 => ?_)
      · try simp (disch := omega) only [nI_ltI, nI_leI, nI_eq, zz_lt0, zz_ge0, zz_gt0, zz_le0, zz_eq0, zz_m1lt, zz_m1ge, zz_m1eq, bI_eq0, decide_eq_false_iff_not, decide_eq_true_eq, Decidable.not_not, not_true_eq_false, not_false_eq_true, Nat.not_lt, Nat.not_le, Bool.not_eq_false, Bool.not_eq_true] at c_19
        refine V.iconst (v := (nI 0)) dT_is_26 (by decide) ?_
        refine V.ireturn dT_is_27 rfl rfl ?_
        first | (rw [bI_t (by omega)] at hQ; exact hQ) | (rw [bI_f (by omega)] at hQ; exact hQ)
      · try simp (disch := omega) only [nI_ltI, nI_leI, nI_eq, zz_lt0, zz_ge0, zz_gt0, zz_le0, zz_eq0, zz_m1lt, zz_m1ge, zz_m1eq, bI_eq0, decide_eq_false_iff_not, decide_eq_true_eq, Decidable.not_not, not_true_eq_false, not_false_eq_true, Nat.not_lt, Nat.not_le, Bool.not_eq_false, Bool.not_eq_true] at c_19
        refine V.iconst (v := (nI 1)) dT_is_22 (by decide) ?_
        refine V.goto (tgt := 27) dT_is_23 (by decide) ?_
        refine V.ireturn dT_is_27 rfl rfl ?_
        first | (rw [bI_t (by omega)] at hQ; exact hQ) | (rw [bI_f (by omega)] at hQ; exact hQ)
set_option maxHeartbeats 4000000 in
set_option maxRecDepth 100000 in
/-- PathText.isSlash -/
theorem k_isSlash {G : GG} {h : HH} {t : Nat} {p : Nat → Nat} {len : Nat} {Q : Option Value → HH → Prop} {k : Nat} (hT : TX G h t p len) (hk : k < 2 ^ 31) (hQ : Q (some (.int (bI (decide (k < len ∧ p k = 47))))) h) : V G mT_isSlash 0 (lv_args 0 [.ref t, .int (nI k)]) [] h 0 0 Q := by
  obtain ⟨ht, htk, hca, hln, hcs, hck, hch, hl2, hp⟩ := id hT
  first | refine V.aload_n dT_isSlash_0 rfl ?_ | refine V.aload_nN dT_isSlash_0 rfl ?_
  refine V.bipush (v := (nI 47)) dT_isSlash_1 (by decide) ?_
  refine V.iload_n dT_isSlash_3 rfl ?_
  refine V.callVk (kd := 1) 0 _ 0 _ [_, _] dT_isSlash_4 okT_is n_T_27 (by assumption) (by assumption) rfl imT_is seT_is_T (by decide) (by decide) rfl rfl (Nat.le_of_ble_eq_true rfl) (Nat.le_of_ble_eq_true rfl) (Nat.le_of_eq (Nat.zero_add _)) (Nat.le_of_eq (Nat.zero_add _)) (k_is hT hk (by decide) ?_)
  exact V.ireturn dT_isSlash_7 rfl bI_nar hQ
set_option maxHeartbeats 4000000 in
set_option maxRecDepth 100000 in
/-- PathText.isDot -/
theorem k_isDot {G : GG} {h : HH} {t : Nat} {p : Nat → Nat} {len : Nat} {Q : Option Value → HH → Prop} {a b : Nat} (hT : TX G h t p len) (ha : a ≤ b) (hb : b ≤ len) (hQ : Q (some (.int (bI (decide (b - a = 1 ∧ p a = 46))))) h) : V G mT_isDot 0 (lv_args 0 [.ref t, .int (nI a), .int (nI b)]) [] h 0 0 Q := by
  obtain ⟨ht, htk, hca, hln, hcs, hck, hch, hl2, hp⟩ := id hT
  refine V.iload_n dT_isDot_0 rfl ?_
  refine V.iload_n dT_isDot_1 rfl ?_
  refine V.isubN dT_isDot_2 (by omega) ?_
  refine V.iconst (v := (nI 1)) dT_isDot_3 (by decide) ?_
  refine V.icmp_ne (tgt := 21) dT_isDot_4 (by decide) (fun c_4 => ?_) (fun c_4 => ?_)
  · try simp (disch := omega) only [nI_ltI, nI_leI, nI_eq, zz_lt0, zz_ge0, zz_gt0, zz_le0, zz_eq0, zz_m1lt, zz_m1ge, zz_m1eq, bI_eq0, decide_eq_false_iff_not, decide_eq_true_eq, Decidable.not_not, not_true_eq_false, not_false_eq_true, Nat.not_lt, Nat.not_le, Bool.not_eq_false, Bool.not_eq_true] at c_4
    refine V.iconst (v := (nI 0)) dT_isDot_21 (by decide) ?_
    refine V.ireturn dT_isDot_22 rfl rfl ?_
    first | (rw [bI_t (by omega)] at hQ; exact hQ) | (rw [bI_f (by omega)] at hQ; exact hQ)
  · try simp (disch := omega) only [nI_ltI, nI_leI, nI_eq, zz_lt0, zz_ge0, zz_gt0, zz_le0, zz_eq0, zz_m1lt, zz_m1ge, zz_m1eq, bI_eq0, decide_eq_false_iff_not, decide_eq_true_eq, Decidable.not_not, not_true_eq_false, not_false_eq_true, Nat.not_lt, Nat.not_le, Bool.not_eq_false, Bool.not_eq_true] at c_4
    first | refine V.aload_n dT_isDot_7 rfl ?_ | refine V.aload_nN dT_isDot_7 rfl ?_
    refine V.bipush (v := (nI 46)) dT_isDot_8 (by decide) ?_
    refine V.iload_n dT_isDot_10 rfl ?_
    refine V.callVk (kd := 1) 0 _ 0 _ [_, _] dT_isDot_11 okT_is n_T_27 (by assumption) (by assumption) rfl imT_is seT_is_T (by decide) (by decide) rfl rfl (Nat.le_of_ble_eq_true rfl) (Nat.le_of_ble_eq_true rfl) (Nat.le_of_eq (Nat.zero_add _)) (Nat.le_of_eq (Nat.zero_add _)) (k_is hT (by omega) (by decide) ?_)
    refine V.if_eq (tgt := 21) dT_isDot_14 (by decide) (fun c_14 => ?_) (fun c_14 => ?_)
    · try simp (disch := omega) only [nI_ltI, nI_leI, nI_eq, zz_lt0, zz_ge0, zz_gt0, zz_le0, zz_eq0, zz_m1lt, zz_m1ge, zz_m1eq, bI_eq0, decide_eq_false_iff_not, decide_eq_true_eq, Decidable.not_not, not_true_eq_false, not_false_eq_true, Nat.not_lt, Nat.not_le, Bool.not_eq_false, Bool.not_eq_true] at c_14
      refine V.iconst (v := (nI 0)) dT_isDot_21 (by decide) ?_
      refine V.ireturn dT_isDot_22 rfl rfl ?_
      first | (rw [bI_t (by omega)] at hQ; exact hQ) | (rw [bI_f (by omega)] at hQ; exact hQ)
    · try simp (disch := omega) only [nI_ltI, nI_leI, nI_eq, zz_lt0, zz_ge0, zz_gt0, zz_le0, zz_eq0, zz_m1lt, zz_m1ge, zz_m1eq, bI_eq0, decide_eq_false_iff_not, decide_eq_true_eq, Decidable.not_not, not_true_eq_false, not_false_eq_true, Nat.not_lt, Nat.not_le, Bool.not_eq_false, Bool.not_eq_true] at c_14
      refine V.iconst (v := (nI 1)) dT_isDot_17 (by decide) ?_
      refine V.goto (tgt := 22) dT_isDot_18 (by decide) ?_
      refine V.ireturn dT_isDot_22 rfl rfl ?_
      first | (rw [bI_t (by omega)] at hQ; exact hQ) | (rw [bI_f (by omega)] at hQ; exact hQ)
set_option maxHeartbeats 4000000 in
set_option maxRecDepth 100000 in
/-- PathText.isDotDot -/
theorem k_isDotDot {G : GG} {h : HH} {t : Nat} {p : Nat → Nat} {len : Nat} {Q : Option Value → HH → Prop} {a b : Nat} (hT : TX G h t p len) (ha : a ≤ b) (hb : b ≤ len) (hQ : Q (some (.int (bI (decide (b - a = 2 ∧ p a = 46 ∧ p (a + 1) = 46))))) h) : V G mT_isDotDot 0 (lv_args 0 [.ref t, .int (nI a), .int (nI b)]) [] h 0 0 Q := by
  obtain ⟨ht, htk, hca, hln, hcs, hck, hch, hl2, hp⟩ := id hT
  refine V.iload_n dT_isDotDot_0 rfl ?_
  refine V.iload_n dT_isDotDot_1 rfl ?_
  refine V.isubN dT_isDotDot_2 (by omega) ?_
  refine V.iconst (v := (nI 2)) dT_isDotDot_3 (by decide) ?_
  refine V.icmp_ne (tgt := 33) dT_isDotDot_4 (by decide) (fun c_4 => ?_) (fun c_4 => ?_)
  · try simp (disch := omega) only [nI_ltI, nI_leI, nI_eq, zz_lt0, zz_ge0, zz_gt0, zz_le0, zz_eq0, zz_m1lt, zz_m1ge, zz_m1eq, bI_eq0, decide_eq_false_iff_not, decide_eq_true_eq, Decidable.not_not, not_true_eq_false, not_false_eq_true, Nat.not_lt, Nat.not_le, Bool.not_eq_false, Bool.not_eq_true] at c_4
    refine V.iconst (v := (nI 0)) dT_isDotDot_33 (by decide) ?_
    refine V.ireturn dT_isDotDot_34 rfl rfl ?_
    first | (rw [bI_t (by omega)] at hQ; exact hQ) | (rw [bI_f (by omega)] at hQ; exact hQ)
  · try simp (disch := omega) only [nI_ltI, nI_leI, nI_eq, zz_lt0, zz_ge0, zz_gt0, zz_le0, zz_eq0, zz_m1lt, zz_m1ge, zz_m1eq, bI_eq0, decide_eq_false_iff_not, decide_eq_true_eq, Decidable.not_not, not_true_eq_false, not_false_eq_true, Nat.not_lt, Nat.not_le, Bool.not_eq_false, Bool.not_eq_true] at c_4
    first | refine V.aload_n dT_isDotDot_7 rfl ?_ | refine V.aload_nN dT_isDotDot_7 rfl ?_
    refine V.bipush (v := (nI 46)) dT_isDotDot_8 (by decide) ?_
    refine V.iload_n dT_isDotDot_10 rfl ?_
    refine V.callVk (kd := 1) 0 _ 0 _ [_, _] dT_isDotDot_11 okT_is n_T_27 (by assumption) (by assumption) rfl imT_is seT_is_T (by decide) (by decide) rfl rfl (Nat.le_of_ble_eq_true rfl) (Nat.le_of_ble_eq_true rfl) (Nat.le_of_eq (Nat.zero_add _)) (Nat.le_of_eq (Nat.zero_add _)) (k_is hT (by omega) (by decide) ?_)
    refine V.if_eq (tgt := 33) dT_isDotDot_14 (by decide) (fun c_14 => ?_) (fun c_14 => ?_)
    · try simp (disch := omega) only [nI_ltI, nI_leI, nI_eq, zz_lt0, zz_ge0, zz_gt0, zz_le0, zz_eq0, zz_m1lt, zz_m1ge, zz_m1eq, bI_eq0, decide_eq_false_iff_not, decide_eq_true_eq, Decidable.not_not, not_true_eq_false, not_false_eq_true, Nat.not_lt, Nat.not_le, Bool.not_eq_false, Bool.not_eq_true] at c_14
      refine V.iconst (v := (nI 0)) dT_isDotDot_33 (by decide) ?_
      refine V.ireturn dT_isDotDot_34 rfl rfl ?_
      first | (rw [bI_t (by omega)] at hQ; exact hQ) | (rw [bI_f (by omega)] at hQ; exact hQ)
    · try simp (disch := omega) only [nI_ltI, nI_leI, nI_eq, zz_lt0, zz_ge0, zz_gt0, zz_le0, zz_eq0, zz_m1lt, zz_m1ge, zz_m1eq, bI_eq0, decide_eq_false_iff_not, decide_eq_true_eq, Decidable.not_not, not_true_eq_false, not_false_eq_true, Nat.not_lt, Nat.not_le, Bool.not_eq_false, Bool.not_eq_true] at c_14
      first | refine V.aload_n dT_isDotDot_17 rfl ?_ | refine V.aload_nN dT_isDotDot_17 rfl ?_
      refine V.bipush (v := (nI 46)) dT_isDotDot_18 (by decide) ?_
      refine V.iload_n dT_isDotDot_20 rfl ?_
      refine V.iconst (v := (nI 1)) dT_isDotDot_21 (by decide) ?_
      refine V.iaddN dT_isDotDot_22 ?_
      refine V.callVk (kd := 1) 0 _ 0 _ [_, _] dT_isDotDot_23 okT_is n_T_27 (by assumption) (by assumption) rfl imT_is seT_is_T (by decide) (by decide) rfl rfl (Nat.le_of_ble_eq_true rfl) (Nat.le_of_ble_eq_true rfl) (Nat.le_of_eq (Nat.zero_add _)) (Nat.le_of_eq (Nat.zero_add _)) (k_is hT (by omega) (by decide) ?_)
      refine V.if_eq (tgt := 33) dT_isDotDot_26 (by decide) (fun c_26 => ?_) (fun c_26 => ?_)
      · try simp (disch := omega) only [nI_ltI, nI_leI, nI_eq, zz_lt0, zz_ge0, zz_gt0, zz_le0, zz_eq0, zz_m1lt, zz_m1ge, zz_m1eq, bI_eq0, decide_eq_false_iff_not, decide_eq_true_eq, Decidable.not_not, not_true_eq_false, not_false_eq_true, Nat.not_lt, Nat.not_le, Bool.not_eq_false, Bool.not_eq_true] at c_26
        refine V.iconst (v := (nI 0)) dT_isDotDot_33 (by decide) ?_
        refine V.ireturn dT_isDotDot_34 rfl rfl ?_
        first | (rw [bI_t (by omega)] at hQ; exact hQ) | (rw [bI_f (by omega)] at hQ; exact hQ)
      · try simp (disch := omega) only [nI_ltI, nI_leI, nI_eq, zz_lt0, zz_ge0, zz_gt0, zz_le0, zz_eq0, zz_m1lt, zz_m1ge, zz_m1eq, bI_eq0, decide_eq_false_iff_not, decide_eq_true_eq, Decidable.not_not, not_true_eq_false, not_false_eq_true, Nat.not_lt, Nat.not_le, Bool.not_eq_false, Bool.not_eq_true] at c_26
        refine V.iconst (v := (nI 1)) dT_isDotDot_29 (by decide) ?_
        refine V.goto (tgt := 34) dT_isDotDot_30 (by decide) ?_
        refine V.ireturn dT_isDotDot_34 rfl rfl ?_
        first | (rw [bI_t (by omega)] at hQ; exact hQ) | (rw [bI_f (by omega)] at hQ; exact hQ)
set_option maxHeartbeats 4000000 in
set_option maxRecDepth 100000 in
/-- PathText.clear -/
theorem k_clear {G : GG} {h : HH} {t : Nat} {p : Nat → Nat} {len : Nat} {Q : Option Value → HH → Prop} (hT : TX G h t p len) (hQ : ∀ h', h' = h_put h t 1 (.int (nI 0)) → Q none h') : V G mT_clear 0 (lv_args 0 [.ref t]) [] h 0 0 Q := by
  obtain ⟨ht, htk, hca, hln, hcs, hck, hch, hl2, hp⟩ := id hT
  first | refine V.aload_n dT_clear_0 rfl ?_ | refine V.aload_nN dT_clear_0 rfl ?_
  refine V.iconst (v := (nI 0)) dT_clear_1 (by decide) ?_
  refine V.putk dT_clear_2 (by assumption) (by assumption) p_T_13_1 rfl rfl ?_
  intro h2 e_h2
  refine V.vreturn dT_clear_5 rfl ?_
  exact hQ _ e_h2
set_option maxHeartbeats 4000000 in
set_option maxRecDepth 100000 in
/-- PathText.lastSlash -/
theorem k_lastSlash {G : GG} {h : HH} {t : Nat} {p : Nat → Nat} {len : Nat} {Q : Option Value → HH → Prop} (hT : TX G h t p len) (hQ : Q (some (.int (lm (s_last p len)))) h) : V G mT_lastSlash 0 (lv_args 0 [.ref t]) [] h 0 0 Q := by
  obtain ⟨ht, htk, hca, hln, hcs, hck, hch, hl2, hp⟩ := id hT
  have loop : ∀ m, m ≤ len → s_last p m = s_last p len → V G mT_lastSlash 7 [(1, .int (lm m)), (0, .ref t)] [] h 0 0 Q := by
    intro m
    induction m with
    | zero =>
      intro hm hs
      refine V.iload_n dT_lastSlash_7 rfl ?_
      refine V.if_lt (tgt := 25) dT_lastSlash_8 (by decide) (fun c_8 => ?_) (fun c_8 => ?_)
      · try simp (disch := omega) only [lm_0, zz_m1lt, not_true_eq_false] at c_8
        refine V.iload_n dT_lastSlash_25 rfl ?_
        refine V.ireturn dT_lastSlash_26 rfl rfl ?_
        rw [← hs] at hQ; exact hQ
      · try simp (disch := omega) only [lm_0, zz_m1lt, not_true_eq_false] at c_8
        
    | succ m ih =>
      intro hm hs
      refine V.iload_n dT_lastSlash_7 rfl ?_
      refine V.if_lt (tgt := 25) dT_lastSlash_8 (by decide) (fun c_8 => ?_) (fun c_8 => ?_)
      · try simp (disch := omega) only [lm_s, zz_lt0, not_false_eq_true] at c_8
        
      · try simp (disch := omega) only [lm_s, zz_lt0, not_false_eq_true] at c_8
        first | refine V.aload_n dT_lastSlash_11 rfl ?_ | refine V.aload_nN dT_lastSlash_11 rfl ?_
        refine V.iload_n dT_lastSlash_12 rfl ?_
        rw [lm_s]
        refine V.callVk (kd := 1) 0 _ 0 _ [_] dT_lastSlash_13 okT_isSlash n_T_31 (by assumption) (by assumption) rfl imT_isSlash seT_isSlash_T (by decide) (by decide) rfl rfl (Nat.le_of_ble_eq_true rfl) (Nat.le_of_ble_eq_true rfl) (Nat.le_of_eq (Nat.zero_add _)) (Nat.le_of_eq (Nat.zero_add _)) (k_isSlash hT (by omega) ?_)
        refine V.if_ne (tgt := 25) dT_lastSlash_16 (by decide) (fun c_16 => ?_) (fun c_16 => ?_)
        · try simp (disch := omega) only [nI_ltI, nI_leI, nI_eq, zz_lt0, zz_ge0, zz_gt0, zz_le0, zz_eq0, zz_m1lt, zz_m1ge, zz_m1eq, bI_eq0, decide_eq_false_iff_not, decide_eq_true_eq, Decidable.not_not, not_true_eq_false, not_false_eq_true, Nat.not_lt, Nat.not_le, Bool.not_eq_false, Bool.not_eq_true] at c_16
          refine V.iload_n dT_lastSlash_25 rfl ?_
          refine V.ireturn dT_lastSlash_26 rfl rfl ?_
          rw [← hs] at hQ; simp only [s_last] at hQ; rw [if_pos (by omega), lm_s] at hQ; exact hQ
        · try simp (disch := omega) only [nI_ltI, nI_leI, nI_eq, zz_lt0, zz_ge0, zz_gt0, zz_le0, zz_eq0, zz_m1lt, zz_m1ge, zz_m1eq, bI_eq0, decide_eq_false_iff_not, decide_eq_true_eq, Decidable.not_not, not_true_eq_false, not_false_eq_true, Nat.not_lt, Nat.not_le, Bool.not_eq_false, Bool.not_eq_true] at c_16
          refine V.iinc (v := lm m) dT_lastSlash_19 rfl (by show nI m + Int32.ofInt (-1) = nI m - 1; rw [show Int32.ofInt (-1) = -1 by decide, Int32.sub_eq_add_neg]) (by decide) ?_
          refine V.goto (tgt := 7) dT_lastSlash_22 (by decide) ?_
          exact ih (by omega) (by rw [← hs]; simp only [s_last]; rw [if_neg (by omega)])
  first | refine V.aload_n dT_lastSlash_0 rfl ?_ | refine V.aload_nN dT_lastSlash_0 rfl ?_
  refine V.getk dT_lastSlash_1 (by assumption) (by assumption) f_T_13_1 (by assumption) ?_
  refine V.iconst (v := (nI 1)) dT_lastSlash_4 (by decide) ?_
  refine V.isub dT_lastSlash_5 ?_
  refine V.istore_n dT_lastSlash_6 (by decide) ?_
  exact loop len (Nat.le_refl _) rfl
set_option maxHeartbeats 4000000 in
set_option maxRecDepth 100000 in
/-- PathText.lastNameCanBe -/
theorem k_lastNameCanBe {G : GG} {h : HH} {t : Nat} {p : Nat → Nat} {len : Nat} {Q : Option Value → HH → Prop} (hT : TX G h t p len) (hQ : Q (some (.int (bI (decide (s_isName p len))))) h) : V G mT_lastNameCanBe 0 (lv_args 0 [.ref t]) [] h 0 0 Q := by
  obtain ⟨ht, htk, hca, hln, hcs, hck, hch, hl2, hp⟩ := id hT
  have hll := s_last_le p len
  first | refine V.aload_n dT_lastNameCanBe_0 rfl ?_ | refine V.aload_nN dT_lastNameCanBe_0 rfl ?_
  refine V.callVk (kd := 1) 0 _ 0 _ [] dT_lastNameCanBe_1 okT_lastSlash n_T_34 (by assumption) (by assumption) rfl imT_lastSlash seT_lastSlash_T (by decide) (by decide) rfl rfl (Nat.le_of_ble_eq_true rfl) (Nat.le_of_ble_eq_true rfl) (Nat.le_of_eq (Nat.zero_add _)) (Nat.le_of_eq (Nat.zero_add _)) (k_lastSlash hT ?_)
  refine V.iconst (v := (nI 1)) dT_lastNameCanBe_4 (by decide) ?_
  refine V.iadd dT_lastNameCanBe_5 ?_
  rw [lm_add]
  refine V.istore_n dT_lastNameCanBe_6 (by decide) ?_
  first | refine V.aload_n dT_lastNameCanBe_7 rfl ?_ | refine V.aload_nN dT_lastNameCanBe_7 rfl ?_
  refine V.getk dT_lastNameCanBe_8 (by assumption) (by assumption) f_T_13_1 (by assumption) ?_
  refine V.iload_n dT_lastNameCanBe_11 rfl ?_
  refine V.isubN dT_lastNameCanBe_12 (by omega) ?_
  refine V.istore_n dT_lastNameCanBe_13 (by decide) ?_
  refine V.iload_n dT_lastNameCanBe_14 rfl ?_
  refine V.iconst (v := (nI 1)) dT_lastNameCanBe_15 (by decide) ?_
  refine V.icmp_lt (tgt := 53) dT_lastNameCanBe_16 (by decide) (fun c_16 => ?_) (fun c_16 => ?_)
  · try simp (disch := omega) only [nI_ltI, nI_leI, nI_eq, zz_lt0, zz_ge0, zz_gt0, zz_le0, zz_eq0, zz_m1lt, zz_m1ge, zz_m1eq, bI_eq0, decide_eq_false_iff_not, decide_eq_true_eq, Decidable.not_not, not_true_eq_false, not_false_eq_true, Nat.not_lt, Nat.not_le, Bool.not_eq_false, Bool.not_eq_true] at c_16
    refine V.iconst (v := (nI 0)) dT_lastNameCanBe_53 (by decide) ?_
    refine V.ireturn dT_lastNameCanBe_54 rfl rfl ?_
    first | (rw [bI_t (by omega)] at hQ; exact hQ) | (rw [bI_f (by omega)] at hQ; exact hQ)
  · try simp (disch := omega) only [nI_ltI, nI_leI, nI_eq, zz_lt0, zz_ge0, zz_gt0, zz_le0, zz_eq0, zz_m1lt, zz_m1ge, zz_m1eq, bI_eq0, decide_eq_false_iff_not, decide_eq_true_eq, Decidable.not_not, not_true_eq_false, not_false_eq_true, Nat.not_lt, Nat.not_le, Bool.not_eq_false, Bool.not_eq_true] at c_16
    refine V.iload_n dT_lastNameCanBe_19 rfl ?_
    refine V.bipush (v := (nI 60)) dT_lastNameCanBe_20 (by decide) ?_
    refine V.icmp_gt (tgt := 53) dT_lastNameCanBe_22 (by decide) (fun c_22 => ?_) (fun c_22 => ?_)
    · try simp (disch := omega) only [nI_ltI, nI_leI, nI_eq, zz_lt0, zz_ge0, zz_gt0, zz_le0, zz_eq0, zz_m1lt, zz_m1ge, zz_m1eq, bI_eq0, decide_eq_false_iff_not, decide_eq_true_eq, Decidable.not_not, not_true_eq_false, not_false_eq_true, Nat.not_lt, Nat.not_le, Bool.not_eq_false, Bool.not_eq_true] at c_22
      refine V.iconst (v := (nI 0)) dT_lastNameCanBe_53 (by decide) ?_
      refine V.ireturn dT_lastNameCanBe_54 rfl rfl ?_
      first | (rw [bI_t (by omega)] at hQ; exact hQ) | (rw [bI_f (by omega)] at hQ; exact hQ)
    · try simp (disch := omega) only [nI_ltI, nI_leI, nI_eq, zz_lt0, zz_ge0, zz_gt0, zz_le0, zz_eq0, zz_m1lt, zz_m1ge, zz_m1eq, bI_eq0, decide_eq_false_iff_not, decide_eq_true_eq, Decidable.not_not, not_true_eq_false, not_false_eq_true, Nat.not_lt, Nat.not_le, Bool.not_eq_false, Bool.not_eq_true] at c_22
      first | refine V.aload_n dT_lastNameCanBe_25 rfl ?_ | refine V.aload_nN dT_lastNameCanBe_25 rfl ?_
      refine V.iload_n dT_lastNameCanBe_26 rfl ?_
      first | refine V.aload_n dT_lastNameCanBe_27 rfl ?_ | refine V.aload_nN dT_lastNameCanBe_27 rfl ?_
      refine V.getk dT_lastNameCanBe_28 (by assumption) (by assumption) f_T_13_1 (by assumption) ?_
      refine V.callVk (kd := 1) 0 _ 0 _ [_, _] dT_lastNameCanBe_31 okT_isDot n_T_38 (by assumption) (by assumption) rfl imT_isDot seT_isDot_T (by decide) (by decide) rfl rfl (Nat.le_of_ble_eq_true rfl) (Nat.le_of_ble_eq_true rfl) (Nat.le_of_eq (Nat.zero_add _)) (Nat.le_of_eq (Nat.zero_add _)) (k_isDot hT (by omega) (by omega) ?_)
      refine V.if_ne (tgt := 53) dT_lastNameCanBe_34 (by decide) (fun c_34 => ?_) (fun c_34 => ?_)
      · try simp (disch := omega) only [nI_ltI, nI_leI, nI_eq, zz_lt0, zz_ge0, zz_gt0, zz_le0, zz_eq0, zz_m1lt, zz_m1ge, zz_m1eq, bI_eq0, decide_eq_false_iff_not, decide_eq_true_eq, Decidable.not_not, not_true_eq_false, not_false_eq_true, Nat.not_lt, Nat.not_le, Bool.not_eq_false, Bool.not_eq_true] at c_34
        refine V.iconst (v := (nI 0)) dT_lastNameCanBe_53 (by decide) ?_
        refine V.ireturn dT_lastNameCanBe_54 rfl rfl ?_
        first | (rw [bI_t (by omega)] at hQ; exact hQ) | (rw [bI_f (by omega)] at hQ; exact hQ)
      · try simp (disch := omega) only [nI_ltI, nI_leI, nI_eq, zz_lt0, zz_ge0, zz_gt0, zz_le0, zz_eq0, zz_m1lt, zz_m1ge, zz_m1eq, bI_eq0, decide_eq_false_iff_not, decide_eq_true_eq, Decidable.not_not, not_true_eq_false, not_false_eq_true, Nat.not_lt, Nat.not_le, Bool.not_eq_false, Bool.not_eq_true] at c_34
        first | refine V.aload_n dT_lastNameCanBe_37 rfl ?_ | refine V.aload_nN dT_lastNameCanBe_37 rfl ?_
        refine V.iload_n dT_lastNameCanBe_38 rfl ?_
        first | refine V.aload_n dT_lastNameCanBe_39 rfl ?_ | refine V.aload_nN dT_lastNameCanBe_39 rfl ?_
        refine V.getk dT_lastNameCanBe_40 (by assumption) (by assumption) f_T_13_1 (by assumption) ?_
        refine V.callVk (kd := 1) 0 _ 0 _ [_, _] dT_lastNameCanBe_43 okT_isDotDot n_T_42 (by assumption) (by assumption) rfl imT_isDotDot seT_isDotDot_T (by decide) (by decide) rfl rfl (Nat.le_of_ble_eq_true rfl) (Nat.le_of_ble_eq_true rfl) (Nat.le_of_eq (Nat.zero_add _)) (Nat.le_of_eq (Nat.zero_add _)) (k_isDotDot hT (by omega) (by omega) ?_)
        refine V.if_ne (tgt := 53) dT_lastNameCanBe_46 (by decide) (fun c_46 => ?_) (fun c_46 => ?_)
        · try simp (disch := omega) only [nI_ltI, nI_leI, nI_eq, zz_lt0, zz_ge0, zz_gt0, zz_le0, zz_eq0, zz_m1lt, zz_m1ge, zz_m1eq, bI_eq0, decide_eq_false_iff_not, decide_eq_true_eq, Decidable.not_not, not_true_eq_false, not_false_eq_true, Nat.not_lt, Nat.not_le, Bool.not_eq_false, Bool.not_eq_true] at c_46
          refine V.iconst (v := (nI 0)) dT_lastNameCanBe_53 (by decide) ?_
          refine V.ireturn dT_lastNameCanBe_54 rfl rfl ?_
          first | (rw [bI_t (by omega)] at hQ; exact hQ) | (rw [bI_f (by omega)] at hQ; exact hQ)
        · try simp (disch := omega) only [nI_ltI, nI_leI, nI_eq, zz_lt0, zz_ge0, zz_gt0, zz_le0, zz_eq0, zz_m1lt, zz_m1ge, zz_m1eq, bI_eq0, decide_eq_false_iff_not, decide_eq_true_eq, Decidable.not_not, not_true_eq_false, not_false_eq_true, Nat.not_lt, Nat.not_le, Bool.not_eq_false, Bool.not_eq_true] at c_46
          refine V.iconst (v := (nI 1)) dT_lastNameCanBe_49 (by decide) ?_
          refine V.goto (tgt := 54) dT_lastNameCanBe_50 (by decide) ?_
          refine V.ireturn dT_lastNameCanBe_54 rfl rfl ?_
          first | (rw [bI_t (by omega)] at hQ; exact hQ) | (rw [bI_f (by omega)] at hQ; exact hQ)
