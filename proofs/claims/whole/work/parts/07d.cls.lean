theorem ch_nar : ∀ n, n < 256 → narrow .char (.int (nI n)) = .int (nI n) := by decide +kernel
theorem ch_i2c : ∀ n, n < 256 → ((nI n).toUInt32 % 65536).toInt32 = nI n := by decide +kernel
theorem ch_fit : ∀ n, n < 256 → fits .char (.int (nI n)) = true := by decide +kernel
theorem by_fit : ∀ n, n < 256 → fits .byte (.int ((nI n).toInt8.toInt32)) = true := by decide +kernel
theorem by_nn : ∀ n, n < 256 → narrow .byte (.int ((nI n).toInt8.toInt32)) = .int ((nI n).toInt8.toInt32) := by decide +kernel
set_option maxHeartbeats 4000000 in
set_option maxRecDepth 100000 in
/-- PathTree.byteOf -/
theorem k_byteOf {G : GG} {h : HH} {x : Int64} {k : Nat} {Q : Option Value → HH → Prop} (hk : k < 8) (hQ : Q (some (.int (nI (s_byt x k)))) h) : V G mP_byteOf 0 (lv_args 0 [.long x, .int (nI k)]) [] h 0 0 Q := by
  refine V.lload_n dP_byteOf_0 rfl ?_
  refine V.bipush (v := (nI 8)) dP_byteOf_1 (by decide) ?_
  refine V.iload_n dP_byteOf_3 rfl ?_
  refine V.imulN dP_byteOf_4 ?_
  refine V.lushr dP_byteOf_5 rfl ?_
  refine V.l2i dP_byteOf_6 rfl ?_
  refine V.sipush (v := (nI 255)) dP_byteOf_7 (by decide) ?_
  refine V.iand dP_byteOf_10 ?_
  rw [by_ushr x hk]
  refine V.ireturn dP_byteOf_11 rfl rfl ?_
  exact hQ
set_option maxHeartbeats 4000000 in
set_option maxRecDepth 100000 in
/-- PathTree.isByteCount -/
theorem k_isByteCount {G : GG} {h : HH} {n : Int32} {Q : Option Value → HH → Prop} (hQ : ∀ b : Bool, (b = true ↔ ∃ m, n = nI m ∧ m ≤ 8) → Q (some (.int (bI b))) h) : V G mP_isByteCount 0 (lv_args 0 [.int n]) [] h 0 0 Q := by
  rcases i8_cases n with hn | hn | ⟨m, hm, rfl⟩
  · have hno : ¬ ∃ m, n = nI m ∧ m ≤ 8 := fun ⟨m, e, hm⟩ => nI_pos (n := m) (by omega) (e ▸ hn)
    refine V.iload_n dP_isByteCount_0 rfl ?_
    refine V.if_lt (tgt := 14) dP_isByteCount_1 (by decide) (fun c_1 => ?_) (fun c_1 => ?_)
    · skip
      refine V.iconst (v := (nI 0)) dP_isByteCount_14 (by decide) ?_
      refine V.ireturn dP_isByteCount_15 rfl rfl ?_
      exact hQ false ⟨fun z => by (cases z), fun z => absurd z hno⟩
    · skip
      exact absurd hn c_1
  · have hno : ¬ ∃ m, n = nI m ∧ m ≤ 8 := fun ⟨m, e, hm⟩ => by (rw [e, nI_leI (by omega) (by omega)] at hn; omega)
    have hn8 := le8 hn
    refine V.iload_n dP_isByteCount_0 rfl ?_
    refine V.if_lt (tgt := 14) dP_isByteCount_1 (by decide) (fun c_1 => ?_) (fun c_1 => ?_)
    · skip
      refine V.iconst (v := (nI 0)) dP_isByteCount_14 (by decide) ?_
      refine V.ireturn dP_isByteCount_15 rfl rfl ?_
      exact hQ false ⟨fun z => by (cases z), fun z => absurd z hno⟩
    · skip
      refine V.iload_n dP_isByteCount_4 rfl ?_
      refine V.bipush (v := (nI 8)) dP_isByteCount_5 (by decide) ?_
      refine V.icmp_gt (tgt := 14) dP_isByteCount_7 (by decide) (fun c_7 => ?_) (fun c_7 => ?_)
      · skip
        refine V.iconst (v := (nI 0)) dP_isByteCount_14 (by decide) ?_
        refine V.ireturn dP_isByteCount_15 rfl rfl ?_
        exact hQ false ⟨fun z => by (cases z), fun z => absurd z hno⟩
      · skip
        exact absurd hn8 c_7
  · refine V.iload_n dP_isByteCount_0 rfl ?_
    refine V.if_lt (tgt := 14) dP_isByteCount_1 (by decide) (fun c_1 => ?_) (fun c_1 => ?_)
    · try simp (disch := omega) only [nI_ltI, nI_leI, nI_eq, zz_lt0, zz_ge0, zz_gt0, zz_le0, zz_eq0, zz_m1lt, zz_m1ge, zz_m1eq, bI_eq0, decide_eq_false_iff_not, decide_eq_true_eq, Decidable.not_not, not_true_eq_false, not_false_eq_true, Nat.not_lt, Nat.not_le, Bool.not_eq_false, Bool.not_eq_true] at c_1
      all_goals omega
    · try simp (disch := omega) only [nI_ltI, nI_leI, nI_eq, zz_lt0, zz_ge0, zz_gt0, zz_le0, zz_eq0, zz_m1lt, zz_m1ge, zz_m1eq, bI_eq0, decide_eq_false_iff_not, decide_eq_true_eq, Decidable.not_not, not_true_eq_false, not_false_eq_true, Nat.not_lt, Nat.not_le, Bool.not_eq_false, Bool.not_eq_true] at c_1
      refine V.iload_n dP_isByteCount_4 rfl ?_
      refine V.bipush (v := (nI 8)) dP_isByteCount_5 (by decide) ?_
      refine V.icmp_gt (tgt := 14) dP_isByteCount_7 (by decide) (fun c_7 => ?_) (fun c_7 => ?_)
      · try simp (disch := omega) only [nI_ltI, nI_leI, nI_eq, zz_lt0, zz_ge0, zz_gt0, zz_le0, zz_eq0, zz_m1lt, zz_m1ge, zz_m1eq, bI_eq0, decide_eq_false_iff_not, decide_eq_true_eq, Decidable.not_not, not_true_eq_false, not_false_eq_true, Nat.not_lt, Nat.not_le, Bool.not_eq_false, Bool.not_eq_true] at c_7
        all_goals omega
      · try simp (disch := omega) only [nI_ltI, nI_leI, nI_eq, zz_lt0, zz_ge0, zz_gt0, zz_le0, zz_eq0, zz_m1lt, zz_m1ge, zz_m1eq, bI_eq0, decide_eq_false_iff_not, decide_eq_true_eq, Decidable.not_not, not_true_eq_false, not_false_eq_true, Nat.not_lt, Nat.not_le, Bool.not_eq_false, Bool.not_eq_true] at c_7
        refine V.iconst (v := (nI 1)) dP_isByteCount_10 (by decide) ?_
        refine V.goto (tgt := 15) dP_isByteCount_11 (by decide) ?_
        refine V.ireturn dP_isByteCount_15 rfl rfl ?_
        exact hQ true ⟨fun _ => ⟨m, rfl, by omega⟩, fun _ => rfl⟩
set_option maxHeartbeats 4000000 in
set_option maxRecDepth 100000 in
/-- PathText.isPathCharacter -/
theorem k_isPathChar {G : GG} {h : HH} {c : Nat} {Q : Option Value → HH → Prop} (hc : c < 256) (hQ : Q (some (.int (bI (decide (s_pc c))))) h) : V G mT_isPathCharacter 0 (lv_args 0 [.int (nI c)]) [] h 0 0 Q := by
  refine V.iload_n dT_isPathCharacter_0 rfl ?_
  refine V.bipush (v := (nI 9)) dT_isPathCharacter_1 (by decide) ?_
  refine V.icmp_eq (tgt := 24) dT_isPathCharacter_3 (by decide) (fun c_3 => ?_) (fun c_3 => ?_)
  · try simp (disch := omega) only [nI_ltI, nI_leI, nI_eq, zz_lt0, zz_ge0, zz_gt0, zz_le0, zz_eq0, zz_m1lt, zz_m1ge, zz_m1eq, bI_eq0, decide_eq_false_iff_not, decide_eq_true_eq, Decidable.not_not, not_true_eq_false, not_false_eq_true, Nat.not_lt, Nat.not_le, Bool.not_eq_false, Bool.not_eq_true] at c_3
    refine V.iconst (v := (nI 1)) dT_isPathCharacter_24 (by decide) ?_
    refine V.goto (tgt := 29) dT_isPathCharacter_25 (by decide) ?_
    refine V.ireturn dT_isPathCharacter_29 rfl rfl ?_
    first | (rw [bI_t (by omega)] at hQ; exact hQ) | (rw [bI_f (by omega)] at hQ; exact hQ)
  · try simp (disch := omega) only [nI_ltI, nI_leI, nI_eq, zz_lt0, zz_ge0, zz_gt0, zz_le0, zz_eq0, zz_m1lt, zz_m1ge, zz_m1eq, bI_eq0, decide_eq_false_iff_not, decide_eq_true_eq, Decidable.not_not, not_true_eq_false, not_false_eq_true, Nat.not_lt, Nat.not_le, Bool.not_eq_false, Bool.not_eq_true] at c_3
    refine V.iload_n dT_isPathCharacter_6 rfl ?_
    refine V.bipush (v := (nI 10)) dT_isPathCharacter_7 (by decide) ?_
    refine V.icmp_eq (tgt := 24) dT_isPathCharacter_9 (by decide) (fun c_9 => ?_) (fun c_9 => ?_)
    · try simp (disch := omega) only [nI_ltI, nI_leI, nI_eq, zz_lt0, zz_ge0, zz_gt0, zz_le0, zz_eq0, zz_m1lt, zz_m1ge, zz_m1eq, bI_eq0, decide_eq_false_iff_not, decide_eq_true_eq, Decidable.not_not, not_true_eq_false, not_false_eq_true, Nat.not_lt, Nat.not_le, Bool.not_eq_false, Bool.not_eq_true] at c_9
      refine V.iconst (v := (nI 1)) dT_isPathCharacter_24 (by decide) ?_
      refine V.goto (tgt := 29) dT_isPathCharacter_25 (by decide) ?_
      refine V.ireturn dT_isPathCharacter_29 rfl rfl ?_
      first | (rw [bI_t (by omega)] at hQ; exact hQ) | (rw [bI_f (by omega)] at hQ; exact hQ)
    · try simp (disch := omega) only [nI_ltI, nI_leI, nI_eq, zz_lt0, zz_ge0, zz_gt0, zz_le0, zz_eq0, zz_m1lt, zz_m1ge, zz_m1eq, bI_eq0, decide_eq_false_iff_not, decide_eq_true_eq, Decidable.not_not, not_true_eq_false, not_false_eq_true, Nat.not_lt, Nat.not_le, Bool.not_eq_false, Bool.not_eq_true] at c_9
      refine V.iload_n dT_isPathCharacter_12 rfl ?_
      refine V.bipush (v := (nI 32)) dT_isPathCharacter_13 (by decide) ?_
      refine V.icmp_lt (tgt := 28) dT_isPathCharacter_15 (by decide) (fun c_15 => ?_) (fun c_15 => ?_)
      · try simp (disch := omega) only [nI_ltI, nI_leI, nI_eq, zz_lt0, zz_ge0, zz_gt0, zz_le0, zz_eq0, zz_m1lt, zz_m1ge, zz_m1eq, bI_eq0, decide_eq_false_iff_not, decide_eq_true_eq, Decidable.not_not, not_true_eq_false, not_false_eq_true, Nat.not_lt, Nat.not_le, Bool.not_eq_false, Bool.not_eq_true] at c_15
        refine V.iconst (v := (nI 0)) dT_isPathCharacter_28 (by decide) ?_
        refine V.ireturn dT_isPathCharacter_29 rfl rfl ?_
        first | (rw [bI_t (by omega)] at hQ; exact hQ) | (rw [bI_f (by omega)] at hQ; exact hQ)
      · try simp (disch := omega) only [nI_ltI, nI_leI, nI_eq, zz_lt0, zz_ge0, zz_gt0, zz_le0, zz_eq0, zz_m1lt, zz_m1ge, zz_m1eq, bI_eq0, decide_eq_false_iff_not, decide_eq_true_eq, Decidable.not_not, not_true_eq_false, not_false_eq_true, Nat.not_lt, Nat.not_le, Bool.not_eq_false, Bool.not_eq_true] at c_15
        refine V.iload_n dT_isPathCharacter_18 rfl ?_
        refine V.bipush (v := (nI 126)) dT_isPathCharacter_19 (by decide) ?_
        refine V.icmp_gt (tgt := 28) dT_isPathCharacter_21 (by decide) (fun c_21 => ?_) (fun c_21 => ?_)
        · try simp (disch := omega) only [nI_ltI, nI_leI, nI_eq, zz_lt0, zz_ge0, zz_gt0, zz_le0, zz_eq0, zz_m1lt, zz_m1ge, zz_m1eq, bI_eq0, decide_eq_false_iff_not, decide_eq_true_eq, Decidable.not_not, not_true_eq_false, not_false_eq_true, Nat.not_lt, Nat.not_le, Bool.not_eq_false, Bool.not_eq_true] at c_21
          refine V.iconst (v := (nI 0)) dT_isPathCharacter_28 (by decide) ?_
          refine V.ireturn dT_isPathCharacter_29 rfl rfl ?_
          first | (rw [bI_t (by omega)] at hQ; exact hQ) | (rw [bI_f (by omega)] at hQ; exact hQ)
        · try simp (disch := omega) only [nI_ltI, nI_leI, nI_eq, zz_lt0, zz_ge0, zz_gt0, zz_le0, zz_eq0, zz_m1lt, zz_m1ge, zz_m1eq, bI_eq0, decide_eq_false_iff_not, decide_eq_true_eq, Decidable.not_not, not_true_eq_false, not_false_eq_true, Nat.not_lt, Nat.not_le, Bool.not_eq_false, Bool.not_eq_true] at c_21
          refine V.iconst (v := (nI 1)) dT_isPathCharacter_24 (by decide) ?_
          refine V.goto (tgt := 29) dT_isPathCharacter_25 (by decide) ?_
          refine V.ireturn dT_isPathCharacter_29 rfl rfl ?_
          first | (rw [bI_t (by omega)] at hQ; exact hQ) | (rw [bI_f (by omega)] at hQ; exact hQ)
set_option maxHeartbeats 4000000 in
set_option maxRecDepth 100000 in
/-- PathText.takes -/
theorem k_takes {G : GG} {h : HH} {t : Nat} {p : Nat → Nat} {len : Nat} {Q : Option Value → HH → Prop} {x : Int64} {m : Nat} (hT : TX G h t p len) (hm : m ≤ 8) (hQ : ∀ b : Bool, (b = true ↔ len + m ≤ 250 ∧ ∀ k, k < m → s_pc (s_byt x k)) → Q (some (.int (bI b))) h) : V G mT_takes 0 (lv_args 0 [.ref t, .long x, .int (nI m)]) [] h 0 0 Q := by
  obtain ⟨ht, htk, hca, hln, hcs, hck, hch, hl2, hp⟩ := id hT
  have loop : len + m ≤ 250 → ∀ r k, k + r = m → (∀ j, j < k → s_pc (s_byt x j)) → V G mT_takes 17 [(4, .int (nI k)), (0, .ref t), (1, .long x), (3, .int (nI m))] [] h 0 0 Q := by
    intro hlm r
    induction r with
    | zero =>
      intro k hr hc
      refine V.iload dT_takes_17 rfl ?_
      refine V.iload_n dT_takes_19 rfl ?_
      refine V.icmp_ge (tgt := 43) dT_takes_20 (by decide) (fun c_20 => ?_) (fun c_20 => ?_)
      · try simp (disch := omega) only [nI_ltI, nI_leI, nI_eq, zz_lt0, zz_ge0, zz_gt0, zz_le0, zz_eq0, zz_m1lt, zz_m1ge, zz_m1eq, bI_eq0, decide_eq_false_iff_not, decide_eq_true_eq, Decidable.not_not, not_true_eq_false, not_false_eq_true, Nat.not_lt, Nat.not_le, Bool.not_eq_false, Bool.not_eq_true] at c_20
        refine V.iconst (v := (nI 1)) dT_takes_43 (by decide) ?_
        refine V.ireturn dT_takes_44 rfl rfl ?_
        exact hQ true ⟨fun _ => ⟨hlm, fun j hj => hc j (by omega)⟩, fun _ => rfl⟩
      · try simp (disch := omega) only [nI_ltI, nI_leI, nI_eq, zz_lt0, zz_ge0, zz_gt0, zz_le0, zz_eq0, zz_m1lt, zz_m1ge, zz_m1eq, bI_eq0, decide_eq_false_iff_not, decide_eq_true_eq, Decidable.not_not, not_true_eq_false, not_false_eq_true, Nat.not_lt, Nat.not_le, Bool.not_eq_false, Bool.not_eq_true] at c_20
        all_goals omega
    | succ r ih =>
      intro k hr hc
      refine V.iload dT_takes_17 rfl ?_
      refine V.iload_n dT_takes_19 rfl ?_
      refine V.icmp_ge (tgt := 43) dT_takes_20 (by decide) (fun c_20 => ?_) (fun c_20 => ?_)
      · try simp (disch := omega) only [nI_ltI, nI_leI, nI_eq, zz_lt0, zz_ge0, zz_gt0, zz_le0, zz_eq0, zz_m1lt, zz_m1ge, zz_m1eq, bI_eq0, decide_eq_false_iff_not, decide_eq_true_eq, Decidable.not_not, not_true_eq_false, not_false_eq_true, Nat.not_lt, Nat.not_le, Bool.not_eq_false, Bool.not_eq_true] at c_20
        all_goals omega
      · try simp (disch := omega) only [nI_ltI, nI_leI, nI_eq, zz_lt0, zz_ge0, zz_gt0, zz_le0, zz_eq0, zz_m1lt, zz_m1ge, zz_m1eq, bI_eq0, decide_eq_false_iff_not, decide_eq_true_eq, Decidable.not_not, not_true_eq_false, not_false_eq_true, Nat.not_lt, Nat.not_le, Bool.not_eq_false, Bool.not_eq_true] at c_20
        refine V.lload_n dT_takes_23 rfl ?_
        refine V.iload dT_takes_24 rfl ?_
        refine V.callS 0 _ 0 _ [_, _] dT_takes_26 okP_byteOf n_T_17 stP_byteOf (by decide) (by decide) rfl rfl (Nat.le_of_ble_eq_true rfl) (Nat.le_of_ble_eq_true rfl) (Nat.le_of_eq (Nat.zero_add _)) (Nat.le_of_eq (Nat.zero_add _)) (k_byteOf (by omega) ?_)
        refine V.callS 0 _ 0 _ [_] dT_takes_29 okT_isPathCharacter n_T_23 stT_isPathCharacter (by decide) (by decide) rfl rfl (Nat.le_of_ble_eq_true rfl) (Nat.le_of_ble_eq_true rfl) (Nat.le_of_eq (Nat.zero_add _)) (Nat.le_of_eq (Nat.zero_add _)) (k_isPathChar (s_byt_lt x k) ?_)
        refine V.if_ne (tgt := 37) dT_takes_32 (by decide) (fun c_32 => ?_) (fun c_32 => ?_)
        · try simp (disch := omega) only [nI_ltI, nI_leI, nI_eq, zz_lt0, zz_ge0, zz_gt0, zz_le0, zz_eq0, zz_m1lt, zz_m1ge, zz_m1eq, bI_eq0, decide_eq_false_iff_not, decide_eq_true_eq, Decidable.not_not, not_true_eq_false, not_false_eq_true, Nat.not_lt, Nat.not_le, Bool.not_eq_false, Bool.not_eq_true] at c_32
          refine V.iincN dT_takes_37 rfl (by decide) ?_
          refine V.goto (tgt := 17) dT_takes_40 (by decide) ?_
          exact V.re [4, 0, 1, 3] rfl (ih (k + 1) (by omega) (fun j hj => by (rcases Nat.lt_succ_iff_lt_or_eq.mp hj with z | z; exact hc j z; rw [z]; exact c_32)))
        · try simp (disch := omega) only [nI_ltI, nI_leI, nI_eq, zz_lt0, zz_ge0, zz_gt0, zz_le0, zz_eq0, zz_m1lt, zz_m1ge, zz_m1eq, bI_eq0, decide_eq_false_iff_not, decide_eq_true_eq, Decidable.not_not, not_true_eq_false, not_false_eq_true, Nat.not_lt, Nat.not_le, Bool.not_eq_false, Bool.not_eq_true] at c_32
          refine V.iconst (v := (nI 0)) dT_takes_35 (by decide) ?_
          refine V.ireturn dT_takes_36 rfl rfl ?_
          exact hQ false ⟨fun z => by (cases z), fun z => absurd (z.2 k (by omega)) c_32⟩
  refine V.iload_n dT_takes_0 rfl ?_
  refine V.sipush (v := (nI 250)) dT_takes_1 (by decide) ?_
  first | refine V.aload_n dT_takes_4 rfl ?_ | refine V.aload_nN dT_takes_4 rfl ?_
  refine V.getk dT_takes_5 (by assumption) (by assumption) f_T_13_1 (by assumption) ?_
  refine V.isubN dT_takes_8 (by omega) ?_
  refine V.icmp_le (tgt := 14) dT_takes_9 (by decide) (fun c_9 => ?_) (fun c_9 => ?_)
  · try simp (disch := omega) only [nI_ltI, nI_leI, nI_eq, zz_lt0, zz_ge0, zz_gt0, zz_le0, zz_eq0, zz_m1lt, zz_m1ge, zz_m1eq, bI_eq0, decide_eq_false_iff_not, decide_eq_true_eq, Decidable.not_not, not_true_eq_false, not_false_eq_true, Nat.not_lt, Nat.not_le, Bool.not_eq_false, Bool.not_eq_true] at c_9
    refine V.iconst (v := (nI 0)) dT_takes_14 (by decide) ?_
    refine V.istore dT_takes_15 (by decide) ?_
    exact V.re [4, 0, 1, 3] rfl (loop (by omega) m 0 (by omega) (fun j hj => by omega))
  · try simp (disch := omega) only [nI_ltI, nI_leI, nI_eq, zz_lt0, zz_ge0, zz_gt0, zz_le0, zz_eq0, zz_m1lt, zz_m1ge, zz_m1eq, bI_eq0, decide_eq_false_iff_not, decide_eq_true_eq, Decidable.not_not, not_true_eq_false, not_false_eq_true, Nat.not_lt, Nat.not_le, Bool.not_eq_false, Bool.not_eq_true] at c_9
    refine V.iconst (v := (nI 0)) dT_takes_12 (by decide) ?_
    refine V.ireturn dT_takes_13 rfl rfl ?_
    exact hQ false ⟨fun z => by (cases z), fun z => by omega⟩
/-- nothing but the text has changed -/
def TF (t : Nat) (h h' : HH) : Prop := h'.1 = h.1 ∧ h'.2.2 = h.2.2 ∧ ∀ b j, b ≠ t → b ≠ t + 1 → h'.2.1 b j = h.2.1 b j
theorem TF.rf {t : Nat} {h : HH} : TF t h h := ⟨rfl, rfl, fun _ _ _ _ => rfl⟩
theorem TX.grow {G : GG} {h : HH} {t : Nat} {p : Nat → Nat} {len : Nat} (hT : TX G h t p len) (hl : len < 250) (hp : p len < 256) : TX G (h_put (h_put h (t + 1) len (.int (nI (p len)))) t 1 (.int (nI (len + 1)))) t p (len + 1) := by
  obtain ⟨ht, htk, hca, hln, hcs, hck, hch, hl2, hp2⟩ := hT
  refine ⟨ht, htk, (hp_j (by omega)).trans ((hp_a (by omega)).trans hca), hp_eq, hcs, hck, fun j hj => ?_, by omega, fun j hj => ?_⟩
  · rw [hp_a (by omega)]
    by_cases e : j = len
    · subst e; exact hp_eq
    · rw [hp_j e]; exact hch j (by omega)
  · by_cases e : j = len
    · subst e; exact hp
    · exact hp2 j (by omega)
theorem TX.clr {G : GG} {h : HH} {t : Nat} {p : Nat → Nat} {len : Nat} (hT : TX G h t p len) : TX G (h_put h t 1 (.int (nI 0))) t p 0 := by
  obtain ⟨ht, htk, hca, hln, hcs, hck, hch, hl2, hp2⟩ := hT
  exact ⟨ht, htk, (hp_j (by omega)).trans hca, hp_eq, hcs, hck, fun j hj => by omega, by omega, fun j hj => by omega⟩
theorem TX.path {G : GG} {h : HH} {t : Nat} {p p' : Nat → Nat} {len : Nat} (hT : TX G h t p len) (he : ∀ j, j < len → p' j = p j) : TX G h t p' len := by
  obtain ⟨ht, htk, hca, hln, hcs, hck, hch, hl2, hp2⟩ := hT
  exact ⟨ht, htk, hca, hln, hcs, hck, fun j hj => by rw [he j hj]; exact hch j hj, hl2, fun j hj => by rw [he j hj]; exact hp2 j hj⟩
theorem s_app_l {p : Nat → Nat} {len : Nat} {x : Int64} {m j : Nat} (h : j < len) : s_app p len x m j = p j := by unfold s_app; rw [if_pos h]
theorem s_app_r {p : Nat → Nat} {len : Nat} {x : Int64} {m q : Nat} (h : q < m) : s_app p len x m (len + (m - (q + 1))) = s_byt x q := by
  unfold s_app
  rw [if_neg (by omega)]
  congr 1
  omega
set_option maxHeartbeats 4000000 in
set_option maxRecDepth 100000 in
/-- PathText.append -/
theorem k_append {G : GG} {h : HH} {t : Nat} {p : Nat → Nat} {len : Nat} {Q : Option Value → HH → Prop} {x : Int64} {m : Nat} (hT : TX G h t p len) (hm : m ≤ 8) (hlm : len + m ≤ 250) (hQ : ∀ h', TX G h' t (s_app p len x m) (len + m) → TF t h h' → Q none h') : V G mT_append 0 (lv_args 0 [.ref t, .long x, .int (nI m)]) [] h 0 0 Q := by
  have loop : ∀ q hq, q ≤ m → TX G hq t (s_app p len x m) (len + (m - q)) → TF t h hq → V G mT_append 5 [(4, .int (lm q)), (0, .ref t), (1, .long x), (3, .int (nI m))] [] hq 0 0 Q := by
    intro q
    induction q with
    | zero =>
      intro hq hqm hT hF
      refine V.iload dT_append_5 rfl ?_
      refine V.if_lt (tgt := 52) dT_append_7 (by decide) (fun c_7 => ?_) (fun c_7 => ?_)
      · skip
        refine V.vreturn dT_append_52 rfl ?_
        exact hQ hq hT hF
      · skip
        exact absurd (show lm 0 < 0 by decide) c_7
    | succ q ih =>
      intro hq hqm hT hF
      obtain ⟨ht, htk, hca, hln, hcs, hck, hch, hl2, hp⟩ := id hT
      refine V.iload dT_append_5 rfl ?_
      refine V.if_lt (tgt := 52) dT_append_7 (by decide) (fun c_7 => ?_) (fun c_7 => ?_)
      · try simp (disch := omega) only [lm_s, zz_lt0, not_false_eq_true] at c_7
        
      · try simp (disch := omega) only [lm_s, zz_lt0, not_false_eq_true] at c_7
        first | refine V.aload_n dT_append_10 rfl ?_ | refine V.aload_nN dT_append_10 rfl ?_
        refine V.getk dT_append_11 ht htk f_T_13_1 hln ?_
        refine V.sipush (v := (nI 250)) dT_append_14 (by decide) ?_
        refine V.icmp_ge (tgt := 52) dT_append_17 (by decide) (fun c_17 => ?_) (fun c_17 => ?_)
        · try simp (disch := omega) only [nI_ltI, nI_leI, nI_eq, zz_lt0, zz_ge0, zz_gt0, zz_le0, zz_eq0, zz_m1lt, zz_m1ge, zz_m1eq, bI_eq0, decide_eq_false_iff_not, decide_eq_true_eq, Decidable.not_not, not_true_eq_false, not_false_eq_true, Nat.not_lt, Nat.not_le, Bool.not_eq_false, Bool.not_eq_true] at c_17
          all_goals omega
        · try simp (disch := omega) only [nI_ltI, nI_leI, nI_eq, zz_lt0, zz_ge0, zz_gt0, zz_le0, zz_eq0, zz_m1lt, zz_m1ge, zz_m1eq, bI_eq0, decide_eq_false_iff_not, decide_eq_true_eq, Decidable.not_not, not_true_eq_false, not_false_eq_true, Nat.not_lt, Nat.not_le, Bool.not_eq_false, Bool.not_eq_true] at c_17
          first | refine V.aload_n dT_append_20 rfl ?_ | refine V.aload_nN dT_append_20 rfl ?_
          refine V.getk dT_append_21 ht htk f_T_9_1 hca ?_
          first | refine V.aload_n dT_append_24 rfl ?_ | refine V.aload_nN dT_append_24 rfl ?_
          refine V.getk dT_append_25 ht htk f_T_13_1 hln ?_
          refine V.lload_n dT_append_28 rfl ?_
          refine V.iload dT_append_29 rfl ?_
          rw [lm_s]
          refine V.callS 0 _ 0 _ [_, _] dT_append_31 okP_byteOf n_T_17 stP_byteOf (by decide) (by decide) rfl rfl (Nat.le_of_ble_eq_true rfl) (Nat.le_of_ble_eq_true rfl) (Nat.le_of_eq (Nat.zero_add _)) (Nat.le_of_eq (Nat.zero_add _)) (k_byteOf (by omega) ?_)
          refine V.i2c dT_append_34 (ch_i2c _ (s_byt_lt x q)) ?_
          refine V.castoreN dT_append_35 hcs hck (by omega) (ch_nar _ (s_byt_lt x q)) ?_
          intro h35 e35
          have hln2 : h35.2.1 t 1 = .int (nI (len + (m - (q + 1)))) := by (rw [e35]; exact (hp_a (by omega)).trans hln)
          have ht2 : g_0 G ≤ t ∧ t < h35.2.2 := by (rw [e35]; exact ht)
          have htk2 : (h35.1 t).1 = 1 := by (rw [e35]; exact htk)
          first | refine V.aload_n dT_append_36 rfl ?_ | refine V.aload_nN dT_append_36 rfl ?_
          refine V.dup dT_append_37 rfl ?_
          refine V.getk dT_append_38 ht2 htk2 f_T_13_1 hln2 ?_
          refine V.iconst (v := (nI 1)) dT_append_41 (by decide) ?_
          refine V.iaddN dT_append_42 ?_
          refine V.putk dT_append_43 ht2 htk2 p_T_13_1 rfl rfl ?_
          intro h43 e43
          refine V.iinc (v := lm q) dT_append_46 rfl (by (show nI q + Int32.ofInt (-1) = nI q - 1; rw [show Int32.ofInt (-1) = -1 by decide, Int32.sub_eq_add_neg])) (by decide) ?_
          refine V.goto (tgt := 5) dT_append_49 (by decide) ?_
          refine V.re [4, 0, 1, 3] rfl (ih h43 (by omega) ?_ ?_)
          · have h9 := hT.grow (by omega) (by rw [s_app_r (by omega)]; exact s_byt_lt x q)
            rw [s_app_r (by omega)] at h9
            rw [e43, e35, show len + (m - q) = len + (m - (q + 1)) + 1 by omega]
            exact h9
          · refine ⟨by rw [e43, e35]; exact hF.1, by rw [e43, e35]; exact hF.2.1, fun b j hb1 hb2 => ?_⟩
            rw [e43, e35, hp_a hb1, hp_a hb2]
            exact hF.2.2 b j hb1 hb2
  refine V.iload_n dT_append_0 rfl ?_
  refine V.iconst (v := (nI 1)) dT_append_1 (by decide) ?_
  refine V.isub dT_append_2 ?_
  refine V.istore dT_append_3 (by decide) ?_
  exact V.re [4, 0, 1, 3] rfl (loop m h (by omega) (by rw [Nat.sub_self]; exact hT.path (fun j hj => s_app_l hj)) TF.rf)
/-- a new array of the characters f .. t - 1 -/
def NC (h h' : HH) (q : Nat → Nat) (f n : Nat) : Prop := h'.2.2 = h.2.2 + 1 ∧ h'.1 h.2.2 = (101, n) ∧ (∀ k, k < n → h'.2.1 h.2.2 k = .int (nI (q (f + k)))) ∧ ∀ b, b < h.2.2 → h'.1 b = h.1 b ∧ ∀ j, h'.2.1 b j = h.2.1 b j
theorem hc_in {h : HH} {a sp d dp n j : Nat} (h1 : dp ≤ j) (h2 : j < dp + n) : (h_cpy h a sp d dp n).2.1 d j = h.2.1 a (sp + (j - dp)) := by
  show (if d = d ∧ dp ≤ j ∧ j < dp + n then _ else _) = _
  rw [if_pos ⟨rfl, h1, h2⟩]
theorem hc_a {h : HH} {a sp d dp n b j : Nat} (h1 : b ≠ d) : (h_cpy h a sp d dp n).2.1 b j = h.2.1 b j := by
  show (if b = d ∧ dp ≤ j ∧ j < dp + n then _ else _) = _
  rw [if_neg (fun z => h1 z.1)]
theorem hc_o {h : HH} {a sp d dp n b j : Nat} (h1 : dp + n ≤ j) : (h_cpy h a sp d dp n).2.1 b j = h.2.1 b j := by
  show (if b = d ∧ dp ≤ j ∧ j < dp + n then _ else _) = _
  rw [if_neg (fun z => by omega)]
theorem min_n {a b : Nat} (hb : b < 2 ^ 31) (ha : a < 2 ^ 31) : (if nI b < nI a then nI b else nI a) = nI (min a b) := by
  by_cases z : b < a
  · rw [if_pos ((nI_ltI hb ha).mpr z), Nat.min_eq_right (by omega)]
  · rw [if_neg (fun w => z ((nI_ltI hb ha).mp w)), Nat.min_eq_left (by omega)]
set_option maxHeartbeats 4000000 in
set_option maxRecDepth 100000 in
/-- Arrays.checkLength -/
theorem k_check {G : GG} {h : HH} {f t : Nat} {Q : Option Value → HH → Prop} (hft : f ≤ t) (ht : t < 2 ^ 20) (hQ : Q none h) : V G mJ_checkLength 0 (lv_args 0 [.int (nI f), .int (nI t)]) [] h 0 0 Q := by
  refine V.iload_n dJ_checkLength_0 rfl ?_
  refine V.iload_n dJ_checkLength_1 rfl ?_
  refine V.icmp_ge (tgt := 37) dJ_checkLength_2 (by decide) (fun c_2 => ?_) (fun c_2 => ?_)
  · try simp (disch := omega) only [nI_ltI, nI_leI, nI_eq, zz_lt0, zz_ge0, zz_gt0, zz_le0, zz_eq0, zz_m1lt, zz_m1ge, zz_m1eq, bI_eq0, decide_eq_false_iff_not, decide_eq_true_eq, Decidable.not_not, not_true_eq_false, not_false_eq_true, Nat.not_lt, Nat.not_le, Bool.not_eq_false, Bool.not_eq_true] at c_2
    refine V.vreturn dJ_checkLength_37 rfl ?_
    exact hQ
  · try simp (disch := omega) only [nI_ltI, nI_leI, nI_eq, zz_lt0, zz_ge0, zz_gt0, zz_le0, zz_eq0, zz_m1lt, zz_m1ge, zz_m1eq, bI_eq0, decide_eq_false_iff_not, decide_eq_true_eq, Decidable.not_not, not_true_eq_false, not_false_eq_true, Nat.not_lt, Nat.not_le, Bool.not_eq_false, Bool.not_eq_true] at c_2
    all_goals omega
set_option maxHeartbeats 4000000 in
set_option maxRecDepth 100000 in
/-- Arrays.copyOfRangeChar -/
theorem k_copyC {G : GG} {h : HH} {cc N f t : Nat} {q : Nat → Nat} {Q : Option Value → HH → Prop} (hC : CS G h cc N q f t) (hQ : ∀ h', NC h h' q f (t - f) → Q (some (.ref h.2.2)) h') : V G mJ_copyOfRangeChar 0 (lv_args 0 [.ref cc, .int (nI f), .int (nI t)]) [] h 1 (t - f) Q := by
  obtain ⟨hc1, hc2, hc3, hc4, hc5, hc6, hc7⟩ := id hC
  refine V.iload_n dJ_copyOfRangeChar_0 rfl ?_
  refine V.iload_n dJ_copyOfRangeChar_1 rfl ?_
  refine V.callS 0 1 0 (t - f) [_, _] dJ_copyOfRangeChar_2 okJ_checkLength n_J_343 stJ_checkLength (by decide) (by decide) rfl rfl (Nat.le_of_ble_eq_true rfl) (Nat.le_of_ble_eq_true rfl) (by omega) (by omega) (k_check hc4 (by omega) ?_)
  refine V.iload_n dJ_copyOfRangeChar_5 rfl ?_
  refine V.iload_n dJ_copyOfRangeChar_6 rfl ?_
  refine V.isubN dJ_copyOfRangeChar_7 (by omega) ?_
  refine V.istore_n dJ_copyOfRangeChar_8 (by decide) ?_
  refine V.iload_n dJ_copyOfRangeChar_9 rfl ?_
  refine V.newaN (kd := 101) (c2 := 0) (s2 := 0) dJ_copyOfRangeChar_10 rfl ar_char rfl (by omega) (by omega) (by omega) rfl ?_
  intro h10 e10 z10
  have kk : ∀ b, b < h.2.2 → h10.1 b = h.1 b ∧ ∀ j, h10.2.1 b j = h.2.1 b j := fun b hb => ⟨by rw [e10]; exact hn_kn (by omega), fun j => by rw [e10]; exact hn_fn (by omega)⟩
  have hkn : h10.1 h.2.2 = (101, t - f) := by (rw [e10]; exact hn_k rfl)
  have hcc : h10.1 cc = (101, N) := (kk cc hc1.2).1.trans hc2
  first | refine V.astore dJ_copyOfRangeChar_12 (by decide) ?_ | refine V.astoreN dJ_copyOfRangeChar_12 (by decide) ?_
  first | refine V.aload_n dJ_copyOfRangeChar_14 rfl ?_ | refine V.aload_nN dJ_copyOfRangeChar_14 rfl ?_
  refine V.iload_n dJ_copyOfRangeChar_15 rfl ?_
  first | refine V.aload dJ_copyOfRangeChar_16 rfl ?_ | refine V.aloadN dJ_copyOfRangeChar_16 rfl ?_
  refine V.iconst (v := (nI 0)) dJ_copyOfRangeChar_18 (by decide) ?_
  first | refine V.aload_n dJ_copyOfRangeChar_19 rfl ?_ | refine V.aload_nN dJ_copyOfRangeChar_19 rfl ?_
  refine V.alenN dJ_copyOfRangeChar_20 ⟨hc1.1, by omega⟩ hcc rfl ?_
  refine V.iload_n dJ_copyOfRangeChar_21 rfl ?_
  refine V.isubN dJ_copyOfRangeChar_22 (by omega) ?_
  refine V.iload_n dJ_copyOfRangeChar_23 rfl ?_
  refine V.mmin dJ_copyOfRangeChar_24 nl_J_304 mi_1 mi_2 mi_3 (by decide) (by decide) (Nat.le_of_ble_eq_true rfl) ?_
  rw [min_n (by omega) (by omega), Nat.min_eq_right (by omega)]
  refine V.acopy (ty := .char) dJ_copyOfRangeChar_27 nl_J_150 ac_1 ac_2 ac_3 (by decide) (by decide) (Nat.le_of_ble_eq_true rfl) ⟨hc1.1, by omega⟩ ⟨by omega, by omega⟩ (by rw [hcc]; rfl) (by rw [hkn]; rfl) rfl (by rw [hcc]; show N < _; omega) (by rw [hkn]; show t - f < _; omega) (by rw [hcc]; show f + (t - f) ≤ N; omega) (by rw [hkn]; show 0 + (t - f) ≤ t - f; omega) (fun j hj => ⟨nI (q (f + j)), ((kk cc hc1.2).2 (f + j)).trans (hc6 (f + j) (by omega) (by omega)), ch_fit _ (hc7 (f + j) (by omega) (by omega))⟩) ?_
  first | refine V.aload dJ_copyOfRangeChar_30 rfl ?_ | refine V.aloadN dJ_copyOfRangeChar_30 rfl ?_
  first | refine V.areturn dJ_copyOfRangeChar_32 rfl (by simp) ?_ | refine V.areturnN dJ_copyOfRangeChar_32 rfl (by simp) ?_
  refine hQ _ ⟨z10, hkn, fun k hk => ?_, fun b hb => ⟨(kk b hb).1, fun j => (hc_a (by omega)).trans ((kk b hb).2 j)⟩⟩
  rw [hc_in (by omega) (by omega), (kk cc hc1.2).2]
  exact (hc6 _ (by omega) (by omega)).trans (by rw [Nat.sub_zero])
set_option maxHeartbeats 4000000 in
set_option maxRecDepth 100000 in
/-- Arrays.copyOfRange -/
theorem k_copyR {G : GG} {h : HH} {cc N f t : Nat} {q : Nat → Nat} {Q : Option Value → HH → Prop} (hC : CS G h cc N q f t) (hno : ¬ (f = 0 ∧ t = N)) (hQ : ∀ h', NC h h' q f (t - f) → Q (some (.ref h.2.2)) h') : V G mJ_copyOfRange 0 (lv_args 0 [.ref cc, .int (nI f), .int (nI t)]) [] h 1 (t - f) Q := by
  obtain ⟨hc1, hc2, hc3, hc4, hc5, hc6, hc7⟩ := id hC
  refine V.iload_n dJ_copyOfRange_0 rfl ?_
  refine V.if_ne (tgt := 10) dJ_copyOfRange_1 (by decide) (fun c_1 => ?_) (fun c_1 => ?_)
  · try simp (disch := omega) only [nI_ltI, nI_leI, nI_eq, zz_lt0, zz_ge0, zz_gt0, zz_le0, zz_eq0, zz_m1lt, zz_m1ge, zz_m1eq, bI_eq0, decide_eq_false_iff_not, decide_eq_true_eq, Decidable.not_not, not_true_eq_false, not_false_eq_true, Nat.not_lt, Nat.not_le, Bool.not_eq_false, Bool.not_eq_true] at c_1
    first | refine V.aload_n dJ_copyOfRange_10 rfl ?_ | refine V.aload_nN dJ_copyOfRange_10 rfl ?_
    refine V.iload_n dJ_copyOfRange_11 rfl ?_
    refine V.iload_n dJ_copyOfRange_12 rfl ?_
    refine V.callS 1 0 (t - f) 0 [_, _, _] dJ_copyOfRange_13 okJ_copyOfRangeChar n_J_359 stJ_copyOfRangeChar (by decide) (by decide) rfl rfl (Nat.le_of_ble_eq_true rfl) (Nat.le_of_ble_eq_true rfl) (by omega) (by omega) (k_copyC hC (fun h9 hN => ?_))
    first | refine V.areturn dJ_copyOfRange_16 rfl (by simp) ?_ | refine V.areturnN dJ_copyOfRange_16 rfl (by simp) ?_
    exact hQ h9 hN
  · try simp (disch := omega) only [nI_ltI, nI_leI, nI_eq, zz_lt0, zz_ge0, zz_gt0, zz_le0, zz_eq0, zz_m1lt, zz_m1ge, zz_m1eq, bI_eq0, decide_eq_false_iff_not, decide_eq_true_eq, Decidable.not_not, not_true_eq_false, not_false_eq_true, Nat.not_lt, Nat.not_le, Bool.not_eq_false, Bool.not_eq_true] at c_1
    refine V.iload_n dJ_copyOfRange_4 rfl ?_
    first | refine V.aload_n dJ_copyOfRange_5 rfl ?_ | refine V.aload_nN dJ_copyOfRange_5 rfl ?_
    refine V.alenN dJ_copyOfRange_6 hc1 hc2 rfl ?_
    refine V.icmp_eq (tgt := 17) dJ_copyOfRange_7 (by decide) (fun c_7 => ?_) (fun c_7 => ?_)
    · try simp (disch := omega) only [nI_ltI, nI_leI, nI_eq, zz_lt0, zz_ge0, zz_gt0, zz_le0, zz_eq0, zz_m1lt, zz_m1ge, zz_m1eq, bI_eq0, decide_eq_false_iff_not, decide_eq_true_eq, Decidable.not_not, not_true_eq_false, not_false_eq_true, Nat.not_lt, Nat.not_le, Bool.not_eq_false, Bool.not_eq_true] at c_7
      omega
    · try simp (disch := omega) only [nI_ltI, nI_leI, nI_eq, zz_lt0, zz_ge0, zz_gt0, zz_le0, zz_eq0, zz_m1lt, zz_m1ge, zz_m1eq, bI_eq0, decide_eq_false_iff_not, decide_eq_true_eq, Decidable.not_not, not_true_eq_false, not_false_eq_true, Nat.not_lt, Nat.not_le, Bool.not_eq_false, Bool.not_eq_true] at c_7
      first | refine V.aload_n dJ_copyOfRange_10 rfl ?_ | refine V.aload_nN dJ_copyOfRange_10 rfl ?_
      refine V.iload_n dJ_copyOfRange_11 rfl ?_
      refine V.iload_n dJ_copyOfRange_12 rfl ?_
      refine V.callS 1 0 (t - f) 0 [_, _, _] dJ_copyOfRange_13 okJ_copyOfRangeChar n_J_359 stJ_copyOfRangeChar (by decide) (by decide) rfl rfl (Nat.le_of_ble_eq_true rfl) (Nat.le_of_ble_eq_true rfl) (by omega) (by omega) (k_copyC hC (fun h9 hN => ?_))
      first | refine V.areturn dJ_copyOfRange_16 rfl (by simp) ?_ | refine V.areturnN dJ_copyOfRange_16 rfl (by simp) ?_
      exact hQ h9 hN
set_option maxHeartbeats 4000000 in
set_option maxRecDepth 100000 in
/-- PathText.lastName -/
theorem k_lastName {G : GG} {h : HH} {t : Nat} {p : Nat → Nat} {len : Nat} {Q : Option Value → HH → Prop} (hT : TX G h t p len) (hnl : len - s_last p len ≤ 60) (hQ : ∀ h', NC h h' p (s_last p len) (len - s_last p len) → Q (some (.ref h.2.2)) h') : V G mT_lastName 0 (lv_args 0 [.ref t]) [] h 1 (len - s_last p len) Q := by
  obtain ⟨ht, htk, hca, hln, hcs, hck, hch, hl2, hp⟩ := id hT
  have hll := s_last_le p len
  first | refine V.aload_n dT_lastName_0 rfl ?_ | refine V.aload_nN dT_lastName_0 rfl ?_
  refine V.getk dT_lastName_1 (by assumption) (by assumption) f_T_9_1 (by assumption) ?_
  first | refine V.aload_n dT_lastName_4 rfl ?_ | refine V.aload_nN dT_lastName_4 rfl ?_
  refine V.callVk (kd := 1) 0 1 0 (len - s_last p len) [] dT_lastName_5 okT_lastSlash n_T_34 (by assumption) (by assumption) rfl imT_lastSlash seT_lastSlash_T (by decide) (by decide) rfl rfl (Nat.le_of_ble_eq_true rfl) (Nat.le_of_ble_eq_true rfl) (by omega) (by omega) (k_lastSlash hT ?_)
  refine V.iconst (v := (nI 1)) dT_lastName_8 (by decide) ?_
  refine V.iadd dT_lastName_9 ?_
  rw [lm_add]
  first | refine V.aload_n dT_lastName_10 rfl ?_ | refine V.aload_nN dT_lastName_10 rfl ?_
  refine V.getk dT_lastName_11 (by assumption) (by assumption) f_T_13_1 (by assumption) ?_
  refine V.callS 1 0 (len - s_last p len) 0 [_, _, _] dT_lastName_14 okJ_copyOfRange n_T_45 stJ_copyOfRange (by decide) (by decide) rfl rfl (Nat.le_of_ble_eq_true rfl) (Nat.le_of_ble_eq_true rfl) (by omega) (by omega) (k_copyR (N := 250) (q := p) ⟨hcs, hck, by omega, by omega, by omega, fun j h1 h2 => hch j h2, fun j h1 h2 => hp j h2⟩ (by omega) (fun h9 hN => ?_))
  first | refine V.areturn dT_lastName_17 rfl (by simp) ?_ | refine V.areturnN dT_lastName_17 rfl (by simp) ?_
  exact hQ h9 hN
