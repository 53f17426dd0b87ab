theorem by_k8 {n : Nat} (h : n < 256) : (nI n).toInt8.toInt32 &&& nI 255 = nI n := sc_k8 n h
section VNW2
variable {G : GG} {i : MM} {pc : Nat} {lv : List (Nat × Value)} {st : List Value} {h : HH} {c s : Nat} {Q Q' : Option Value → HH → Prop}
theorem V.newaN {at_ : ArrayType} {kd c2 s2 q : Nat} {n : Int32} {N : Nat} (hd : decode (m_C i) pc = .ok (.newarray at_, 2)) (hk : k_ty kd = some (newarray.typeOf at_)) (hw : Cond.arrayClass (newarray.typeOf at_) ∈ tb) (hn : n = nI N) (hN : N < 2 ^ 20) (hc : c2 + 1 ≤ c) (hs : s2 + N ≤ s) (hq : h.2.2 = q)
    (kk : ∀ h', h' = h_new h kd N (fun _ => defaultValue (newarray.typeOf at_)) → h'.2.2 = q + 1 → V G i (pc + 2) lv (.ref q :: st) h' c2 s2 Q) : V G i pc lv (.int n :: st) h c s Q := by
  subst hq
  exact V.newarray hd hk hw hn hN hc hs (kk _ rfl rfl)
end VNW2
theorem hn_k {h : HH} {kd n q : Nat} {f : Nat → Value} (hq : h.2.2 = q) : (h_new h kd n f).1 q = (kd, n) := by subst hq; exact h_new_k
theorem hn_kn {h : HH} {kd n a : Nat} {f : Nat → Value} (ha : a ≠ h.2.2) : (h_new h kd n f).1 a = h.1 a := by show (if a = h.2.2 then _ else _) = _; rw [if_neg ha]
theorem hn_f {h : HH} {kd n q j : Nat} {f : Nat → Value} (hq : h.2.2 = q) : (h_new h kd n f).2.1 q j = f j := by subst hq; rw [h_new_f]
theorem hn_fn {h : HH} {kd n a j : Nat} {f : Nat → Value} (ha : a ≠ h.2.2) : (h_new h kd n f).2.1 a j = h.2.1 a j := by show (if a = h.2.2 then _ else _) = _; rw [if_neg ha]
set_option maxHeartbeats 4000000 in
set_option maxRecDepth 100000 in
/-- PathTreeModel.byteAt -/
theorem kR_byteAt {G : GG} {h : HH} {o : Nat} {T : TT} {p : Nat → Nat} {len hand : Nat} {op : Option Nat} {gone : Bool} {ents : Nat} {bl : List (Nat × Nat)} {Q : Option Value → HH → Prop} {j : Int32} (hI : RI G h o T p len hand op gone ents bl) (hQ : Q (some (.int (s_byteAt op gone bl j))) h) : V G mR_byteAt 0 (lv_args 0 [.ref o, .int j]) [] h 0 0 Q := by
  obtain ⟨hS, hP, hT, hH, hO, hg, hE, hB, hop⟩ := id hI
  obtain ⟨hz, hk0, hk1, hk2, hk3, hk4, hk5, hk6, hk7, hk8, hf0, hf2, hf3, hf4, hf5, hf6, hf12, hf13⟩ := id hS
  obtain ⟨hln, hpp, hl2, hp⟩ := id hP
  obtain ⟨hkd, hkd2, hin, hin2, hns, hns2, hnm, hnm2⟩ := id hT
  obtain ⟨hhand, hhl⟩ := id hH
  obtain ⟨b1, b2, b3, b4, b5, b6⟩ := id hB
  cases hop2 : op with
  | none =>
    subst hop2
    have hO9 : h.2.1 o 9 = .int (-1) := hO
    first | refine V.aload_n dR_byteAt_0 rfl ?_ | refine V.aload_nN dR_byteAt_0 rfl ?_
    refine V.getk dR_byteAt_1 (by omega) (by assumption) f_R_32_4 hO9 ?_
    refine V.if_lt (tgt := 31) dR_byteAt_4 (by decide) (fun c_4 => ?_) (fun c_4 => ?_)
    · try simp only [zz_m1lt, zz_m1ge, not_true_eq_false, not_false_eq_true] at c_4
      refine V.iconst (v := (-1)) dR_byteAt_31 (by decide) ?_
      refine V.ireturn dR_byteAt_32 rfl rfl ?_
      exact hQ
    · try simp only [zz_m1lt, zz_m1ge, not_true_eq_false, not_false_eq_true] at c_4
      all_goals omega
  | some e =>
    subst hop2
    have he := hop e rfl
    have hO9 : h.2.1 o 9 = .int (nI e) := hO
    cases hgo : gone with
    | true =>
      subst hgo
      have hg9 : h.2.1 o 10 = .int (bI true) := hg
      have e1 : s_byteAt (some e) true bl j = -1 := rfl
      rw [e1] at hQ
      first | refine V.aload_n dR_byteAt_0 rfl ?_ | refine V.aload_nN dR_byteAt_0 rfl ?_
      refine V.getk dR_byteAt_1 (by omega) (by assumption) f_R_32_4 hO9 ?_
      refine V.if_lt (tgt := 31) dR_byteAt_4 (by decide) (fun c_4 => ?_) (fun c_4 => ?_)
      · try simp (disch := omega) only [nI_ltI, nI_leI, nI_eq, zz_lt0, zz_ge0, zz_gt0, zz_le0, zz_eq0, zz_m1lt, zz_m1ge, zz_m1eq, bI_eq0, decide_eq_false_iff_not, decide_eq_true_eq, Decidable.not_not, not_true_eq_false, not_false_eq_true, Nat.not_lt, Nat.not_le, Bool.not_eq_false, Bool.not_eq_true] at c_4
        all_goals omega
      · try simp (disch := omega) only [nI_ltI, nI_leI, nI_eq, zz_lt0, zz_ge0, zz_gt0, zz_le0, zz_eq0, zz_m1lt, zz_m1ge, zz_m1eq, bI_eq0, decide_eq_false_iff_not, decide_eq_true_eq, Decidable.not_not, not_true_eq_false, not_false_eq_true, Nat.not_lt, Nat.not_le, Bool.not_eq_false, Bool.not_eq_true] at c_4
        first | refine V.aload_n dR_byteAt_7 rfl ?_ | refine V.aload_nN dR_byteAt_7 rfl ?_
        refine V.getk dR_byteAt_8 (by omega) (by assumption) f_R_83_4 hg9 ?_
        refine V.if_ne (tgt := 31) dR_byteAt_11 (by decide) (fun c_11 => ?_) (fun c_11 => ?_)
        · skip
          refine V.iconst (v := (-1)) dR_byteAt_31 (by decide) ?_
          refine V.ireturn dR_byteAt_32 rfl rfl ?_
          exact hQ
        · skip
          exact absurd c_11 (by decide)
    | false =>
      subst hgo
      have hg9 : h.2.1 o 10 = .int (bI false) := hg
      have hfb := fb_le bl e
      rcases pk_ix j (n := (s_fb bl e).length) (by omega) with hj | hj | ⟨y, hy, rfl⟩
      · have e1 : s_byteAt (some e) false bl j = -1 := by (simp only [s_byteAt]; rw [if_neg (by decide), if_neg (fun z => z (Or.inl hj))])
        rw [e1] at hQ
        first | refine V.aload_n dR_byteAt_0 rfl ?_ | refine V.aload_nN dR_byteAt_0 rfl ?_
        refine V.getk dR_byteAt_1 (by omega) (by assumption) f_R_32_4 hO9 ?_
        refine V.if_lt (tgt := 31) dR_byteAt_4 (by decide) (fun c_4 => ?_) (fun c_4 => ?_)
        · try simp (disch := omega) only [nI_ltI, nI_leI, nI_eq, zz_lt0, zz_ge0, zz_gt0, zz_le0, zz_eq0, zz_m1lt, zz_m1ge, zz_m1eq, bI_eq0, decide_eq_false_iff_not, decide_eq_true_eq, Decidable.not_not, not_true_eq_false, not_false_eq_true, Nat.not_lt, Nat.not_le, Bool.not_eq_false, Bool.not_eq_true] at c_4
          all_goals omega
        · try simp (disch := omega) only [nI_ltI, nI_leI, nI_eq, zz_lt0, zz_ge0, zz_gt0, zz_le0, zz_eq0, zz_m1lt, zz_m1ge, zz_m1eq, bI_eq0, decide_eq_false_iff_not, decide_eq_true_eq, Decidable.not_not, not_true_eq_false, not_false_eq_true, Nat.not_lt, Nat.not_le, Bool.not_eq_false, Bool.not_eq_true] at c_4
          first | refine V.aload_n dR_byteAt_7 rfl ?_ | refine V.aload_nN dR_byteAt_7 rfl ?_
          refine V.getk dR_byteAt_8 (by omega) (by assumption) f_R_83_4 hg9 ?_
          refine V.if_ne (tgt := 31) dR_byteAt_11 (by decide) (fun c_11 => ?_) (fun c_11 => ?_)
          · skip
            exact absurd (by decide) c_11
          · skip
            refine V.iload_n dR_byteAt_14 rfl ?_
            refine V.if_lt (tgt := 31) dR_byteAt_15 (by decide) (fun c_15 => ?_) (fun c_15 => ?_)
            · skip
              refine V.iconst (v := (-1)) dR_byteAt_31 (by decide) ?_
              refine V.ireturn dR_byteAt_32 rfl rfl ?_
              exact hQ
            · skip
              exact absurd hj c_15
      · have e1 : s_byteAt (some e) false bl j = -1 := by
          simp only [s_byteAt]
          rw [if_neg (by decide), if_neg (fun z => ?_)]
          have z2 := (vp_in_iff (n := (s_fb bl e).length)).mp z
          rw [Int32.le_iff_toInt_le, nI_toInt (by omega)] at hj
          omega
        rw [e1] at hQ
        first | refine V.aload_n dR_byteAt_0 rfl ?_ | refine V.aload_nN dR_byteAt_0 rfl ?_
        refine V.getk dR_byteAt_1 (by omega) (by assumption) f_R_32_4 hO9 ?_
        refine V.if_lt (tgt := 31) dR_byteAt_4 (by decide) (fun c_4 => ?_) (fun c_4 => ?_)
        · try simp (disch := omega) only [nI_ltI, nI_leI, nI_eq, zz_lt0, zz_ge0, zz_gt0, zz_le0, zz_eq0, zz_m1lt, zz_m1ge, zz_m1eq, bI_eq0, decide_eq_false_iff_not, decide_eq_true_eq, Decidable.not_not, not_true_eq_false, not_false_eq_true, Nat.not_lt, Nat.not_le, Bool.not_eq_false, Bool.not_eq_true] at c_4
          all_goals omega
        · try simp (disch := omega) only [nI_ltI, nI_leI, nI_eq, zz_lt0, zz_ge0, zz_gt0, zz_le0, zz_eq0, zz_m1lt, zz_m1ge, zz_m1eq, bI_eq0, decide_eq_false_iff_not, decide_eq_true_eq, Decidable.not_not, not_true_eq_false, not_false_eq_true, Nat.not_lt, Nat.not_le, Bool.not_eq_false, Bool.not_eq_true] at c_4
          first | refine V.aload_n dR_byteAt_7 rfl ?_ | refine V.aload_nN dR_byteAt_7 rfl ?_
          refine V.getk dR_byteAt_8 (by omega) (by assumption) f_R_83_4 hg9 ?_
          refine V.if_ne (tgt := 31) dR_byteAt_11 (by decide) (fun c_11 => ?_) (fun c_11 => ?_)
          · skip
            exact absurd (by decide) c_11
          · skip
            refine V.iload_n dR_byteAt_14 rfl ?_
            refine V.if_lt (tgt := 31) dR_byteAt_15 (by decide) (fun c_15 => ?_) (fun c_15 => ?_)
            · skip
              refine V.iconst (v := (-1)) dR_byteAt_31 (by decide) ?_
              refine V.ireturn dR_byteAt_32 rfl rfl ?_
              exact hQ
            · skip
              refine V.iload_n dR_byteAt_18 rfl ?_
              first | refine V.aload_n dR_byteAt_19 rfl ?_ | refine V.aload_nN dR_byteAt_19 rfl ?_
              refine V.getk dR_byteAt_20 (by omega) (by assumption) f_R_19_4 (by assumption) ?_
              first | refine V.aload_n dR_byteAt_23 rfl ?_ | refine V.aload_nN dR_byteAt_23 rfl ?_
              refine V.getk dR_byteAt_24 (by omega) (by assumption) f_R_32_4 hO9 ?_
              refine V.ialoadN dR_byteAt_27 (by omega) (by assumption) (by omega) (b6 e he) ?_
              refine V.icmp_lt (tgt := 33) dR_byteAt_28 (by decide) (fun c_28 => ?_) (fun c_28 => ?_)
              · skip
                exact absurd hj (Int32.not_le.mpr c_28)
              · skip
                refine V.iconst (v := (-1)) dR_byteAt_31 (by decide) ?_
                refine V.ireturn dR_byteAt_32 rfl rfl ?_
                exact hQ
      · have e1 : s_byteAt (some e) false bl (nI y) = nI ((s_fb bl e).getD y 0) := by
          simp only [s_byteAt]
          rw [if_neg (by decide), if_pos (show ¬ (nI y < 0 ∨ (s_fb bl e).length ≤ (nI y).toNatClampNeg) from vp_in_nI hy (by omega)), nI_clamp (by omega)]
        rw [e1] at hQ
        have loop : ∀ r k l, k + r = bl.length → (s_fb (bl.drop k) e).getD l 0 = (s_fb bl e).getD y 0 → l < (s_fb (bl.drop k) e).length → V G mR_byteAt 37 [(3, .int (nI k)), (2, .int (nI l)), (0, .ref o), (1, .int (nI y))] [] h 0 0 Q := by
          intro r
          induction r with
          | zero =>
            intro k l hr hfv hfl
            rw [show k = bl.length by omega, List.drop_length] at hfl
            exact absurd hfl (Nat.not_lt_zero l)
          | succ r ih =>
            intro k l hr hfv hfl
            have hk : k < bl.length := by omega
            have hbk := b4 _ (getD_mem hk)
            have hlb := fb_le (bl.drop k) e
            have hdl : (bl.drop k).length ≤ 65536 := by (rw [List.length_drop]; omega)
            have hl2 : l ≤ 65536 := by omega
            rw [drop_cons hk] at hfv hfl
            first | refine V.aload_n dR_byteAt_37 rfl ?_ | refine V.aload_nN dR_byteAt_37 rfl ?_
            refine V.getk dR_byteAt_38 (by omega) (by assumption) f_R_40_4 (by assumption) ?_
            refine V.iload_n dR_byteAt_41 rfl ?_
            refine V.saloadN dR_byteAt_42 (by omega) (by assumption) (by omega) (b3 k hk) ?_
            first | refine V.aload_n dR_byteAt_43 rfl ?_ | refine V.aload_nN dR_byteAt_43 rfl ?_
            refine V.getk dR_byteAt_44 (by omega) (by assumption) f_R_32_4 hO9 ?_
            refine V.icmp_ne (tgt := 54) dR_byteAt_47 (by decide) (fun c_47 => ?_) (fun c_47 => ?_)
            · try simp (disch := omega) only [nI_ltI, nI_leI, nI_eq, zz_lt0, zz_ge0, zz_gt0, zz_le0, zz_eq0, zz_m1lt, zz_m1ge, zz_m1eq, bI_eq0, decide_eq_false_iff_not, decide_eq_true_eq, Decidable.not_not, not_true_eq_false, not_false_eq_true, Nat.not_lt, Nat.not_le, Bool.not_eq_false, Bool.not_eq_true] at c_47
              refine V.iload_n dR_byteAt_54 rfl ?_
              first | refine V.aload_n dR_byteAt_55 rfl ?_ | refine V.aload_nN dR_byteAt_55 rfl ?_
              refine V.getk dR_byteAt_56 (by omega) (by assumption) f_R_40_4 (by assumption) ?_
              refine V.iload_n dR_byteAt_59 rfl ?_
              refine V.saloadN dR_byteAt_60 (by omega) (by assumption) (by omega) (b3 k hk) ?_
              first | refine V.aload_n dR_byteAt_61 rfl ?_ | refine V.aload_nN dR_byteAt_61 rfl ?_
              refine V.getk dR_byteAt_62 (by omega) (by assumption) f_R_32_4 hO9 ?_
              refine V.icmp_ne (tgt := 72) dR_byteAt_65 (by decide) (fun c_65 => ?_) (fun c_65 => ?_)
              · try simp (disch := omega) only [nI_ltI, nI_leI, nI_eq, zz_lt0, zz_ge0, zz_gt0, zz_le0, zz_eq0, zz_m1lt, zz_m1ge, zz_m1eq, bI_eq0, decide_eq_false_iff_not, decide_eq_true_eq, Decidable.not_not, not_true_eq_false, not_false_eq_true, Nat.not_lt, Nat.not_le, Bool.not_eq_false, Bool.not_eq_true] at c_65
                refine V.iconst (v := (nI 0)) dR_byteAt_72 (by decide) ?_
                refine V.isubN dR_byteAt_73 (by omega) ?_
                refine V.istore_n dR_byteAt_74 (by decide) ?_
                refine V.iincN dR_byteAt_75 rfl (by decide) ?_
                refine V.goto (tgt := 37) dR_byteAt_78 (by decide) ?_
                first | exact absurd c_65 c_47 | exact absurd c_47 c_65 | exact V.re [3, 2, 0, 1] rfl (ih (k + 1) l (by omega) (by rw [← hfv]; rw [fb_f c_47]) (by rw [fb_f c_47] at hfl; exact hfl)) | exact V.re [3, 2, 0, 1] rfl (ih (k + 1) (l - 1) (by omega) (by rw [← hfv]; rw [fb_t c_47, show l = (l - 1) + 1 by omega]; rfl) (by rw [fb_t c_47, List.length_cons] at hfl; omega))
              · try simp (disch := omega) only [nI_ltI, nI_leI, nI_eq, zz_lt0, zz_ge0, zz_gt0, zz_le0, zz_eq0, zz_m1lt, zz_m1ge, zz_m1eq, bI_eq0, decide_eq_false_iff_not, decide_eq_true_eq, Decidable.not_not, not_true_eq_false, not_false_eq_true, Nat.not_lt, Nat.not_le, Bool.not_eq_false, Bool.not_eq_true] at c_65
                refine V.iconst (v := (nI 1)) dR_byteAt_68 (by decide) ?_
                refine V.goto (tgt := 73) dR_byteAt_69 (by decide) ?_
                refine V.isubN dR_byteAt_73 (by omega) ?_
                refine V.istore_n dR_byteAt_74 (by decide) ?_
                refine V.iincN dR_byteAt_75 rfl (by decide) ?_
                refine V.goto (tgt := 37) dR_byteAt_78 (by decide) ?_
                first | exact absurd c_65 c_47 | exact absurd c_47 c_65 | exact V.re [3, 2, 0, 1] rfl (ih (k + 1) l (by omega) (by rw [← hfv]; rw [fb_f c_47]) (by rw [fb_f c_47] at hfl; exact hfl)) | exact V.re [3, 2, 0, 1] rfl (ih (k + 1) (l - 1) (by omega) (by rw [← hfv]; rw [fb_t c_47, show l = (l - 1) + 1 by omega]; rfl) (by rw [fb_t c_47, List.length_cons] at hfl; omega))
            · try simp (disch := omega) only [nI_ltI, nI_leI, nI_eq, zz_lt0, zz_ge0, zz_gt0, zz_le0, zz_eq0, zz_m1lt, zz_m1ge, zz_m1eq, bI_eq0, decide_eq_false_iff_not, decide_eq_true_eq, Decidable.not_not, not_true_eq_false, not_false_eq_true, Nat.not_lt, Nat.not_le, Bool.not_eq_false, Bool.not_eq_true] at c_47
              refine V.iload_n dR_byteAt_50 rfl ?_
              refine V.if_le (tgt := 81) dR_byteAt_51 (by decide) (fun c_51 => ?_) (fun c_51 => ?_)
              · try simp (disch := omega) only [nI_ltI, nI_leI, nI_eq, zz_lt0, zz_ge0, zz_gt0, zz_le0, zz_eq0, zz_m1lt, zz_m1ge, zz_m1eq, bI_eq0, decide_eq_false_iff_not, decide_eq_true_eq, Decidable.not_not, not_true_eq_false, not_false_eq_true, Nat.not_lt, Nat.not_le, Bool.not_eq_false, Bool.not_eq_true] at c_51
                first | refine V.aload_n dR_byteAt_81 rfl ?_ | refine V.aload_nN dR_byteAt_81 rfl ?_
                refine V.getk dR_byteAt_82 (by omega) (by assumption) f_R_36_4 (by assumption) ?_
                refine V.iload_n dR_byteAt_85 rfl ?_
                refine V.baloadN dR_byteAt_86 (by omega) (by assumption) (by omega) (b2 k hk) ?_
                refine V.sipush (v := (nI 255)) dR_byteAt_87 (by decide) ?_
                refine V.iand dR_byteAt_90 ?_
                rw [by_k8 hbk.1]
                refine V.ireturn dR_byteAt_91 rfl rfl ?_
                rw [fb_t c_47, show l = 0 by omega] at hfv
                rw [← hfv] at hQ
                exact hQ
              · try simp (disch := omega) only [nI_ltI, nI_leI, nI_eq, zz_lt0, zz_ge0, zz_gt0, zz_le0, zz_eq0, zz_m1lt, zz_m1ge, zz_m1eq, bI_eq0, decide_eq_false_iff_not, decide_eq_true_eq, Decidable.not_not, not_true_eq_false, not_false_eq_true, Nat.not_lt, Nat.not_le, Bool.not_eq_false, Bool.not_eq_true] at c_51
                refine V.iload_n dR_byteAt_54 rfl ?_
                first | refine V.aload_n dR_byteAt_55 rfl ?_ | refine V.aload_nN dR_byteAt_55 rfl ?_
                refine V.getk dR_byteAt_56 (by omega) (by assumption) f_R_40_4 (by assumption) ?_
                refine V.iload_n dR_byteAt_59 rfl ?_
                refine V.saloadN dR_byteAt_60 (by omega) (by assumption) (by omega) (b3 k hk) ?_
                first | refine V.aload_n dR_byteAt_61 rfl ?_ | refine V.aload_nN dR_byteAt_61 rfl ?_
                refine V.getk dR_byteAt_62 (by omega) (by assumption) f_R_32_4 hO9 ?_
                refine V.icmp_ne (tgt := 72) dR_byteAt_65 (by decide) (fun c_65 => ?_) (fun c_65 => ?_)
                · try simp (disch := omega) only [nI_ltI, nI_leI, nI_eq, zz_lt0, zz_ge0, zz_gt0, zz_le0, zz_eq0, zz_m1lt, zz_m1ge, zz_m1eq, bI_eq0, decide_eq_false_iff_not, decide_eq_true_eq, Decidable.not_not, not_true_eq_false, not_false_eq_true, Nat.not_lt, Nat.not_le, Bool.not_eq_false, Bool.not_eq_true] at c_65
                  refine V.iconst (v := (nI 0)) dR_byteAt_72 (by decide) ?_
                  refine V.isubN dR_byteAt_73 (by omega) ?_
                  refine V.istore_n dR_byteAt_74 (by decide) ?_
                  refine V.iincN dR_byteAt_75 rfl (by decide) ?_
                  refine V.goto (tgt := 37) dR_byteAt_78 (by decide) ?_
                  first | exact absurd c_65 c_47 | exact absurd c_47 c_65 | exact V.re [3, 2, 0, 1] rfl (ih (k + 1) l (by omega) (by rw [← hfv]; rw [fb_f c_47]) (by rw [fb_f c_47] at hfl; exact hfl)) | exact V.re [3, 2, 0, 1] rfl (ih (k + 1) (l - 1) (by omega) (by rw [← hfv]; rw [fb_t c_47, show l = (l - 1) + 1 by omega]; rfl) (by rw [fb_t c_47, List.length_cons] at hfl; omega))
                · try simp (disch := omega) only [nI_ltI, nI_leI, nI_eq, zz_lt0, zz_ge0, zz_gt0, zz_le0, zz_eq0, zz_m1lt, zz_m1ge, zz_m1eq, bI_eq0, decide_eq_false_iff_not, decide_eq_true_eq, Decidable.not_not, not_true_eq_false, not_false_eq_true, Nat.not_lt, Nat.not_le, Bool.not_eq_false, Bool.not_eq_true] at c_65
                  refine V.iconst (v := (nI 1)) dR_byteAt_68 (by decide) ?_
                  refine V.goto (tgt := 73) dR_byteAt_69 (by decide) ?_
                  refine V.isubN dR_byteAt_73 (by omega) ?_
                  refine V.istore_n dR_byteAt_74 (by decide) ?_
                  refine V.iincN dR_byteAt_75 rfl (by decide) ?_
                  refine V.goto (tgt := 37) dR_byteAt_78 (by decide) ?_
                  first | exact absurd c_65 c_47 | exact absurd c_47 c_65 | exact V.re [3, 2, 0, 1] rfl (ih (k + 1) l (by omega) (by rw [← hfv]; rw [fb_f c_47]) (by rw [fb_f c_47] at hfl; exact hfl)) | exact V.re [3, 2, 0, 1] rfl (ih (k + 1) (l - 1) (by omega) (by rw [← hfv]; rw [fb_t c_47, show l = (l - 1) + 1 by omega]; rfl) (by rw [fb_t c_47, List.length_cons] at hfl; omega))
        first | refine V.aload_n dR_byteAt_0 rfl ?_ | refine V.aload_nN dR_byteAt_0 rfl ?_
        refine V.getk dR_byteAt_1 (by omega) (by assumption) f_R_32_4 hO9 ?_
        refine V.if_lt (tgt := 31) dR_byteAt_4 (by decide) (fun c_4 => ?_) (fun c_4 => ?_)
        · try simp (disch := omega) only [nI_ltI, nI_leI, nI_eq, zz_lt0, zz_ge0, zz_gt0, zz_le0, zz_eq0, zz_m1lt, zz_m1ge, zz_m1eq, bI_eq0, decide_eq_false_iff_not, decide_eq_true_eq, Decidable.not_not, not_true_eq_false, not_false_eq_true, Nat.not_lt, Nat.not_le, Bool.not_eq_false, Bool.not_eq_true] at c_4
          all_goals omega
        · try simp (disch := omega) only [nI_ltI, nI_leI, nI_eq, zz_lt0, zz_ge0, zz_gt0, zz_le0, zz_eq0, zz_m1lt, zz_m1ge, zz_m1eq, bI_eq0, decide_eq_false_iff_not, decide_eq_true_eq, Decidable.not_not, not_true_eq_false, not_false_eq_true, Nat.not_lt, Nat.not_le, Bool.not_eq_false, Bool.not_eq_true] at c_4
          first | refine V.aload_n dR_byteAt_7 rfl ?_ | refine V.aload_nN dR_byteAt_7 rfl ?_
          refine V.getk dR_byteAt_8 (by omega) (by assumption) f_R_83_4 hg9 ?_
          refine V.if_ne (tgt := 31) dR_byteAt_11 (by decide) (fun c_11 => ?_) (fun c_11 => ?_)
          · skip
            exact absurd (by decide) c_11
          · skip
            refine V.iload_n dR_byteAt_14 rfl ?_
            refine V.if_lt (tgt := 31) dR_byteAt_15 (by decide) (fun c_15 => ?_) (fun c_15 => ?_)
            · try simp (disch := omega) only [nI_ltI, nI_leI, nI_eq, zz_lt0, zz_ge0, zz_gt0, zz_le0, zz_eq0, zz_m1lt, zz_m1ge, zz_m1eq, bI_eq0, decide_eq_false_iff_not, decide_eq_true_eq, Decidable.not_not, not_true_eq_false, not_false_eq_true, Nat.not_lt, Nat.not_le, Bool.not_eq_false, Bool.not_eq_true] at c_15
              all_goals omega
            · try simp (disch := omega) only [nI_ltI, nI_leI, nI_eq, zz_lt0, zz_ge0, zz_gt0, zz_le0, zz_eq0, zz_m1lt, zz_m1ge, zz_m1eq, bI_eq0, decide_eq_false_iff_not, decide_eq_true_eq, Decidable.not_not, not_true_eq_false, not_false_eq_true, Nat.not_lt, Nat.not_le, Bool.not_eq_false, Bool.not_eq_true] at c_15
              refine V.iload_n dR_byteAt_18 rfl ?_
              first | refine V.aload_n dR_byteAt_19 rfl ?_ | refine V.aload_nN dR_byteAt_19 rfl ?_
              refine V.getk dR_byteAt_20 (by omega) (by assumption) f_R_19_4 (by assumption) ?_
              first | refine V.aload_n dR_byteAt_23 rfl ?_ | refine V.aload_nN dR_byteAt_23 rfl ?_
              refine V.getk dR_byteAt_24 (by omega) (by assumption) f_R_32_4 hO9 ?_
              refine V.ialoadN dR_byteAt_27 (by omega) (by assumption) (by omega) (b6 e he) ?_
              refine V.icmp_lt (tgt := 33) dR_byteAt_28 (by decide) (fun c_28 => ?_) (fun c_28 => ?_)
              · try simp (disch := omega) only [nI_ltI, nI_leI, nI_eq, zz_lt0, zz_ge0, zz_gt0, zz_le0, zz_eq0, zz_m1lt, zz_m1ge, zz_m1eq, bI_eq0, decide_eq_false_iff_not, decide_eq_true_eq, Decidable.not_not, not_true_eq_false, not_false_eq_true, Nat.not_lt, Nat.not_le, Bool.not_eq_false, Bool.not_eq_true] at c_28
                refine V.iload_n dR_byteAt_33 rfl ?_
                refine V.istore_n dR_byteAt_34 (by decide) ?_
                refine V.iconst (v := (nI 0)) dR_byteAt_35 (by decide) ?_
                refine V.istore_n dR_byteAt_36 (by decide) ?_
                exact V.re [3, 2, 0, 1] rfl (loop bl.length 0 y (by omega) rfl hy)
              · try simp (disch := omega) only [nI_ltI, nI_leI, nI_eq, zz_lt0, zz_ge0, zz_gt0, zz_le0, zz_eq0, zz_m1lt, zz_m1ge, zz_m1eq, bI_eq0, decide_eq_false_iff_not, decide_eq_true_eq, Decidable.not_not, not_true_eq_false, not_false_eq_true, Nat.not_lt, Nat.not_le, Bool.not_eq_false, Bool.not_eq_true] at c_28
                all_goals omega
set_option maxHeartbeats 4000000 in
set_option maxRecDepth 100000 in
/-- PathTreeModel.count -/
theorem kR_count {G : GG} {h : HH} {o : Nat} {T : TT} {p : Nat → Nat} {len hand : Nat} {op : Option Nat} {gone : Bool} {ents : Nat} {bl : List (Nat × Nat)} {Q : Option Value → HH → Prop} {dp : Nat → Nat} {w : Int32} (hI : RI G h o T p len hand op gone ents bl) (hd0 : dp 0 = 0) (hdp : ∀ e, e < 300 → T.1 e = 2 → e ≠ 0 → T.1 (T.2.1 e) = 2 ∧ dp e = dp (T.2.1 e) + 1) (hhd : T.1 hand = 2) (hbd : dp hand < 2 ^ 20) (hQ : Q (some (.int (s_count T len hand op gone bl dp w))) h) : V G mR_count 0 (lv_args 0 [.ref o, .int w]) [] h 0 0 Q := by
  obtain ⟨hS, hP, hT, hH, hO, hg, hE, hB, hop⟩ := id hI
  obtain ⟨hz, hk0, hk1, hk2, hk3, hk4, hk5, hk6, hk7, hk8, hf0, hf2, hf3, hf4, hf5, hf6, hf12, hf13⟩ := id hS
  obtain ⟨hln, hpp, hl2, hp⟩ := id hP
  obtain ⟨hkd, hkd2, hin, hin2, hns, hns2, hnm, hnm2⟩ := id hT
  obtain ⟨hhand, hhl⟩ := id hH
  obtain ⟨b1, b2, b3, b4, b5, b6⟩ := id hB
  rcases pk_ix w (n := 7) (by decide) with hw | hw | ⟨j, hj, rfl⟩
  · have hne : ∀ k, k < 7 → ¬ w = nI k := fun k hk z => by
      rw [z] at hw
      exact nI_pos (by omega) hw
    have e1 : s_count T len hand op gone bl dp w = -1 := by (unfold s_count; rw [if_neg (hne 0 (by omega)), if_neg (hne 1 (by omega)), if_neg (hne 2 (by omega)), if_neg (hne 3 (by omega)), if_neg (hne 4 (by omega)), if_neg (hne 5 (by omega)), if_neg (hne 6 (by omega))])
    rw [e1] at hQ
    refine V.iload_n dR_count_0 rfl ?_
    refine V.tableOut (tgt := 108) dR_count_1 (Or.inl (by rw [Int32.lt_iff_toInt_lt] at hw; simpa using hw)) (by decide) ?_
    refine V.iconst (v := (-1)) dR_count_108 (by decide) ?_
    refine V.ireturn dR_count_109 rfl rfl ?_
    exact hQ
  · have hne : ∀ k, k < 7 → ¬ w = nI k := fun k hk z => by
      rw [z] at hw
      have := (nI_leI (by omega) (by omega)).mp hw; omega
    have e1 : s_count T len hand op gone bl dp w = -1 := by (unfold s_count; rw [if_neg (hne 0 (by omega)), if_neg (hne 1 (by omega)), if_neg (hne 2 (by omega)), if_neg (hne 3 (by omega)), if_neg (hne 4 (by omega)), if_neg (hne 5 (by omega)), if_neg (hne 6 (by omega))])
    rw [e1] at hQ
    refine V.iload_n dR_count_0 rfl ?_
    refine V.tableOut (tgt := 108) dR_count_1 (Or.inr (by rw [Int32.le_iff_toInt_le, nI_toInt (by decide)] at hw; omega)) (by decide) ?_
    refine V.iconst (v := (-1)) dR_count_108 (by decide) ?_
    refine V.ireturn dR_count_109 rfl rfl ?_
    exact hQ
  · rcases (show j = 0 ∨ j = 1 ∨ j = 2 ∨ j = 3 ∨ j = 4 ∨ j = 5 ∨ j = 6 by omega) with rfl | rfl | rfl | rfl | rfl | rfl | rfl
    · have e1 : s_count T len hand op gone bl dp (nI 0) = nI (s_cnt (fun e => decide (T.1 e = 1)) 300) := by (unfold s_count; rw [if_pos rfl])
      rw [e1] at hQ
      refine V.iload_n dR_count_0 rfl ?_
      refine V.tableIn (tgt := 44) dR_count_1 (by decide) (by decide) rfl (by decide) ?_
      first | refine V.aload_n dR_count_44 rfl ?_ | refine V.aload_nN dR_count_44 rfl ?_
      refine V.iconst (v := (nI 1)) dR_count_45 (by decide) ?_
      refine V.callVk (kd := 4) 0 _ 0 _ [_] dR_count_46 okR_many n_R_111 (by omega) (by assumption) rfl imR_many seR_many_R (by decide) (by decide) rfl rfl (Nat.le_of_ble_eq_true rfl) (Nat.le_of_ble_eq_true rfl) (Nat.le_of_eq (Nat.zero_add _)) (Nat.le_of_eq (Nat.zero_add _)) (kR_many hS hT (by omega) ?_)
      refine V.ireturn dR_count_49 rfl rfl ?_
      exact hQ
    · have e1 : s_count T len hand op gone bl dp (nI 1) = nI (s_cnt (fun e => decide (T.1 e = 2)) 300) := by (unfold s_count; rw [if_neg (by decide), if_pos rfl])
      rw [e1] at hQ
      refine V.iload_n dR_count_0 rfl ?_
      refine V.tableIn (tgt := 50) dR_count_1 (by decide) (by decide) rfl (by decide) ?_
      first | refine V.aload_n dR_count_50 rfl ?_ | refine V.aload_nN dR_count_50 rfl ?_
      refine V.iconst (v := (nI 2)) dR_count_51 (by decide) ?_
      refine V.callVk (kd := 4) 0 _ 0 _ [_] dR_count_52 okR_many n_R_111 (by omega) (by assumption) rfl imR_many seR_many_R (by decide) (by decide) rfl rfl (Nat.le_of_ble_eq_true rfl) (Nat.le_of_ble_eq_true rfl) (Nat.le_of_eq (Nat.zero_add _)) (Nat.le_of_eq (Nat.zero_add _)) (kR_many hS hT (by omega) ?_)
      refine V.ireturn dR_count_55 rfl rfl ?_
      exact hQ
    · have e1 : s_count T len hand op gone bl dp (nI 2) = nI bl.length := by (unfold s_count; rw [if_neg (by decide), if_neg (by decide), if_pos rfl])
      rw [e1] at hQ
      refine V.iload_n dR_count_0 rfl ?_
      refine V.tableIn (tgt := 56) dR_count_1 (by decide) (by decide) rfl (by decide) ?_
      first | refine V.aload_n dR_count_56 rfl ?_ | refine V.aload_nN dR_count_56 rfl ?_
      refine V.getk dR_count_57 (by omega) (by assumption) f_R_87_4 (by assumption) ?_
      refine V.ireturn dR_count_60 rfl rfl ?_
      exact hQ
    · have e1 : s_count T len hand op gone bl dp (nI 3) = nI (s_cnt (fun e => decide (1 ≤ e ∧ T.1 e ≠ 0 ∧ T.2.1 e = hand)) 300) := by (unfold s_count; rw [if_neg (by decide), if_neg (by decide), if_neg (by decide), if_pos rfl])
      rw [e1] at hQ
      refine V.iload_n dR_count_0 rfl ?_
      refine V.tableIn (tgt := 61) dR_count_1 (by decide) (by decide) rfl (by decide) ?_
      first | refine V.aload_n dR_count_61 rfl ?_ | refine V.aload_nN dR_count_61 rfl ?_
      refine V.callVk (kd := 4) 0 _ 0 _ [] dR_count_62 okR_atHand n_R_114 (by omega) (by assumption) rfl imR_atHand seR_atHand_R (by decide) (by decide) rfl rfl (Nat.le_of_ble_eq_true rfl) (Nat.le_of_ble_eq_true rfl) (Nat.le_of_eq (Nat.zero_add _)) (Nat.le_of_eq (Nat.zero_add _)) (kR_atHand hS hT hH ?_)
      refine V.ireturn dR_count_65 rfl rfl ?_
      exact hQ
    · have e1 : s_count T len hand op gone bl dp (nI 4) = nI (dp hand) := by (unfold s_count; rw [if_neg (by decide), if_neg (by decide), if_neg (by decide), if_neg (by decide), if_pos rfl])
      rw [e1] at hQ
      refine V.iload_n dR_count_0 rfl ?_
      refine V.tableIn (tgt := 66) dR_count_1 (by decide) (by decide) rfl (by decide) ?_
      first | refine V.aload_n dR_count_66 rfl ?_ | refine V.aload_nN dR_count_66 rfl ?_
      refine V.callVk (kd := 4) 0 _ 0 _ [] dR_count_67 okR_above n_R_117 (by omega) (by assumption) rfl imR_above seR_above_R (by decide) (by decide) rfl rfl (Nat.le_of_ble_eq_true rfl) (Nat.le_of_ble_eq_true rfl) (Nat.le_of_eq (Nat.zero_add _)) (Nat.le_of_eq (Nat.zero_add _)) (kR_above hS hT hH hd0 hdp hhd hbd ?_)
      refine V.ireturn dR_count_70 rfl rfl ?_
      exact hQ
    · have e1 : s_count T len hand op gone bl dp (nI 5) = nI len := by (unfold s_count; rw [if_neg (by decide), if_neg (by decide), if_neg (by decide), if_neg (by decide), if_neg (by decide), if_pos rfl])
      rw [e1] at hQ
      refine V.iload_n dR_count_0 rfl ?_
      refine V.tableIn (tgt := 71) dR_count_1 (by decide) (by decide) rfl (by decide) ?_
      first | refine V.aload_n dR_count_71 rfl ?_ | refine V.aload_nN dR_count_71 rfl ?_
      refine V.getk dR_count_72 (by omega) (by assumption) f_R_44_4 (by assumption) ?_
      refine V.ireturn dR_count_75 rfl rfl ?_
      exact hQ
    · have e1 : s_count T len hand op gone bl dp (nI 6) = s_len6 op gone bl := by (unfold s_count; rw [if_neg (by decide), if_neg (by decide), if_neg (by decide), if_neg (by decide), if_neg (by decide), if_neg (by decide), if_pos rfl])
      rw [e1] at hQ
      refine V.iload_n dR_count_0 rfl ?_
      refine V.tableIn (tgt := 76) dR_count_1 (by decide) (by decide) rfl (by decide) ?_
      cases hop2 : op with
      | none =>
        subst hop2
        have hO9 : h.2.1 o 9 = .int (-1) := hO
        first | refine V.aload_n dR_count_76 rfl ?_ | refine V.aload_nN dR_count_76 rfl ?_
        refine V.getk dR_count_77 (by omega) (by assumption) f_R_32_4 hO9 ?_
        refine V.if_ge (tgt := 87) dR_count_80 (by decide) (fun c_80 => ?_) (fun c_80 => ?_)
        · try simp only [zz_m1lt, zz_m1ge, not_true_eq_false, not_false_eq_true] at c_80
          all_goals omega
        · try simp only [zz_m1lt, zz_m1ge, not_true_eq_false, not_false_eq_true] at c_80
          refine V.iconst (v := (-1)) dR_count_83 (by decide) ?_
          refine V.goto (tgt := 107) dR_count_84 (by decide) ?_
          refine V.ireturn dR_count_107 rfl rfl ?_
          exact hQ
      | some e =>
        subst hop2
        have he := hop e rfl
        have hO9 : h.2.1 o 9 = .int (nI e) := hO
        cases hgo : gone with
        | true =>
          subst hgo
          have hg9 : h.2.1 o 10 = .int (bI true) := hg
          first | refine V.aload_n dR_count_76 rfl ?_ | refine V.aload_nN dR_count_76 rfl ?_
          refine V.getk dR_count_77 (by omega) (by assumption) f_R_32_4 hO9 ?_
          refine V.if_ge (tgt := 87) dR_count_80 (by decide) (fun c_80 => ?_) (fun c_80 => ?_)
          · try simp (disch := omega) only [nI_ltI, nI_leI, nI_eq, zz_lt0, zz_ge0, zz_gt0, zz_le0, zz_eq0, zz_m1lt, zz_m1ge, zz_m1eq, bI_eq0, decide_eq_false_iff_not, decide_eq_true_eq, Decidable.not_not, not_true_eq_false, not_false_eq_true, Nat.not_lt, Nat.not_le, Bool.not_eq_false, Bool.not_eq_true] at c_80
            first | refine V.aload_n dR_count_87 rfl ?_ | refine V.aload_nN dR_count_87 rfl ?_
            refine V.getk dR_count_88 (by omega) (by assumption) f_R_83_4 hg9 ?_
            refine V.if_eq (tgt := 98) dR_count_91 (by decide) (fun c_91 => ?_) (fun c_91 => ?_)
            · skip
              exact absurd c_91 (by decide)
            · skip
              refine V.iconst (v := (nI 0)) dR_count_94 (by decide) ?_
              refine V.goto (tgt := 107) dR_count_95 (by decide) ?_
              refine V.ireturn dR_count_107 rfl rfl ?_
              exact hQ
          · try simp (disch := omega) only [nI_ltI, nI_leI, nI_eq, zz_lt0, zz_ge0, zz_gt0, zz_le0, zz_eq0, zz_m1lt, zz_m1ge, zz_m1eq, bI_eq0, decide_eq_false_iff_not, decide_eq_true_eq, Decidable.not_not, not_true_eq_false, not_false_eq_true, Nat.not_lt, Nat.not_le, Bool.not_eq_false, Bool.not_eq_true] at c_80
            all_goals omega
        | false =>
          subst hgo
          have hg9 : h.2.1 o 10 = .int (bI false) := hg
          first | refine V.aload_n dR_count_76 rfl ?_ | refine V.aload_nN dR_count_76 rfl ?_
          refine V.getk dR_count_77 (by omega) (by assumption) f_R_32_4 hO9 ?_
          refine V.if_ge (tgt := 87) dR_count_80 (by decide) (fun c_80 => ?_) (fun c_80 => ?_)
          · try simp (disch := omega) only [nI_ltI, nI_leI, nI_eq, zz_lt0, zz_ge0, zz_gt0, zz_le0, zz_eq0, zz_m1lt, zz_m1ge, zz_m1eq, bI_eq0, decide_eq_false_iff_not, decide_eq_true_eq, Decidable.not_not, not_true_eq_false, not_false_eq_true, Nat.not_lt, Nat.not_le, Bool.not_eq_false, Bool.not_eq_true] at c_80
            first | refine V.aload_n dR_count_87 rfl ?_ | refine V.aload_nN dR_count_87 rfl ?_
            refine V.getk dR_count_88 (by omega) (by assumption) f_R_83_4 hg9 ?_
            refine V.if_eq (tgt := 98) dR_count_91 (by decide) (fun c_91 => ?_) (fun c_91 => ?_)
            · skip
              first | refine V.aload_n dR_count_98 rfl ?_ | refine V.aload_nN dR_count_98 rfl ?_
              refine V.getk dR_count_99 (by omega) (by assumption) f_R_19_4 (by assumption) ?_
              first | refine V.aload_n dR_count_102 rfl ?_ | refine V.aload_nN dR_count_102 rfl ?_
              refine V.getk dR_count_103 (by omega) (by assumption) f_R_32_4 hO9 ?_
              refine V.ialoadN dR_count_106 (by omega) (by assumption) (by omega) (b6 e he) ?_
              refine V.ireturn dR_count_107 rfl rfl ?_
              exact hQ
            · skip
              exact absurd (by decide) c_91
          · try simp (disch := omega) only [nI_ltI, nI_leI, nI_eq, zz_lt0, zz_ge0, zz_gt0, zz_le0, zz_eq0, zz_m1lt, zz_m1ge, zz_m1eq, bI_eq0, decide_eq_false_iff_not, decide_eq_true_eq, Decidable.not_not, not_true_eq_false, not_false_eq_true, Nat.not_lt, Nat.not_le, Bool.not_eq_false, Bool.not_eq_true] at c_80
            all_goals omega
