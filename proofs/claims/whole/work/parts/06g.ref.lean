theorem RS.put {G : GG} {h : HH} {o a k : Nat} {v : Value} (hS : RS G h o) (hk : a ≠ o ∨ k = 1 ∨ (7 ≤ k ∧ k ≤ 11)) : RS G (h_put h a k v) o := by
  obtain ⟨hz, hk0, hk1, hk2, hk3, hk4, hk5, hk6, hk7, hk8, hf0, hf2, hf3, hf4, hf5, hf6, hf12, hf13⟩ := hS
  exact ⟨hz, hk0, hk1, hk2, hk3, hk4, hk5, hk6, hk7, hk8, (hp_ne (by omega)).trans hf0, (hp_ne (by omega)).trans hf2, (hp_ne (by omega)).trans hf3, (hp_ne (by omega)).trans hf4, (hp_ne (by omega)).trans hf5, (hp_ne (by omega)).trans hf6, (hp_ne (by omega)).trans hf12, (hp_ne (by omega)).trans hf13⟩
theorem RT.put {h : HH} {o a k : Nat} {v : Value} {T : TT} (hT : RT h o T) (ha : a ≠ o + 2 ∧ a ≠ o + 3 ∧ a ≠ o + 5 ∧ a ≠ o + 6) : RT (h_put h a k v) o T := by
  obtain ⟨hkd, hkd2, hin, hin2, hns, hns2, hnm, hnm2⟩ := hT
  exact ⟨fun e he => (hp_ne (by omega)).trans (hkd e he), hkd2, fun e he => (hp_ne (by omega)).trans (hin e he), hin2, fun e he => (hp_ne (by omega)).trans (hns e he), hns2, fun e k he hk => (hp_ne (by omega)).trans (hnm e k he hk), hnm2⟩
theorem RP.put {h : HH} {o a k len : Nat} {v : Value} {p : Nat → Nat} (hP : RP h o p len) (ha : ¬ (a = o ∧ k = 1) ∧ a ≠ o + 1) : RP (h_put h a k v) o p len := by
  obtain ⟨hln, hpp, hl2, hp⟩ := hP
  exact ⟨(hp_ne (by omega)).trans hln, fun j hj => (hp_ne (by omega)).trans (hpp j hj), hl2, hp⟩
theorem RB.put {h : HH} {o a k : Nat} {v : Value} {bl : List (Nat × Nat)} (hB : RB h o bl) (ha : ¬ (a = o ∧ k = 11) ∧ a ≠ o + 4 ∧ a ≠ o + 7 ∧ a ≠ o + 8) : RB (h_put h a k v) o bl := by
  obtain ⟨h1, h2, h3, h4, h5, h6⟩ := hB
  exact ⟨(hp_ne (by omega)).trans h1, fun k hk => (hp_ne (by omega)).trans (h2 k hk), fun k hk => (hp_ne (by omega)).trans (h3 k hk), h4, h5, fun e he => (hp_ne (by omega)).trans (h6 e he)⟩
/-- the whole reference -/
def RI (G : GG) (h : HH) (o : Nat) (T : TT) (p : Nat → Nat) (len hand : Nat) (op : Option Nat) (gone : Bool) (ents : Nat) (bl : List (Nat × Nat)) : Prop :=
  RS G h o ∧ RP h o p len ∧ RT h o T ∧ (h.2.1 o 8 = .int (nI hand) ∧ hand < 300) ∧ h.2.1 o 9 = .int (oI op) ∧ h.2.1 o 10 = .int (bI gone) ∧ h.2.1 o 7 = .int (nI ents) ∧ RB h o bl ∧ ∀ e, op = some e → e < 300
/-- nothing but the reference has changed -/
def FrO (o : Nat) (h h' : HH) : Prop := h'.1 = h.1 ∧ h'.2.2 = h.2.2 ∧ ∀ a j, (a < o ∨ o + 8 < a) → h'.2.1 a j = h.2.1 a j
theorem FrO.rf {o : Nat} {h : HH} : FrO o h h := ⟨rfl, rfl, fun _ _ _ => rfl⟩
theorem FrO.put {o : Nat} {h h' : HH} {a k : Nat} {v : Value} (hF : FrO o h h') (ha : o ≤ a ∧ a ≤ o + 8) : FrO o h (h_put h' a k v) :=
  ⟨hF.1, hF.2.1, fun b j hb => (hp_a (by omega)).trans (hF.2.2 b j hb)⟩
theorem FrO.tr {o : Nat} {h h1 h2 : HH} (a : FrO o h h1) (b : FrO o h1 h2) : FrO o h h2 := ⟨b.1.trans a.1, b.2.1.trans a.2.1, fun x j hx => (b.2.2 x j hx).trans (a.2.2 x j hx)⟩
theorem RI.len {G : GG} {h : HH} {o : Nat} {T : TT} {p : Nat → Nat} {len hand : Nat} {op : Option Nat} {gone : Bool} {ents : Nat} {bl : List (Nat × Nat)} (hI : RI G h o T p len hand op gone ents bl) : RI G (h_put h o 1 (.int (nI 0))) o T p 0 hand op gone ents bl := by
  obtain ⟨hS, hP, hT, hH, hO, hg, hE, hB, hop⟩ := hI
  exact ⟨hS.put (by omega), ⟨hp_eq, fun j hj => by omega, by omega, fun j hj => by omega⟩, hT.put (by omega), ⟨(hp_j (by omega)).trans hH.1, hH.2⟩, (hp_j (by omega)).trans hO, (hp_j (by omega)).trans hg, (hp_j (by omega)).trans hE, hB.put (by omega), hop⟩
theorem RI.grow {G : GG} {h : HH} {o : Nat} {T : TT} {p : Nat → Nat} {len hand : Nat} {op : Option Nat} {gone : Bool} {ents : Nat} {bl : List (Nat × Nat)} (hI : RI G h o T p len hand op gone ents bl) (hl : len < 250) (hp : p len < 256) : RI G (h_put (h_put h (o + 1) len (.int (nI (p len)))) o 1 (.int (nI (len + 1)))) o T p (len + 1) hand op gone ents bl := by
  obtain ⟨hS, hP, hT, hH, hO, hg, hE, hB, hop⟩ := hI
  refine ⟨(hS.put (by omega)).put (by omega), ⟨hp_eq, fun j hj => ?_, by omega, fun j hj => ?_⟩, (hT.put (by omega)).put (by omega), ⟨(hp_j (by omega)).trans ((hp_a (by omega)).trans hH.1), hH.2⟩, (hp_j (by omega)).trans ((hp_a (by omega)).trans hO), (hp_j (by omega)).trans ((hp_a (by omega)).trans hg), (hp_j (by omega)).trans ((hp_a (by omega)).trans hE), (hB.put (by omega)).put (by omega), hop⟩
  · rw [hp_a (by omega)]
    by_cases e : j = len
    · subst e; exact hp_eq
    · rw [hp_j e]; exact hP.2.1 j (by omega)
  · by_cases e : j = len
    · subst e; exact hp
    · exact hP.2.2.2 j (by omega)
theorem RI.path {G : GG} {h : HH} {o : Nat} {T : TT} {p p' : Nat → Nat} {len hand : Nat} {op : Option Nat} {gone : Bool} {ents : Nat} {bl : List (Nat × Nat)} (hI : RI G h o T p len hand op gone ents bl) (he : ∀ j, j < len → p' j = p j) : RI G h o T p' len hand op gone ents bl := by
  obtain ⟨hS, hP, hr⟩ := hI
  exact ⟨hS, ⟨hP.1, fun j hj => by rw [he j hj]; exact hP.2.1 j hj, hP.2.2.1, fun j hj => by rw [he j hj]; exact hP.2.2.2 j hj⟩, hr⟩
/-- a character of a path -/
abbrev s_pc (c : Nat) : Prop := c = 9 ∨ c = 10 ∨ (32 ≤ c ∧ c ≤ 126)
/-- the path with m bytes of x behind it -/
def s_app (p : Nat → Nat) (len : Nat) (x : Int64) (m : Nat) : Nat → Nat := fun j => if j < len then p j else s_byt x (m - 1 - (j - len))
abbrev s_pok (len : Nat) (x : Int64) (n : Int32) : Prop := ∃ m, n = nI m ∧ m ≤ 8 ∧ len + m ≤ 250 ∧ ∀ k, k < m → s_pc (s_byt x k)
theorem nI_inj {a b : Nat} (ha : a < 2 ^ 31) (hb : b < 2 ^ 31) (h : nI a = nI b) : a = b := (nI_eq ha hb).mp h
theorem i8_cases (n : Int32) : n < 0 ∨ nI 9 ≤ n ∨ ∃ m, m < 9 ∧ n = nI m := pk_ix n (by decide)
theorem le8 {n : Int32} (h : nI 9 ≤ n) : nI 8 < n := by
  rw [Int32.lt_iff_toInt_lt, Int32.le_iff_toInt_le] at *
  rw [nI_toInt (by decide)] at *
  omega
set_option maxHeartbeats 4000000 in
set_option maxRecDepth 100000 in
/-- PathTreeModel.path -/
theorem kR_path {G : GG} {h : HH} {o : Nat} {T : TT} {p : Nat → Nat} {len hand : Nat} {op : Option Nat} {gone : Bool} {ents : Nat} {bl : List (Nat × Nat)} {Q : Option Value → HH → Prop} {x : Int64} {n : Int32} (hI : RI G h o T p len hand op gone ents bl) (h1 : ¬ s_pok len x n → Q (some (.int (-1))) h) (h2 : ∀ m, n = nI m → m ≤ 8 → s_pok len x n → ∀ h', RI G h' o T (s_app p len x m) (len + m) hand op gone ents bl → FrO o h h' → Q (some (.int (nI (len + m)))) h') : V G mR_path 0 (lv_args 0 [.ref o, .long x, .int n]) [] h 0 0 Q := by
  obtain ⟨hS, hP, hT, hH, hO, hg, hE, hB, hop⟩ := id hI
  obtain ⟨hz, hk0, hk1, hk2, hk3, hk4, hk5, hk6, hk7, hk8, hf0, hf2, hf3, hf4, hf5, hf6, hf12, hf13⟩ := id hS
  obtain ⟨hln, hpp, hl2, hp⟩ := id hP
  rcases i8_cases n with hn | hn | ⟨m, hm, rfl⟩
  · have hno : ¬ s_pok len x n := fun ⟨m, e, _⟩ => by (subst e; exact nI_pos (by omega) hn)
    refine V.iload_n dR_path_0 rfl ?_
    refine V.if_lt (tgt := 22) dR_path_1 (by decide) (fun c_1 => ?_) (fun c_1 => ?_)
    · skip
      refine V.iconst (v := (-1)) dR_path_22 (by decide) ?_
      refine V.ireturn dR_path_23 rfl rfl ?_
      exact h1 hno
    · skip
      exact absurd hn c_1
  · have hno : ¬ s_pok len x n := fun ⟨m, e, z, _⟩ => by (subst e; have := (nI_leI (by omega) (by omega)).mp hn; omega)
    have hn8 := le8 hn
    refine V.iload_n dR_path_0 rfl ?_
    refine V.if_lt (tgt := 22) dR_path_1 (by decide) (fun c_1 => ?_) (fun c_1 => ?_)
    · skip
      refine V.iconst (v := (-1)) dR_path_22 (by decide) ?_
      refine V.ireturn dR_path_23 rfl rfl ?_
      exact h1 hno
    · skip
      refine V.iload_n dR_path_4 rfl ?_
      refine V.bipush (v := (nI 8)) dR_path_5 (by decide) ?_
      refine V.icmp_gt (tgt := 22) dR_path_7 (by decide) (fun c_7 => ?_) (fun c_7 => ?_)
      · skip
        refine V.iconst (v := (-1)) dR_path_22 (by decide) ?_
        refine V.ireturn dR_path_23 rfl rfl ?_
        exact h1 hno
      · skip
        exact absurd hn8 c_7
  · by_cases hlm : 250 < len + m
    · have hno : ¬ s_pok len x (nI m) := fun ⟨m2, e, _, z, _⟩ => by (have := nI_inj (by omega) (by omega) e; omega)
      refine V.iload_n dR_path_0 rfl ?_
      refine V.if_lt (tgt := 22) dR_path_1 (by decide) (fun c_1 => ?_) (fun c_1 => ?_)
      · try simp (disch := omega) only [nI_ltI, nI_leI, nI_eq, zz_lt0, zz_ge0, zz_gt0, zz_le0, zz_eq0, zz_m1lt, zz_m1ge, zz_m1eq, bI_eq0, decide_eq_false_iff_not, decide_eq_true_eq, Decidable.not_not, not_true_eq_false, not_false_eq_true, Nat.not_lt, Nat.not_le, Bool.not_eq_false, Bool.not_eq_true] at c_1
        all_goals omega
      · try simp (disch := omega) only [nI_ltI, nI_leI, nI_eq, zz_lt0, zz_ge0, zz_gt0, zz_le0, zz_eq0, zz_m1lt, zz_m1ge, zz_m1eq, bI_eq0, decide_eq_false_iff_not, decide_eq_true_eq, Decidable.not_not, not_true_eq_false, not_false_eq_true, Nat.not_lt, Nat.not_le, Bool.not_eq_false, Bool.not_eq_true] at c_1
        refine V.iload_n dR_path_4 rfl ?_
        refine V.bipush (v := (nI 8)) dR_path_5 (by decide) ?_
        refine V.icmp_gt (tgt := 22) dR_path_7 (by decide) (fun c_7 => ?_) (fun c_7 => ?_)
        · try simp (disch := omega) only [nI_ltI, nI_leI, nI_eq, zz_lt0, zz_ge0, zz_gt0, zz_le0, zz_eq0, zz_m1lt, zz_m1ge, zz_m1eq, bI_eq0, decide_eq_false_iff_not, decide_eq_true_eq, Decidable.not_not, not_true_eq_false, not_false_eq_true, Nat.not_lt, Nat.not_le, Bool.not_eq_false, Bool.not_eq_true] at c_7
          all_goals omega
        · try simp (disch := omega) only [nI_ltI, nI_leI, nI_eq, zz_lt0, zz_ge0, zz_gt0, zz_le0, zz_eq0, zz_m1lt, zz_m1ge, zz_m1eq, bI_eq0, decide_eq_false_iff_not, decide_eq_true_eq, Decidable.not_not, not_true_eq_false, not_false_eq_true, Nat.not_lt, Nat.not_le, Bool.not_eq_false, Bool.not_eq_true] at c_7
          first | refine V.aload_n dR_path_10 rfl ?_ | refine V.aload_nN dR_path_10 rfl ?_
          refine V.getk dR_path_11 (by omega) (by assumption) f_R_44_4 (by assumption) ?_
          refine V.iload_n dR_path_14 rfl ?_
          refine V.iaddN dR_path_15 ?_
          refine V.sipush (v := (nI 250)) dR_path_16 (by decide) ?_
          refine V.icmp_le (tgt := 24) dR_path_19 (by decide) (fun c_19 => ?_) (fun c_19 => ?_)
          · try simp (disch := omega) only [nI_ltI, nI_leI, nI_eq, zz_lt0, zz_ge0, zz_gt0, zz_le0, zz_eq0, zz_m1lt, zz_m1ge, zz_m1eq, bI_eq0, decide_eq_false_iff_not, decide_eq_true_eq, Decidable.not_not, not_true_eq_false, not_false_eq_true, Nat.not_lt, Nat.not_le, Bool.not_eq_false, Bool.not_eq_true] at c_19
            all_goals omega
          · try simp (disch := omega) only [nI_ltI, nI_leI, nI_eq, zz_lt0, zz_ge0, zz_gt0, zz_le0, zz_eq0, zz_m1lt, zz_m1ge, zz_m1eq, bI_eq0, decide_eq_false_iff_not, decide_eq_true_eq, Decidable.not_not, not_true_eq_false, not_false_eq_true, Nat.not_lt, Nat.not_le, Bool.not_eq_false, Bool.not_eq_true] at c_19
            refine V.iconst (v := (-1)) dR_path_22 (by decide) ?_
            refine V.ireturn dR_path_23 rfl rfl ?_
            exact h1 hno
    · have loop2 : (∀ k, k < m → s_pc (s_byt x k)) → ∀ q hq, q ≤ m → RI G hq o T (s_app p len x m) (len + (m - q)) hand op gone ents bl → FrO o h hq → V G mR_path 88 [(4, .int (lm q)), (0, .ref o), (1, .long x), (3, .int (nI m))] [] hq 0 0 Q := by
        intro hc q
        induction q with
        | zero =>
          intro hq hqm hI2 hF
          obtain ⟨hS2, ⟨hln2, hpp2, hl22, hp2⟩, -⟩ := id hI2
          obtain ⟨hz2, hk02, hk12, hk22, hk32, hk42, hk52, hk62, hk72, hk82, hf02, -⟩ := id hS2
          refine V.iload dR_path_88 rfl ?_
          refine V.if_lt (tgt := 130) dR_path_90 (by decide) (fun c_90 => ?_) (fun c_90 => ?_)
          · try simp only [lm_0, zz_m1lt, not_true_eq_false] at c_90
            first | refine V.aload_n dR_path_130 rfl ?_ | refine V.aload_nN dR_path_130 rfl ?_
            refine V.getk dR_path_131 (by omega) (by assumption) f_R_44_4 (by assumption) ?_
            refine V.ireturn dR_path_134 rfl rfl ?_
            rw [Nat.sub_zero] at hI2
            exact h2 m rfl (by omega) ⟨m, rfl, by omega, by omega, hc⟩ hq hI2 hF
          · try simp only [lm_0, zz_m1lt, not_true_eq_false] at c_90
            all_goals omega
        | succ q ih =>
          intro hq hqm hI2 hF
          obtain ⟨hS2, ⟨hln2, hpp2, hl22, hp2⟩, -⟩ := id hI2
          obtain ⟨hz2, hk02, hk12, hk22, hk32, hk42, hk52, hk62, hk72, hk82, hf02, -⟩ := id hS2
          refine V.iload dR_path_88 rfl ?_
          refine V.if_lt (tgt := 130) dR_path_90 (by decide) (fun c_90 => ?_) (fun c_90 => ?_)
          · try simp (disch := omega) only [lm_s, zz_lt0, not_false_eq_true] at c_90
            all_goals omega
          · try simp (disch := omega) only [lm_s, zz_lt0, not_false_eq_true] at c_90
            rw [lm_s]
            first | refine V.aload_n dR_path_93 rfl ?_ | refine V.aload_nN dR_path_93 rfl ?_
            refine V.getk dR_path_94 (by omega) (by assumption) f_R_7_4 (by assumption) ?_
            first | refine V.aload_n dR_path_97 rfl ?_ | refine V.aload_nN dR_path_97 rfl ?_
            refine V.getk dR_path_98 (by omega) (by assumption) f_R_44_4 (by assumption) ?_
            refine V.lload_n dR_path_101 rfl ?_
            refine V.bipush (v := (nI 8)) dR_path_102 (by decide) ?_
            refine V.iload dR_path_104 rfl ?_
            refine V.imulN dR_path_106 ?_
            refine V.lshr dR_path_107 rfl ?_
            refine V.l2i dR_path_108 rfl ?_
            refine V.sipush (v := (nI 255)) dR_path_109 (by decide) ?_
            refine V.iand dR_path_112 ?_
            rw [by_shr x (by omega)]
            refine V.iastoreN dR_path_113 (by omega) (by assumption) (by omega) rfl ?_
            intro h113 e113
            have hS3 : RS G h113 o := by (rw [e113]; exact hS2.put (by omega))
            obtain ⟨hz3, hk03, -⟩ := id hS3
            have hln3 : h113.2.1 o 1 = .int (nI (len + (m - (q + 1)))) := by (rw [e113]; exact (hp_a (by omega)).trans hln2)
            first | refine V.aload_n dR_path_114 rfl ?_ | refine V.aload_nN dR_path_114 rfl ?_
            refine V.dup dR_path_115 rfl ?_
            refine V.getk dR_path_116 (by omega) hk03 f_R_44_4 hln3 ?_
            refine V.iconst (v := (nI 1)) dR_path_119 (by decide) ?_
            refine V.iaddN dR_path_120 ?_
            refine V.putk dR_path_121 (by omega) hk03 p_R_44_4 rfl rfl ?_
            intro h121 e121
            refine V.iinc (v := lm q) dR_path_124 rfl (by show nI q + Int32.ofInt (-1) = nI q - 1; rw [show Int32.ofInt (-1) = -1 by decide, Int32.sub_eq_add_neg]) (by decide) ?_
            refine V.goto (tgt := 88) dR_path_127 (by decide) ?_
            refine V.re [4, 0, 1, 3] rfl (ih h121 (by omega) ?_ ?_)
            · have hv : s_app p len x m (len + (m - (q + 1))) = s_byt x q := by
                unfold s_app
                rw [if_neg (by omega)]
                congr 1
                omega
              have hg3 := hI2.grow (by omega) (by rw [hv]; exact s_byt_lt x q)
              rw [hv] at hg3
              rw [e121, e113, show len + (m - q) = len + (m - (q + 1)) + 1 by omega]
              exact hg3
            · rw [e121, e113]; exact (hF.put (by omega)).put (by omega)
      have loop1 : ∀ r k, k + r = m → (∀ j, j < k → s_pc (s_byt x j)) → V G mR_path 27 [(4, .int (nI k)), (0, .ref o), (1, .long x), (3, .int (nI m))] [] h 0 0 Q := by
        intro r
        induction r with
        | zero =>
          intro k hr hc
          rw [show k = m by omega] at hc ⊢
          refine V.iload dR_path_27 rfl ?_
          refine V.iload_n dR_path_29 rfl ?_
          refine V.icmp_ge (tgt := 83) dR_path_30 (by decide) (fun c_30 => ?_) (fun c_30 => ?_)
          · try simp (disch := omega) only [nI_ltI, nI_leI, nI_eq, zz_lt0, zz_ge0, zz_gt0, zz_le0, zz_eq0, zz_m1lt, zz_m1ge, zz_m1eq, bI_eq0, decide_eq_false_iff_not, decide_eq_true_eq, Decidable.not_not, not_true_eq_false, not_false_eq_true, Nat.not_lt, Nat.not_le, Bool.not_eq_false, Bool.not_eq_true] at c_30
            refine V.iload_n dR_path_83 rfl ?_
            refine V.iconst (v := (nI 1)) dR_path_84 (by decide) ?_
            refine V.isub dR_path_85 ?_
            refine V.istore dR_path_86 (by decide) ?_
            exact V.re [4, 0, 1, 3] rfl (loop2 hc m h (Nat.le_refl _) (by rw [Nat.sub_self, Nat.add_zero]; exact hI.path (fun j hj => by (unfold s_app; rw [if_pos hj]))) FrO.rf)
          · try simp (disch := omega) only [nI_ltI, nI_leI, nI_eq, zz_lt0, zz_ge0, zz_gt0, zz_le0, zz_eq0, zz_m1lt, zz_m1ge, zz_m1eq, bI_eq0, decide_eq_false_iff_not, decide_eq_true_eq, Decidable.not_not, not_true_eq_false, not_false_eq_true, Nat.not_lt, Nat.not_le, Bool.not_eq_false, Bool.not_eq_true] at c_30
            all_goals omega
        | succ r ih =>
          intro k hr hc
          refine V.iload dR_path_27 rfl ?_
          refine V.iload_n dR_path_29 rfl ?_
          refine V.icmp_ge (tgt := 83) dR_path_30 (by decide) (fun c_30 => ?_) (fun c_30 => ?_)
          · try simp (disch := omega) only [nI_ltI, nI_leI, nI_eq, zz_lt0, zz_ge0, zz_gt0, zz_le0, zz_eq0, zz_m1lt, zz_m1ge, zz_m1eq, bI_eq0, decide_eq_false_iff_not, decide_eq_true_eq, Decidable.not_not, not_true_eq_false, not_false_eq_true, Nat.not_lt, Nat.not_le, Bool.not_eq_false, Bool.not_eq_true] at c_30
            all_goals omega
          · try simp (disch := omega) only [nI_ltI, nI_leI, nI_eq, zz_lt0, zz_ge0, zz_gt0, zz_le0, zz_eq0, zz_m1lt, zz_m1ge, zz_m1eq, bI_eq0, decide_eq_false_iff_not, decide_eq_true_eq, Decidable.not_not, not_true_eq_false, not_false_eq_true, Nat.not_lt, Nat.not_le, Bool.not_eq_false, Bool.not_eq_true] at c_30
            refine V.lload_n dR_path_33 rfl ?_
            refine V.bipush (v := (nI 8)) dR_path_34 (by decide) ?_
            refine V.iload dR_path_36 rfl ?_
            refine V.imulN dR_path_38 ?_
            refine V.lshr dR_path_39 rfl ?_
            refine V.l2i dR_path_40 rfl ?_
            refine V.sipush (v := (nI 255)) dR_path_41 (by decide) ?_
            refine V.iand dR_path_44 ?_
            rw [by_shr x (by omega)]
            have hbl := s_byt_lt x k
            refine V.istore dR_path_45 (by decide) ?_
            refine V.iload dR_path_47 rfl ?_
            refine V.bipush (v := (nI 9)) dR_path_49 (by decide) ?_
            refine V.icmp_eq (tgt := 77) dR_path_51 (by decide) (fun c_51 => ?_) (fun c_51 => ?_)
            · try simp (disch := omega) only [nI_ltI, nI_leI, nI_eq, zz_lt0, zz_ge0, zz_gt0, zz_le0, zz_eq0, zz_m1lt, zz_m1ge, zz_m1eq, bI_eq0, decide_eq_false_iff_not, decide_eq_true_eq, Decidable.not_not, not_true_eq_false, not_false_eq_true, Nat.not_lt, Nat.not_le, Bool.not_eq_false, Bool.not_eq_true] at c_51
              refine V.iincN dR_path_77 rfl (by decide) ?_
              refine V.goto (tgt := 27) dR_path_80 (by decide) ?_
              exact V.re [4, 0, 1, 3] rfl (ih (k + 1) (by omega) (fun j hj => (Nat.lt_or_ge j k).elim (hc j) (fun z => by (rw [show j = k by omega]; omega))))
            · try simp (disch := omega) only [nI_ltI, nI_leI, nI_eq, zz_lt0, zz_ge0, zz_gt0, zz_le0, zz_eq0, zz_m1lt, zz_m1ge, zz_m1eq, bI_eq0, decide_eq_false_iff_not, decide_eq_true_eq, Decidable.not_not, not_true_eq_false, not_false_eq_true, Nat.not_lt, Nat.not_le, Bool.not_eq_false, Bool.not_eq_true] at c_51
              refine V.iload dR_path_54 rfl ?_
              refine V.bipush (v := (nI 10)) dR_path_56 (by decide) ?_
              refine V.icmp_eq (tgt := 77) dR_path_58 (by decide) (fun c_58 => ?_) (fun c_58 => ?_)
              · try simp (disch := omega) only [nI_ltI, nI_leI, nI_eq, zz_lt0, zz_ge0, zz_gt0, zz_le0, zz_eq0, zz_m1lt, zz_m1ge, zz_m1eq, bI_eq0, decide_eq_false_iff_not, decide_eq_true_eq, Decidable.not_not, not_true_eq_false, not_false_eq_true, Nat.not_lt, Nat.not_le, Bool.not_eq_false, Bool.not_eq_true] at c_58
                refine V.iincN dR_path_77 rfl (by decide) ?_
                refine V.goto (tgt := 27) dR_path_80 (by decide) ?_
                exact V.re [4, 0, 1, 3] rfl (ih (k + 1) (by omega) (fun j hj => (Nat.lt_or_ge j k).elim (hc j) (fun z => by (rw [show j = k by omega]; omega))))
              · try simp (disch := omega) only [nI_ltI, nI_leI, nI_eq, zz_lt0, zz_ge0, zz_gt0, zz_le0, zz_eq0, zz_m1lt, zz_m1ge, zz_m1eq, bI_eq0, decide_eq_false_iff_not, decide_eq_true_eq, Decidable.not_not, not_true_eq_false, not_false_eq_true, Nat.not_lt, Nat.not_le, Bool.not_eq_false, Bool.not_eq_true] at c_58
                refine V.iload dR_path_61 rfl ?_
                refine V.bipush (v := (nI 32)) dR_path_63 (by decide) ?_
                refine V.icmp_lt (tgt := 75) dR_path_65 (by decide) (fun c_65 => ?_) (fun c_65 => ?_)
                · try simp (disch := omega) only [nI_ltI, nI_leI, nI_eq, zz_lt0, zz_ge0, zz_gt0, zz_le0, zz_eq0, zz_m1lt, zz_m1ge, zz_m1eq, bI_eq0, decide_eq_false_iff_not, decide_eq_true_eq, Decidable.not_not, not_true_eq_false, not_false_eq_true, Nat.not_lt, Nat.not_le, Bool.not_eq_false, Bool.not_eq_true] at c_65
                  refine V.iconst (v := (-1)) dR_path_75 (by decide) ?_
                  refine V.ireturn dR_path_76 rfl rfl ?_
                  exact h1 (fun ⟨m2, e2, _, _, z⟩ => by
                    have e3 := nI_inj (by omega) (by omega) e2
                    have := z k (by omega)
                    omega)
                · try simp (disch := omega) only [nI_ltI, nI_leI, nI_eq, zz_lt0, zz_ge0, zz_gt0, zz_le0, zz_eq0, zz_m1lt, zz_m1ge, zz_m1eq, bI_eq0, decide_eq_false_iff_not, decide_eq_true_eq, Decidable.not_not, not_true_eq_false, not_false_eq_true, Nat.not_lt, Nat.not_le, Bool.not_eq_false, Bool.not_eq_true] at c_65
                  refine V.iload dR_path_68 rfl ?_
                  refine V.bipush (v := (nI 126)) dR_path_70 (by decide) ?_
                  refine V.icmp_le (tgt := 77) dR_path_72 (by decide) (fun c_72 => ?_) (fun c_72 => ?_)
                  · try simp (disch := omega) only [nI_ltI, nI_leI, nI_eq, zz_lt0, zz_ge0, zz_gt0, zz_le0, zz_eq0, zz_m1lt, zz_m1ge, zz_m1eq, bI_eq0, decide_eq_false_iff_not, decide_eq_true_eq, Decidable.not_not, not_true_eq_false, not_false_eq_true, Nat.not_lt, Nat.not_le, Bool.not_eq_false, Bool.not_eq_true] at c_72
                    refine V.iincN dR_path_77 rfl (by decide) ?_
                    refine V.goto (tgt := 27) dR_path_80 (by decide) ?_
                    exact V.re [4, 0, 1, 3] rfl (ih (k + 1) (by omega) (fun j hj => (Nat.lt_or_ge j k).elim (hc j) (fun z => by (rw [show j = k by omega]; omega))))
                  · try simp (disch := omega) only [nI_ltI, nI_leI, nI_eq, zz_lt0, zz_ge0, zz_gt0, zz_le0, zz_eq0, zz_m1lt, zz_m1ge, zz_m1eq, bI_eq0, decide_eq_false_iff_not, decide_eq_true_eq, Decidable.not_not, not_true_eq_false, not_false_eq_true, Nat.not_lt, Nat.not_le, Bool.not_eq_false, Bool.not_eq_true] at c_72
                    refine V.iconst (v := (-1)) dR_path_75 (by decide) ?_
                    refine V.ireturn dR_path_76 rfl rfl ?_
                    exact h1 (fun ⟨m2, e2, _, _, z⟩ => by
                      have e3 := nI_inj (by omega) (by omega) e2
                      have := z k (by omega)
                      omega)
      refine V.iload_n dR_path_0 rfl ?_
      refine V.if_lt (tgt := 22) dR_path_1 (by decide) (fun c_1 => ?_) (fun c_1 => ?_)
      · try simp (disch := omega) only [nI_ltI, nI_leI, nI_eq, zz_lt0, zz_ge0, zz_gt0, zz_le0, zz_eq0, zz_m1lt, zz_m1ge, zz_m1eq, bI_eq0, decide_eq_false_iff_not, decide_eq_true_eq, Decidable.not_not, not_true_eq_false, not_false_eq_true, Nat.not_lt, Nat.not_le, Bool.not_eq_false, Bool.not_eq_true] at c_1
        all_goals omega
      · try simp (disch := omega) only [nI_ltI, nI_leI, nI_eq, zz_lt0, zz_ge0, zz_gt0, zz_le0, zz_eq0, zz_m1lt, zz_m1ge, zz_m1eq, bI_eq0, decide_eq_false_iff_not, decide_eq_true_eq, Decidable.not_not, not_true_eq_false, not_false_eq_true, Nat.not_lt, Nat.not_le, Bool.not_eq_false, Bool.not_eq_true] at c_1
        refine V.iload_n dR_path_4 rfl ?_
        refine V.bipush (v := (nI 8)) dR_path_5 (by decide) ?_
        refine V.icmp_gt (tgt := 22) dR_path_7 (by decide) (fun c_7 => ?_) (fun c_7 => ?_)
        · try simp (disch := omega) only [nI_ltI, nI_leI, nI_eq, zz_lt0, zz_ge0, zz_gt0, zz_le0, zz_eq0, zz_m1lt, zz_m1ge, zz_m1eq, bI_eq0, decide_eq_false_iff_not, decide_eq_true_eq, Decidable.not_not, not_true_eq_false, not_false_eq_true, Nat.not_lt, Nat.not_le, Bool.not_eq_false, Bool.not_eq_true] at c_7
          all_goals omega
        · try simp (disch := omega) only [nI_ltI, nI_leI, nI_eq, zz_lt0, zz_ge0, zz_gt0, zz_le0, zz_eq0, zz_m1lt, zz_m1ge, zz_m1eq, bI_eq0, decide_eq_false_iff_not, decide_eq_true_eq, Decidable.not_not, not_true_eq_false, not_false_eq_true, Nat.not_lt, Nat.not_le, Bool.not_eq_false, Bool.not_eq_true] at c_7
          first | refine V.aload_n dR_path_10 rfl ?_ | refine V.aload_nN dR_path_10 rfl ?_
          refine V.getk dR_path_11 (by omega) (by assumption) f_R_44_4 (by assumption) ?_
          refine V.iload_n dR_path_14 rfl ?_
          refine V.iaddN dR_path_15 ?_
          refine V.sipush (v := (nI 250)) dR_path_16 (by decide) ?_
          refine V.icmp_le (tgt := 24) dR_path_19 (by decide) (fun c_19 => ?_) (fun c_19 => ?_)
          · try simp (disch := omega) only [nI_ltI, nI_leI, nI_eq, zz_lt0, zz_ge0, zz_gt0, zz_le0, zz_eq0, zz_m1lt, zz_m1ge, zz_m1eq, bI_eq0, decide_eq_false_iff_not, decide_eq_true_eq, Decidable.not_not, not_true_eq_false, not_false_eq_true, Nat.not_lt, Nat.not_le, Bool.not_eq_false, Bool.not_eq_true] at c_19
            refine V.iconst (v := (nI 0)) dR_path_24 (by decide) ?_
            refine V.istore dR_path_25 (by decide) ?_
            exact loop1 m 0 (by omega) (fun j hj => by omega)
          · try simp (disch := omega) only [nI_ltI, nI_leI, nI_eq, zz_lt0, zz_ge0, zz_gt0, zz_le0, zz_eq0, zz_m1lt, zz_m1ge, zz_m1eq, bI_eq0, decide_eq_false_iff_not, decide_eq_true_eq, Decidable.not_not, not_true_eq_false, not_false_eq_true, Nat.not_lt, Nat.not_le, Bool.not_eq_false, Bool.not_eq_true] at c_19
            all_goals omega
