/-- m bytes of x, the highest first, of the file e -/
def s_bs (x : Int64) (e : Nat) : Nat → List (Nat × Nat)
  | 0 => []
  | q + 1 => (s_byt x q, e) :: s_bs x e q
theorem s_bs_len (x : Int64) (e : Nat) : ∀ m, (s_bs x e m).length = m
  | 0 => rfl
  | q + 1 => by simp [s_bs, s_bs_len x e q]
theorem sh_16 : ∀ w, w < 300 → (nI w).toInt16.toInt32 = nI w := by decide +kernel
theorem fb_app {bl : List (Nat × Nat)} {b e x : Nat} : s_fb (bl ++ [(b, e)]) x = if x = e then s_fb bl x ++ [b] else s_fb bl x := by
  unfold s_fb
  rw [List.filter_append, List.map_append]
  by_cases q : x = e
  · subst q; simp
  · have : ¬ e = x := fun z => q z.symm
    simp [q, this]
theorem RI.push {G : GG} {h : HH} {o : Nat} {T : TT} {p : Nat → Nat} {len hand : Nat} {op : Option Nat} {gone : Bool} {ents : Nat} {bl : List (Nat × Nat)} {b e : Nat} (hI : RI G h o T p len hand op gone ents bl) (hb : b < 256) (he : e < 300) (hl : bl.length < 65536) :
    RI G (h_put (h_put (h_put (h_put h (o + 7) bl.length (v_b (b, e))) (o + 8) bl.length (.int (nI e))) o 11 (.int (nI (bl.length + 1)))) (o + 4) e (.int (nI ((s_fb bl e).length + 1)))) o T p len hand op gone ents (bl ++ [(b, e)]) := by
  obtain ⟨hS, hP, hT, hH, hO, hg, hE, hB, hop⟩ := hI
  obtain ⟨b1, b2, b3, b4, b5, b6⟩ := hB
  refine ⟨(((hS.put (by omega)).put (by omega)).put (by omega)).put (by omega), (((hP.put (by omega)).put (by omega)).put (by omega)).put (by omega), (((hT.put (by omega)).put (by omega)).put (by omega)).put (by omega), ⟨?_, hH.2⟩, ?_, ?_, ?_, ⟨?_, fun k hk => ?_, fun k hk => ?_, fun q hq => ?_, ?_, fun x hx => ?_⟩, hop⟩
  · exact (hp_a (by omega)).trans ((hp_j (by omega)).trans ((hp_a (by omega)).trans ((hp_a (by omega)).trans hH.1)))
  · exact (hp_a (by omega)).trans ((hp_j (by omega)).trans ((hp_a (by omega)).trans ((hp_a (by omega)).trans hO)))
  · exact (hp_a (by omega)).trans ((hp_j (by omega)).trans ((hp_a (by omega)).trans ((hp_a (by omega)).trans hg)))
  · exact (hp_a (by omega)).trans ((hp_j (by omega)).trans ((hp_a (by omega)).trans ((hp_a (by omega)).trans hE)))
  · rw [List.length_append, List.length_singleton]; exact (hp_a (by omega)).trans hp_eq
  · rw [List.length_append, List.length_singleton] at hk
    rw [hp_a (by omega), hp_a (by omega), hp_a (by omega)]
    by_cases z : k < bl.length
    · rw [getD_app_l z, hp_j (by omega)]; exact b2 k z
    · rw [show k = bl.length by omega, getD_app_r]; exact hp_eq
  · rw [List.length_append, List.length_singleton] at hk
    rw [hp_a (by omega), hp_a (by omega)]
    by_cases z : k < bl.length
    · rw [getD_app_l z, hp_j (by omega), hp_a (by omega)]; exact b3 k z
    · rw [show k = bl.length by omega, getD_app_r]; exact hp_eq
  · rcases List.mem_append.mp hq with z | z
    · exact b4 q z
    · rw [List.mem_singleton.mp z]; exact ⟨hb, he⟩
  · rw [List.length_append, List.length_singleton]; omega
  · rw [fb_app]
    by_cases z : x = e
    · subst z; rw [if_pos rfl, List.length_append, List.length_singleton]; exact hp_eq
    · rw [if_neg z, hp_j z, hp_a (by omega), hp_a (by omega), hp_a (by omega)]; exact b6 x hx
def s_byteAt (op : Option Nat) (gone : Bool) (bl : List (Nat × Nat)) (j : Int32) : Int32 := match op with
  | none => -1
  | some e => if gone = true then -1 else if ¬ (j < 0 ∨ (s_fb bl e).length ≤ j.toNatClampNeg) then nI ((s_fb bl e).getD j.toNatClampNeg 0) else -1
def s_len6 (op : Option Nat) (gone : Bool) (bl : List (Nat × Nat)) : Int32 := match op with
  | none => -1
  | some e => if gone = true then nI 0 else nI (s_fb bl e).length
def s_count (T : TT) (len hand : Nat) (op : Option Nat) (gone : Bool) (bl : List (Nat × Nat)) (dp : Nat → Nat) (w : Int32) : Int32 :=
  if w = nI 0 then nI (s_cnt (fun e => decide (T.1 e = 1)) 300) else if w = nI 1 then nI (s_cnt (fun e => decide (T.1 e = 2)) 300) else if w = nI 2 then nI bl.length else if w = nI 3 then nI (s_cnt (fun e => decide (1 ≤ e ∧ T.1 e ≠ 0 ∧ T.2.1 e = hand)) 300)
  else if w = nI 4 then nI (dp hand) else if w = nI 5 then nI len else if w = nI 6 then s_len6 op gone bl else -1
set_option maxHeartbeats 4000000 in
set_option maxRecDepth 100000 in
/-- PathTreeModel.write -/
theorem kR_write {G : GG} {h : HH} {o : Nat} {T : TT} {p : Nat → Nat} {len hand : Nat} {op : Option Nat} {gone : Bool} {ents : Nat} {bl : List (Nat × Nat)} {Q : Option Value → HH → Prop} {x : Int64} {n : Int32} (hI : RI G h o T p len hand op gone ents bl) (hbl : bl.length ≤ 16000) (q0 : op = none ∨ (¬ ∃ m, n = nI m ∧ m ≤ 8) → Q (some (.int (-1))) h) (q1 : ∀ e m, op = some e → gone = true → n = nI m → m ≤ 8 → Q (some (.int (nI 0))) h) (q2 : ∀ e m, op = some e → gone = false → n = nI m → m ≤ 8 → ∀ h', RI G h' o T p len hand op gone ents (bl ++ s_bs x e m) → FrO o h h' → Q (some (.int (nI (s_fb (bl ++ s_bs x e m) e).length))) h') : V G mR_write 0 (lv_args 0 [.ref o, .long x, .int n]) [] h 0 0 Q := by
  obtain ⟨hS, hP, hT, hH, hO, hg, hE, hB, hop⟩ := id hI
  obtain ⟨hz, hk0, hk1, hk2, hk3, hk4, hk5, hk6, hk7, hk8, hf0, hf2, hf3, hf4, hf5, hf6, hf12, hf13⟩ := id hS
  obtain ⟨hln, hpp, hl2, hp⟩ := id hP
  obtain ⟨hkd, hkd2, hin, hin2, hns, hns2, hnm, hnm2⟩ := id hT
  obtain ⟨hhand, hhl⟩ := id hH
  cases hop2 : op with
  | none =>
    subst hop2
    have hO9 : h.2.1 o 9 = .int (-1) := hO
    first | refine V.aload_n dR_write_0 rfl ?_ | refine V.aload_nN dR_write_0 rfl ?_
    refine V.getk dR_write_1 (by omega) (by assumption) f_R_32_4 hO9 ?_
    refine V.if_lt (tgt := 17) dR_write_4 (by decide) (fun c_4 => ?_) (fun c_4 => ?_)
    · try simp only [zz_m1lt, zz_m1ge, not_true_eq_false, not_false_eq_true] at c_4
      refine V.iconst (v := (-1)) dR_write_17 (by decide) ?_
      refine V.ireturn dR_write_18 rfl rfl ?_
      exact q0 (Or.inl rfl)
    · try simp only [zz_m1lt, zz_m1ge, not_true_eq_false, not_false_eq_true] at c_4
      all_goals omega
  | some e =>
    subst hop2
    have he := hop e rfl
    have hO9 : h.2.1 o 9 = .int (nI e) := hO
    rcases i8_cases n with hn | hn | ⟨m, hm, rfl⟩
    · have hno : ¬ ∃ m, n = nI m ∧ m ≤ 8 := fun ⟨m, e, z⟩ => by (subst e; exact nI_pos (by omega) hn)
      first | refine V.aload_n dR_write_0 rfl ?_ | refine V.aload_nN dR_write_0 rfl ?_
      refine V.getk dR_write_1 (by omega) (by assumption) f_R_32_4 hO9 ?_
      refine V.if_lt (tgt := 17) dR_write_4 (by decide) (fun c_4 => ?_) (fun c_4 => ?_)
      · try simp (disch := omega) only [nI_ltI, nI_leI, nI_eq, zz_lt0, zz_ge0, zz_gt0, zz_le0, zz_eq0, zz_m1lt, zz_m1ge, zz_m1eq, bI_eq0, decide_eq_false_iff_not, decide_eq_true_eq, Decidable.not_not, not_true_eq_false, not_false_eq_true, Nat.not_lt, Nat.not_le, Bool.not_eq_false, Bool.not_eq_true] at c_4
        all_goals omega
      · try simp (disch := omega) only [nI_ltI, nI_leI, nI_eq, zz_lt0, zz_ge0, zz_gt0, zz_le0, zz_eq0, zz_m1lt, zz_m1ge, zz_m1eq, bI_eq0, decide_eq_false_iff_not, decide_eq_true_eq, Decidable.not_not, not_true_eq_false, not_false_eq_true, Nat.not_lt, Nat.not_le, Bool.not_eq_false, Bool.not_eq_true] at c_4
        refine V.iload_n dR_write_7 rfl ?_
        refine V.if_lt (tgt := 17) dR_write_8 (by decide) (fun c_8 => ?_) (fun c_8 => ?_)
        · skip
          refine V.iconst (v := (-1)) dR_write_17 (by decide) ?_
          refine V.ireturn dR_write_18 rfl rfl ?_
          exact q0 (Or.inr hno)
        · skip
          exact absurd hn c_8
    · have hno : ¬ ∃ m, n = nI m ∧ m ≤ 8 := fun ⟨m, e, z⟩ => by (subst e; have := (nI_leI (by omega) (by omega)).mp hn; omega)
      have hn8 := le8 hn
      first | refine V.aload_n dR_write_0 rfl ?_ | refine V.aload_nN dR_write_0 rfl ?_
      refine V.getk dR_write_1 (by omega) (by assumption) f_R_32_4 hO9 ?_
      refine V.if_lt (tgt := 17) dR_write_4 (by decide) (fun c_4 => ?_) (fun c_4 => ?_)
      · try simp (disch := omega) only [nI_ltI, nI_leI, nI_eq, zz_lt0, zz_ge0, zz_gt0, zz_le0, zz_eq0, zz_m1lt, zz_m1ge, zz_m1eq, bI_eq0, decide_eq_false_iff_not, decide_eq_true_eq, Decidable.not_not, not_true_eq_false, not_false_eq_true, Nat.not_lt, Nat.not_le, Bool.not_eq_false, Bool.not_eq_true] at c_4
        all_goals omega
      · try simp (disch := omega) only [nI_ltI, nI_leI, nI_eq, zz_lt0, zz_ge0, zz_gt0, zz_le0, zz_eq0, zz_m1lt, zz_m1ge, zz_m1eq, bI_eq0, decide_eq_false_iff_not, decide_eq_true_eq, Decidable.not_not, not_true_eq_false, not_false_eq_true, Nat.not_lt, Nat.not_le, Bool.not_eq_false, Bool.not_eq_true] at c_4
        refine V.iload_n dR_write_7 rfl ?_
        refine V.if_lt (tgt := 17) dR_write_8 (by decide) (fun c_8 => ?_) (fun c_8 => ?_)
        · skip
          refine V.iconst (v := (-1)) dR_write_17 (by decide) ?_
          refine V.ireturn dR_write_18 rfl rfl ?_
          exact q0 (Or.inr hno)
        · skip
          refine V.iload_n dR_write_11 rfl ?_
          refine V.bipush (v := (nI 8)) dR_write_12 (by decide) ?_
          refine V.icmp_le (tgt := 19) dR_write_14 (by decide) (fun c_14 => ?_) (fun c_14 => ?_)
          · skip
            exact absurd hn8 (Int32.not_lt.mpr c_14)
          · skip
            refine V.iconst (v := (-1)) dR_write_17 (by decide) ?_
            refine V.ireturn dR_write_18 rfl rfl ?_
            exact q0 (Or.inr hno)
    · cases hgo : gone with
      | true =>
        subst hgo
        have hg9 : h.2.1 o 10 = .int (bI true) := hg
        first | refine V.aload_n dR_write_0 rfl ?_ | refine V.aload_nN dR_write_0 rfl ?_
        refine V.getk dR_write_1 (by omega) (by assumption) f_R_32_4 hO9 ?_
        refine V.if_lt (tgt := 17) dR_write_4 (by decide) (fun c_4 => ?_) (fun c_4 => ?_)
        · try simp (disch := omega) only [nI_ltI, nI_leI, nI_eq, zz_lt0, zz_ge0, zz_gt0, zz_le0, zz_eq0, zz_m1lt, zz_m1ge, zz_m1eq, bI_eq0, decide_eq_false_iff_not, decide_eq_true_eq, Decidable.not_not, not_true_eq_false, not_false_eq_true, Nat.not_lt, Nat.not_le, Bool.not_eq_false, Bool.not_eq_true] at c_4
          all_goals omega
        · try simp (disch := omega) only [nI_ltI, nI_leI, nI_eq, zz_lt0, zz_ge0, zz_gt0, zz_le0, zz_eq0, zz_m1lt, zz_m1ge, zz_m1eq, bI_eq0, decide_eq_false_iff_not, decide_eq_true_eq, Decidable.not_not, not_true_eq_false, not_false_eq_true, Nat.not_lt, Nat.not_le, Bool.not_eq_false, Bool.not_eq_true] at c_4
          refine V.iload_n dR_write_7 rfl ?_
          refine V.if_lt (tgt := 17) dR_write_8 (by decide) (fun c_8 => ?_) (fun c_8 => ?_)
          · try simp (disch := omega) only [nI_ltI, nI_leI, nI_eq, zz_lt0, zz_ge0, zz_gt0, zz_le0, zz_eq0, zz_m1lt, zz_m1ge, zz_m1eq, bI_eq0, decide_eq_false_iff_not, decide_eq_true_eq, Decidable.not_not, not_true_eq_false, not_false_eq_true, Nat.not_lt, Nat.not_le, Bool.not_eq_false, Bool.not_eq_true] at c_8
            all_goals omega
          · try simp (disch := omega) only [nI_ltI, nI_leI, nI_eq, zz_lt0, zz_ge0, zz_gt0, zz_le0, zz_eq0, zz_m1lt, zz_m1ge, zz_m1eq, bI_eq0, decide_eq_false_iff_not, decide_eq_true_eq, Decidable.not_not, not_true_eq_false, not_false_eq_true, Nat.not_lt, Nat.not_le, Bool.not_eq_false, Bool.not_eq_true] at c_8
            refine V.iload_n dR_write_11 rfl ?_
            refine V.bipush (v := (nI 8)) dR_write_12 (by decide) ?_
            refine V.icmp_le (tgt := 19) dR_write_14 (by decide) (fun c_14 => ?_) (fun c_14 => ?_)
            · try simp (disch := omega) only [nI_ltI, nI_leI, nI_eq, zz_lt0, zz_ge0, zz_gt0, zz_le0, zz_eq0, zz_m1lt, zz_m1ge, zz_m1eq, bI_eq0, decide_eq_false_iff_not, decide_eq_true_eq, Decidable.not_not, not_true_eq_false, not_false_eq_true, Nat.not_lt, Nat.not_le, Bool.not_eq_false, Bool.not_eq_true] at c_14
              refine V.iload_n dR_write_19 rfl ?_
              refine V.iconst (v := (nI 1)) dR_write_20 (by decide) ?_
              refine V.isub dR_write_21 ?_
              refine V.istore dR_write_22 (by decide) ?_
              refine V.iload dR_write_24 rfl ?_
              refine V.if_lt (tgt := 124) dR_write_26 (by decide) (fun c_26 => ?_) (fun c_26 => ?_)
              · skip
                first | refine V.aload_n dR_write_124 rfl ?_ | refine V.aload_nN dR_write_124 rfl ?_
                refine V.getk dR_write_125 (by omega) (by assumption) f_R_83_4 hg9 ?_
                refine V.if_eq (tgt := 135) dR_write_128 (by decide) (fun c_128 => ?_) (fun c_128 => ?_)
                · skip
                  exact absurd c_128 (by decide)
                · skip
                  refine V.iconst (v := (nI 0)) dR_write_131 (by decide) ?_
                  refine V.goto (tgt := 144) dR_write_132 (by decide) ?_
                  refine V.ireturn dR_write_144 rfl rfl ?_
                  exact q1 e m rfl rfl rfl (by omega)
              · skip
                first | refine V.aload_n dR_write_29 rfl ?_ | refine V.aload_nN dR_write_29 rfl ?_
                refine V.getk dR_write_30 (by omega) (by assumption) f_R_83_4 hg9 ?_
                refine V.if_ne (tgt := 124) dR_write_33 (by decide) (fun c_33 => ?_) (fun c_33 => ?_)
                · skip
                  first | refine V.aload_n dR_write_124 rfl ?_ | refine V.aload_nN dR_write_124 rfl ?_
                  refine V.getk dR_write_125 (by omega) (by assumption) f_R_83_4 hg9 ?_
                  refine V.if_eq (tgt := 135) dR_write_128 (by decide) (fun c_128 => ?_) (fun c_128 => ?_)
                  · skip
                    exact absurd c_128 (by decide)
                  · skip
                    refine V.iconst (v := (nI 0)) dR_write_131 (by decide) ?_
                    refine V.goto (tgt := 144) dR_write_132 (by decide) ?_
                    refine V.ireturn dR_write_144 rfl rfl ?_
                    exact q1 e m rfl rfl rfl (by omega)
                · skip
                  exact absurd c_33 (by decide)
            · try simp (disch := omega) only [nI_ltI, nI_leI, nI_eq, zz_lt0, zz_ge0, zz_gt0, zz_le0, zz_eq0, zz_m1lt, zz_m1ge, zz_m1eq, bI_eq0, decide_eq_false_iff_not, decide_eq_true_eq, Decidable.not_not, not_true_eq_false, not_false_eq_true, Nat.not_lt, Nat.not_le, Bool.not_eq_false, Bool.not_eq_true] at c_14
              all_goals omega
      | false =>
        subst hgo
        have loop : ∀ q hq bq, RI G hq o T p len hand (some e) false ents bq → bq.length + q ≤ 16200 → FrO o h hq → bq ++ s_bs x e q = bl ++ s_bs x e m → q ≤ 8 → V G mR_write 24 [(4, .int (lm q)), (0, .ref o), (1, .long x), (3, .int (nI m))] [] hq 0 0 Q := by
          intro q
          induction q with
          | zero =>
            intro hq bq hIq hlq hFq hbq hq8
            obtain ⟨hSq, hPq, hTq, hHq, hOq, hgq, hEq, hBq, hopq⟩ := id hIq
            obtain ⟨hzq, hk0q, hk1q, hk2q, hk3q, hk4q, hk5q, hk6q, hk7q, hk8q, hf0q, hf2q, hf3q, hf4q, hf5q, hf6q, hf12q, hf13q⟩ := id hSq
            obtain ⟨hlnq, hppq, hl2q, hpq⟩ := id hPq
            obtain ⟨hkdq, hkd2q, hinq, hin2q, hnsq, hns2q, hnmq, hnm2q⟩ := id hTq
            obtain ⟨hhandq, hhlq⟩ := id hHq
            obtain ⟨b1q, b2q, b3q, b4q, b5q, b6q⟩ := id hBq
            have hO9q : hq.2.1 o 9 = .int (nI e) := hOq
            have hg9q : hq.2.1 o 10 = .int (bI false) := hgq
            have hfbq := fb_le bq e
            refine V.iload dR_write_24 rfl ?_
            refine V.if_lt (tgt := 124) dR_write_26 (by decide) (fun c_26 => ?_) (fun c_26 => ?_)
            · try simp only [lm_0, zz_m1lt, not_true_eq_false] at c_26
              first | refine V.aload_n dR_write_124 rfl ?_ | refine V.aload_nN dR_write_124 rfl ?_
              refine V.getk dR_write_125 (by omega) (by assumption) f_R_83_4 hg9q ?_
              refine V.if_eq (tgt := 135) dR_write_128 (by decide) (fun c_128 => ?_) (fun c_128 => ?_)
              · skip
                first | refine V.aload_n dR_write_135 rfl ?_ | refine V.aload_nN dR_write_135 rfl ?_
                refine V.getk dR_write_136 (by omega) (by assumption) f_R_19_4 (by assumption) ?_
                first | refine V.aload_n dR_write_139 rfl ?_ | refine V.aload_nN dR_write_139 rfl ?_
                refine V.getk dR_write_140 (by omega) (by assumption) f_R_32_4 hO9q ?_
                refine V.ialoadN dR_write_143 (by omega) (by assumption) (by omega) (b6q e he) ?_
                refine V.ireturn dR_write_144 rfl rfl ?_
                rw [show s_bs x e 0 = [] from rfl, List.append_nil] at hbq
                subst hbq
                exact q2 e m rfl rfl rfl (by omega) hq hIq hFq
              · skip
                exact absurd (by decide) c_128
            · try simp only [lm_0, zz_m1lt, not_true_eq_false] at c_26
              all_goals omega
          | succ q ih =>
            intro hq bq hIq hlq hFq hbq hq8
            obtain ⟨hSq, hPq, hTq, hHq, hOq, hgq, hEq, hBq, hopq⟩ := id hIq
            obtain ⟨hzq, hk0q, hk1q, hk2q, hk3q, hk4q, hk5q, hk6q, hk7q, hk8q, hf0q, hf2q, hf3q, hf4q, hf5q, hf6q, hf12q, hf13q⟩ := id hSq
            obtain ⟨hlnq, hppq, hl2q, hpq⟩ := id hPq
            obtain ⟨hkdq, hkd2q, hinq, hin2q, hnsq, hns2q, hnmq, hnm2q⟩ := id hTq
            obtain ⟨hhandq, hhlq⟩ := id hHq
            obtain ⟨b1q, b2q, b3q, b4q, b5q, b6q⟩ := id hBq
            have hO9q : hq.2.1 o 9 = .int (nI e) := hOq
            have hg9q : hq.2.1 o 10 = .int (bI false) := hgq
            have hfbq := fb_le bq e
            refine V.iload dR_write_24 rfl ?_
            refine V.if_lt (tgt := 124) dR_write_26 (by decide) (fun c_26 => ?_) (fun c_26 => ?_)
            · try simp (disch := omega) only [lm_s, zz_lt0, not_false_eq_true] at c_26
              all_goals omega
            · try simp (disch := omega) only [lm_s, zz_lt0, not_false_eq_true] at c_26
              rw [lm_s]
              first | refine V.aload_n dR_write_29 rfl ?_ | refine V.aload_nN dR_write_29 rfl ?_
              refine V.getk dR_write_30 (by omega) (by assumption) f_R_83_4 hg9q ?_
              refine V.if_ne (tgt := 124) dR_write_33 (by decide) (fun c_33 => ?_) (fun c_33 => ?_)
              · skip
                exact absurd (by decide) c_33
              · skip
                first | refine V.aload_n dR_write_36 rfl ?_ | refine V.aload_nN dR_write_36 rfl ?_
                refine V.getk dR_write_37 (by omega) (by assumption) f_R_19_4 (by assumption) ?_
                first | refine V.aload_n dR_write_40 rfl ?_ | refine V.aload_nN dR_write_40 rfl ?_
                refine V.getk dR_write_41 (by omega) (by assumption) f_R_32_4 hO9q ?_
                refine V.ialoadN dR_write_44 (by omega) (by assumption) (by omega) (b6q e he) ?_
                refine V.sipush (v := (nI 16384)) dR_write_45 (by decide) ?_
                refine V.icmp_eq (tgt := 118) dR_write_48 (by decide) (fun c_48 => ?_) (fun c_48 => ?_)
                · try simp (disch := omega) only [nI_ltI, nI_leI, nI_eq, zz_lt0, zz_ge0, zz_gt0, zz_le0, zz_eq0, zz_m1lt, zz_m1ge, zz_m1eq, bI_eq0, decide_eq_false_iff_not, decide_eq_true_eq, Decidable.not_not, not_true_eq_false, not_false_eq_true, Nat.not_lt, Nat.not_le, Bool.not_eq_false, Bool.not_eq_true] at c_48
                  all_goals omega
                · try simp (disch := omega) only [nI_ltI, nI_leI, nI_eq, zz_lt0, zz_ge0, zz_gt0, zz_le0, zz_eq0, zz_m1lt, zz_m1ge, zz_m1eq, bI_eq0, decide_eq_false_iff_not, decide_eq_true_eq, Decidable.not_not, not_true_eq_false, not_false_eq_true, Nat.not_lt, Nat.not_le, Bool.not_eq_false, Bool.not_eq_true] at c_48
                  first | refine V.aload_n dR_write_51 rfl ?_ | refine V.aload_nN dR_write_51 rfl ?_
                  refine V.getk dR_write_52 (by omega) (by assumption) f_R_87_4 (by assumption) ?_
                  refine V.ldc (v := nI 65536) dR_write_55 co_R_35 ?_
                  refine V.icmp_ne (tgt := 63) dR_write_57 (by decide) (fun c_57 => ?_) (fun c_57 => ?_)
                  · try simp (disch := omega) only [nI_ltI, nI_leI, nI_eq, zz_lt0, zz_ge0, zz_gt0, zz_le0, zz_eq0, zz_m1lt, zz_m1ge, zz_m1eq, bI_eq0, decide_eq_false_iff_not, decide_eq_true_eq, Decidable.not_not, not_true_eq_false, not_false_eq_true, Nat.not_lt, Nat.not_le, Bool.not_eq_false, Bool.not_eq_true] at c_57
                    first | refine V.aload_n dR_write_63 rfl ?_ | refine V.aload_nN dR_write_63 rfl ?_
                    refine V.getk dR_write_64 (by omega) (by assumption) f_R_36_4 (by assumption) ?_
                    first | refine V.aload_n dR_write_67 rfl ?_ | refine V.aload_nN dR_write_67 rfl ?_
                    refine V.getk dR_write_68 (by omega) (by assumption) f_R_87_4 (by assumption) ?_
                    refine V.lload_n dR_write_71 rfl ?_
                    refine V.bipush (v := (nI 8)) dR_write_72 (by decide) ?_
                    refine V.iload dR_write_74 rfl ?_
                    refine V.imulN dR_write_76 ?_
                    refine V.lshr dR_write_77 rfl ?_
                    refine V.l2i dR_write_78 rfl ?_
                    refine V.i2b dR_write_79 rfl ?_
                    refine V.bastoreN dR_write_80 (by omega) (by assumption) (by omega) ((pk_nb _).trans (congrArg Value.int (by_i8 _ (s_byt_lt x q) (by_shr x (by omega))))) ?_
                    intro h80 e80
                    have hS80 : RS G h80 o := by (rw [e80]; exact hSq.put (by omega))
                    obtain ⟨hze, hk0e, hk1e, hk2e, hk3e, hk4e, hk5e, hk6e, hk7e, hk8e, hf0e, hf2e, hf3e, hf4e, hf5e, hf6e, hf12e, hf13e⟩ := id hS80
                    have hO80 : h80.2.1 o 9 = .int (nI e) := by (rw [e80]; exact (hp_a (by omega)).trans hO9q)
                    have hB80 : h80.2.1 o 11 = .int (nI bq.length) := by (rw [e80]; exact (hp_a (by omega)).trans b1q)
                    first | refine V.aload_n dR_write_81 rfl ?_ | refine V.aload_nN dR_write_81 rfl ?_
                    refine V.getk dR_write_82 (by omega) (by assumption) f_R_40_4 (by assumption) ?_
                    first | refine V.aload_n dR_write_85 rfl ?_ | refine V.aload_nN dR_write_85 rfl ?_
                    refine V.getk dR_write_86 (by omega) (by assumption) f_R_87_4 hB80 ?_
                    first | refine V.aload_n dR_write_89 rfl ?_ | refine V.aload_nN dR_write_89 rfl ?_
                    refine V.getk dR_write_90 (by omega) (by assumption) f_R_32_4 hO80 ?_
                    refine V.i2s dR_write_93 rfl ?_
                    refine V.sastoreN dR_write_94 (by omega) (by assumption) (by omega) ((pk_ns _).trans (congrArg Value.int (sh_16 e he))) ?_
                    intro h94 e94
                    have hS94 : RS G h94 o := by (rw [e94]; exact hS80.put (by omega))
                    obtain ⟨hzf, hk0f, hk1f, hk2f, hk3f, hk4f, hk5f, hk6f, hk7f, hk8f, hf0f, hf2f, hf3f, hf4f, hf5f, hf6f, hf12f, hf13f⟩ := id hS94
                    have hO94 : h94.2.1 o 9 = .int (nI e) := by (rw [e94]; exact (hp_a (by omega)).trans hO80)
                    have hB94 : h94.2.1 o 11 = .int (nI bq.length) := by (rw [e94]; exact (hp_a (by omega)).trans hB80)
                    first | refine V.aload_n dR_write_95 rfl ?_ | refine V.aload_nN dR_write_95 rfl ?_
                    refine V.dup dR_write_96 rfl ?_
                    refine V.getk dR_write_97 (by omega) (by assumption) f_R_87_4 hB94 ?_
                    refine V.iconst (v := (nI 1)) dR_write_100 (by decide) ?_
                    refine V.iaddN dR_write_101 ?_
                    refine V.putk dR_write_102 (by omega) (by assumption) p_R_87_4 rfl rfl ?_
                    intro h102 e102
                    have hS102 : RS G h102 o := by (rw [e102]; exact hS94.put (by omega))
                    obtain ⟨hzg, hk0g, hk1g, hk2g, hk3g, hk4g, hk5g, hk6g, hk7g, hk8g, hf0g, hf2g, hf3g, hf4g, hf5g, hf6g, hf12g, hf13g⟩ := id hS102
                    have hO102 : h102.2.1 o 9 = .int (nI e) := by (rw [e102]; exact (hp_j (by omega)).trans hO94)
                    have hZ102 : h102.2.1 (o + 4) e = .int (nI (s_fb bq e).length) := by (rw [e102, e94, e80]; exact (hp_a (by omega)).trans ((hp_a (by omega)).trans ((hp_a (by omega)).trans (b6q e he))))
                    first | refine V.aload_n dR_write_105 rfl ?_ | refine V.aload_nN dR_write_105 rfl ?_
                    refine V.getk dR_write_106 (by omega) (by assumption) f_R_19_4 (by assumption) ?_
                    first | refine V.aload_n dR_write_109 rfl ?_ | refine V.aload_nN dR_write_109 rfl ?_
                    refine V.getk dR_write_110 (by omega) (by assumption) f_R_32_4 hO102 ?_
                    refine V.dup2 dR_write_113 rfl rfl ?_
                    refine V.ialoadN dR_write_114 (by omega) (by assumption) (by omega) hZ102 ?_
                    refine V.iconst (v := (nI 1)) dR_write_115 (by decide) ?_
                    refine V.iaddN dR_write_116 ?_
                    refine V.iastoreN dR_write_117 (by omega) (by assumption) (by omega) rfl ?_
                    intro h117 e117
                    refine V.iinc (v := lm q) dR_write_118 rfl (by show nI q + Int32.ofInt (-1) = nI q - 1; rw [show Int32.ofInt (-1) = -1 by decide, Int32.sub_eq_add_neg]) (by decide) ?_
                    refine V.goto (tgt := 24) dR_write_121 (by decide) ?_
                    refine V.re [4, 0, 1, 3] rfl (ih h117 (bq ++ [(s_byt x q, e)]) ?_ (by rw [List.length_append, List.length_singleton]; omega) ?_ (by rw [List.append_assoc]; exact hbq) (by omega))
                    · rw [e117, e102, e94, e80]; exact hIq.push (s_byt_lt x q) he (by omega)
                    · rw [e117, e102, e94, e80]; exact (((hFq.put (by omega)).put (by omega)).put (by omega)).put (by omega)
                  · try simp (disch := omega) only [nI_ltI, nI_leI, nI_eq, zz_lt0, zz_ge0, zz_gt0, zz_le0, zz_eq0, zz_m1lt, zz_m1ge, zz_m1eq, bI_eq0, decide_eq_false_iff_not, decide_eq_true_eq, Decidable.not_not, not_true_eq_false, not_false_eq_true, Nat.not_lt, Nat.not_le, Bool.not_eq_false, Bool.not_eq_true] at c_57
                    all_goals omega
        first | refine V.aload_n dR_write_0 rfl ?_ | refine V.aload_nN dR_write_0 rfl ?_
        refine V.getk dR_write_1 (by omega) (by assumption) f_R_32_4 hO9 ?_
        refine V.if_lt (tgt := 17) dR_write_4 (by decide) (fun c_4 => ?_) (fun c_4 => ?_)
        · try simp (disch := omega) only [nI_ltI, nI_leI, nI_eq, zz_lt0, zz_ge0, zz_gt0, zz_le0, zz_eq0, zz_m1lt, zz_m1ge, zz_m1eq, bI_eq0, decide_eq_false_iff_not, decide_eq_true_eq, Decidable.not_not, not_true_eq_false, not_false_eq_true, Nat.not_lt, Nat.not_le, Bool.not_eq_false, Bool.not_eq_true] at c_4
          all_goals omega
        · try simp (disch := omega) only [nI_ltI, nI_leI, nI_eq, zz_lt0, zz_ge0, zz_gt0, zz_le0, zz_eq0, zz_m1lt, zz_m1ge, zz_m1eq, bI_eq0, decide_eq_false_iff_not, decide_eq_true_eq, Decidable.not_not, not_true_eq_false, not_false_eq_true, Nat.not_lt, Nat.not_le, Bool.not_eq_false, Bool.not_eq_true] at c_4
          refine V.iload_n dR_write_7 rfl ?_
          refine V.if_lt (tgt := 17) dR_write_8 (by decide) (fun c_8 => ?_) (fun c_8 => ?_)
          · try simp (disch := omega) only [nI_ltI, nI_leI, nI_eq, zz_lt0, zz_ge0, zz_gt0, zz_le0, zz_eq0, zz_m1lt, zz_m1ge, zz_m1eq, bI_eq0, decide_eq_false_iff_not, decide_eq_true_eq, Decidable.not_not, not_true_eq_false, not_false_eq_true, Nat.not_lt, Nat.not_le, Bool.not_eq_false, Bool.not_eq_true] at c_8
            all_goals omega
          · try simp (disch := omega) only [nI_ltI, nI_leI, nI_eq, zz_lt0, zz_ge0, zz_gt0, zz_le0, zz_eq0, zz_m1lt, zz_m1ge, zz_m1eq, bI_eq0, decide_eq_false_iff_not, decide_eq_true_eq, Decidable.not_not, not_true_eq_false, not_false_eq_true, Nat.not_lt, Nat.not_le, Bool.not_eq_false, Bool.not_eq_true] at c_8
            refine V.iload_n dR_write_11 rfl ?_
            refine V.bipush (v := (nI 8)) dR_write_12 (by decide) ?_
            refine V.icmp_le (tgt := 19) dR_write_14 (by decide) (fun c_14 => ?_) (fun c_14 => ?_)
            · try simp (disch := omega) only [nI_ltI, nI_leI, nI_eq, zz_lt0, zz_ge0, zz_gt0, zz_le0, zz_eq0, zz_m1lt, zz_m1ge, zz_m1eq, bI_eq0, decide_eq_false_iff_not, decide_eq_true_eq, Decidable.not_not, not_true_eq_false, not_false_eq_true, Nat.not_lt, Nat.not_le, Bool.not_eq_false, Bool.not_eq_true] at c_14
              refine V.iload_n dR_write_19 rfl ?_
              refine V.iconst (v := (nI 1)) dR_write_20 (by decide) ?_
              refine V.isub dR_write_21 ?_
              refine V.istore dR_write_22 (by decide) ?_
              exact V.re [4, 0, 1, 3] rfl (loop m h bl hI (by omega) FrO.rf rfl (by omega))
            · try simp (disch := omega) only [nI_ltI, nI_leI, nI_eq, zz_lt0, zz_ge0, zz_gt0, zz_le0, zz_eq0, zz_m1lt, zz_m1ge, zz_m1eq, bI_eq0, decide_eq_false_iff_not, decide_eq_true_eq, Decidable.not_not, not_true_eq_false, not_false_eq_true, Nat.not_lt, Nat.not_le, Bool.not_eq_false, Bool.not_eq_true] at c_14
              all_goals omega
