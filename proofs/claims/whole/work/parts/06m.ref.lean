/-- where a file moves to: a directory that the path leads to (true), or the home of its last name (false) -/
def s_tgt (T : TT) (p : Nat → Nat) (hand len : Nat) : Option (Nat × Bool) := match s_dir T (s_lead T p hand len) with
  | some d => some (d, true)
  | none => match s_home T p hand len with
    | none => none
    | some d => if s_isName p len then some (d, false) else none
/-- what is at that place -/
def s_there (T : TT) (p : Nat → Nat) (len f : Nat) (q : Nat × Bool) : Option Nat := if q.2 = true then s_ent T (T.2.2.2 f) q.1 0 (T.2.2.1 f) else s_ent T p q.1 (s_last p len) len
def s_mok (T : TT) (f : Nat) (r : Option Nat) : Prop := r ≠ some f ∧ ∀ t, r = some t → T.1 t ≠ 2
def s_mT (T : TT) (r : Option Nat) : TT := match r with
  | none => T
  | some t => (fu T.1 t 0, T.2)
def s_mE (ents : Nat) (r : Option Nat) : Nat := match r with
  | none => ents
  | some _ => ents - 1
def s_mB (bl : List (Nat × Nat)) (r : Option Nat) : List (Nat × Nat) := match r with
  | none => bl
  | some t => s_but bl t
def s_mN (T : TT) (f : Nat) (q : Nat × Bool) (p : Nat → Nat) (len : Nat) : TT := match q.2 with
  | true => (T.1, fu T.2.1 f q.1, T.2.2)
  | false => s_put T f q.1 p len
theorem zz_m1eq2 {a : Nat} (h : a < 2 ^ 31) : (-1 : Int32) = nI a ↔ False := by rw [eq_comm, zz_m1eq h]
set_option maxHeartbeats 4000000 in
set_option maxRecDepth 100000 in
/-- PathTreeModel.moved, from the place on -/
theorem kR_moved_tail {G : GG} {h : HH} {o : Nat} {T : TT} {p : Nat → Nat} {len hand : Nat} {ents : Nat} {bl : List (Nat × Nat)} {Q : Option Value → HH → Prop} {f d : Nat} {b : Bool} {l1 : Int32} {r : Option Nat} (hI : RI G h o T p len hand (some f) false ents bl) (hf : f < 300) (hd : d < 300) (hr : ∀ t, r = some t → t < 300) (hen : 1 ≤ ents ∧ ents ≤ 300) (hnl : b = false → len - s_last p len ≤ 60) (q0 : ¬ s_mok T f r → Q (some (.int (nI 0))) h) (q1 : s_mok T f r → ∀ h', RI G h' o (s_mN (s_mT T r) f (d, b) p len) p len hand (some f) false (s_mE ents r) (s_mB bl r) → FrO o h h' → Q (some (.int (nI 1))) h') : V G mR_moved 104 [(3, .int (nI d)), (2, .int (bI b)), (1, .int l1), (0, .ref o)] [.int (oI r)] h 0 0 Q := by
  obtain ⟨hS, hP, hT, hH, hO, hg, hE, hB, hop⟩ := id hI
  obtain ⟨hz, hk0, hk1, hk2, hk3, hk4, hk5, hk6, hk7, hk8, hf0, hf2, hf3, hf4, hf5, hf6, hf12, hf13⟩ := id hS
  obtain ⟨hln, hpp, hl2, hp⟩ := id hP
  obtain ⟨hkd, hkd2, hin, hin2, hns, hns2, hnm, hnm2⟩ := id hT
  obtain ⟨hhand, hhl⟩ := id hH
  have hO9 : h.2.1 o 9 = .int (nI f) := hO
  cases r with
  | none =>
    have hok : s_mok T f none := ⟨fun z => by (cases z), fun t z => by (cases z)⟩
    show V G mR_moved 104 [(3, .int (nI d)), (2, .int (bI b)), (1, .int l1), (0, .ref o)] [.int (-1)] h 0 0 Q
    refine V.istore dR_moved_104 (by decide) ?_
    refine V.iload dR_moved_106 rfl ?_
    first | refine V.aload_n dR_moved_108 rfl ?_ | refine V.aload_nN dR_moved_108 rfl ?_
    refine V.getk dR_moved_109 (by omega) (by assumption) f_R_32_4 hO9 ?_
    refine V.icmp_eq (tgt := 131) dR_moved_112 (by decide) (fun c_112 => ?_) (fun c_112 => ?_)
    · try simp (disch := omega) only [zz_m1eq2, not_false_eq_true] at c_112
      all_goals omega
    · try simp (disch := omega) only [zz_m1eq2, not_false_eq_true] at c_112
      refine V.iload dR_moved_115 rfl ?_
      refine V.if_lt (tgt := 133) dR_moved_117 (by decide) (fun c_117 => ?_) (fun c_117 => ?_)
      · try simp only [zz_m1lt, zz_m1ge, not_true_eq_false, not_false_eq_true] at c_117
        refine V.iload dR_moved_133 rfl ?_
        refine V.if_lt (tgt := 144) dR_moved_135 (by decide) (fun c_135 => ?_) (fun c_135 => ?_)
        · try simp only [zz_m1lt, zz_m1ge, not_true_eq_false, not_false_eq_true] at c_135
          refine V.iload_n dR_moved_144 rfl ?_
          refine V.if_eq (tgt := 161) dR_moved_145 (by decide) (fun c_145 => ?_) (fun c_145 => ?_)
          · try simp only [bI_eq0, Bool.not_eq_false] at c_145
            subst c_145
            first | refine V.aload_n dR_moved_161 rfl ?_ | refine V.aload_nN dR_moved_161 rfl ?_
            first | refine V.aload_n dR_moved_162 rfl ?_ | refine V.aload_nN dR_moved_162 rfl ?_
            refine V.getk dR_moved_163 (by omega) (by assumption) f_R_32_4 hO9 ?_
            refine V.iload_n dR_moved_166 rfl ?_
            refine V.callVk (kd := 4) 0 _ 0 _ [_, _] dR_moved_167 okR_put n_R_76 (by omega) (by assumption) rfl imR_put seR_put_R (by decide) (by decide) rfl rfl (Nat.le_of_ble_eq_true rfl) (Nat.le_of_ble_eq_true rfl) (Nat.le_of_eq (Nat.zero_add _)) (Nat.le_of_eq (Nat.zero_add _)) (kR_put hI hf hd (hnl rfl) (fun hp9 hIp hFp => ?_))
            refine V.iconst (v := (nI 1)) dR_moved_170 (by decide) ?_
            refine V.ireturn dR_moved_171 rfl rfl ?_
            first | exact q1 hok hp9 hIp (FrO.rf.tr hFp) | exact q1 hok h157 (by (rw [e157]; exact hI.par hd)) (by (rw [e157]; exact FrO.rf.put (by omega)))
          · try simp only [bI_eq0, Bool.not_eq_false] at c_145
            subst c_145
            first | refine V.aload_n dR_moved_148 rfl ?_ | refine V.aload_nN dR_moved_148 rfl ?_
            refine V.getk dR_moved_149 (by omega) (by assumption) f_R_16_4 (by assumption) ?_
            first | refine V.aload_n dR_moved_152 rfl ?_ | refine V.aload_nN dR_moved_152 rfl ?_
            refine V.getk dR_moved_153 (by omega) (by assumption) f_R_32_4 hO9 ?_
            refine V.iload_n dR_moved_156 rfl ?_
            refine V.iastoreN dR_moved_157 (by omega) (by assumption) (by omega) rfl ?_
            intro h157 e157
            refine V.goto (tgt := 170) dR_moved_158 (by decide) ?_
            refine V.iconst (v := (nI 1)) dR_moved_170 (by decide) ?_
            refine V.ireturn dR_moved_171 rfl rfl ?_
            first | exact q1 hok hp9 hIp (FrO.rf.tr hFp) | exact q1 hok h157 (by (rw [e157]; exact hI.par hd)) (by (rw [e157]; exact FrO.rf.put (by omega)))
        · try simp only [zz_m1lt, zz_m1ge, not_true_eq_false, not_false_eq_true] at c_135
          all_goals omega
      · try simp only [zz_m1lt, zz_m1ge, not_true_eq_false, not_false_eq_true] at c_117
        all_goals omega
  | some t =>
    have ht := hr t rfl
    have hkt := hkd2 t ht
    show V G mR_moved 104 [(3, .int (nI d)), (2, .int (bI b)), (1, .int l1), (0, .ref o)] [.int (nI t)] h 0 0 Q
    refine V.istore dR_moved_104 (by decide) ?_
    refine V.iload dR_moved_106 rfl ?_
    first | refine V.aload_n dR_moved_108 rfl ?_ | refine V.aload_nN dR_moved_108 rfl ?_
    refine V.getk dR_moved_109 (by omega) (by assumption) f_R_32_4 hO9 ?_
    refine V.icmp_eq (tgt := 131) dR_moved_112 (by decide) (fun c_112 => ?_) (fun c_112 => ?_)
    · try simp (disch := omega) only [nI_ltI, nI_leI, nI_eq, zz_lt0, zz_ge0, zz_gt0, zz_le0, zz_eq0, zz_m1lt, zz_m1ge, zz_m1eq, bI_eq0, decide_eq_false_iff_not, decide_eq_true_eq, Decidable.not_not, not_true_eq_false, not_false_eq_true, Nat.not_lt, Nat.not_le, Bool.not_eq_false, Bool.not_eq_true] at c_112
      refine V.iconst (v := (nI 0)) dR_moved_131 (by decide) ?_
      refine V.ireturn dR_moved_132 rfl rfl ?_
      first | exact q0 (fun z => z.1 (by rw [c_112])) | exact q0 (fun z => z.2 t rfl c_128)
    · try simp (disch := omega) only [nI_ltI, nI_leI, nI_eq, zz_lt0, zz_ge0, zz_gt0, zz_le0, zz_eq0, zz_m1lt, zz_m1ge, zz_m1eq, bI_eq0, decide_eq_false_iff_not, decide_eq_true_eq, Decidable.not_not, not_true_eq_false, not_false_eq_true, Nat.not_lt, Nat.not_le, Bool.not_eq_false, Bool.not_eq_true] at c_112
      refine V.iload dR_moved_115 rfl ?_
      refine V.if_lt (tgt := 133) dR_moved_117 (by decide) (fun c_117 => ?_) (fun c_117 => ?_)
      · try simp (disch := omega) only [nI_ltI, nI_leI, nI_eq, zz_lt0, zz_ge0, zz_gt0, zz_le0, zz_eq0, zz_m1lt, zz_m1ge, zz_m1eq, bI_eq0, decide_eq_false_iff_not, decide_eq_true_eq, Decidable.not_not, not_true_eq_false, not_false_eq_true, Nat.not_lt, Nat.not_le, Bool.not_eq_false, Bool.not_eq_true] at c_117
        all_goals omega
      · try simp (disch := omega) only [nI_ltI, nI_leI, nI_eq, zz_lt0, zz_ge0, zz_gt0, zz_le0, zz_eq0, zz_m1lt, zz_m1ge, zz_m1eq, bI_eq0, decide_eq_false_iff_not, decide_eq_true_eq, Decidable.not_not, not_true_eq_false, not_false_eq_true, Nat.not_lt, Nat.not_le, Bool.not_eq_false, Bool.not_eq_true] at c_117
        first | refine V.aload_n dR_moved_120 rfl ?_ | refine V.aload_nN dR_moved_120 rfl ?_
        refine V.getk dR_moved_121 (by omega) (by assumption) f_R_13_4 (by assumption) ?_
        refine V.iload dR_moved_124 rfl ?_
        refine V.ialoadN dR_moved_126 (by omega) (by assumption) (by omega) (hkd t ht) ?_
        refine V.iconst (v := (nI 2)) dR_moved_127 (by decide) ?_
        refine V.icmp_ne (tgt := 133) dR_moved_128 (by decide) (fun c_128 => ?_) (fun c_128 => ?_)
        · try simp (disch := omega) only [nI_ltI, nI_leI, nI_eq, zz_lt0, zz_ge0, zz_gt0, zz_le0, zz_eq0, zz_m1lt, zz_m1ge, zz_m1eq, bI_eq0, decide_eq_false_iff_not, decide_eq_true_eq, Decidable.not_not, not_true_eq_false, not_false_eq_true, Nat.not_lt, Nat.not_le, Bool.not_eq_false, Bool.not_eq_true] at c_128
          have hok : s_mok T f (some t) := ⟨fun z => c_112 (Option.some.inj z), fun t2 z => by (cases z; exact c_128)⟩
          refine V.iload dR_moved_133 rfl ?_
          refine V.if_lt (tgt := 144) dR_moved_135 (by decide) (fun c_135 => ?_) (fun c_135 => ?_)
          · try simp (disch := omega) only [nI_ltI, nI_leI, nI_eq, zz_lt0, zz_ge0, zz_gt0, zz_le0, zz_eq0, zz_m1lt, zz_m1ge, zz_m1eq, bI_eq0, decide_eq_false_iff_not, decide_eq_true_eq, Decidable.not_not, not_true_eq_false, not_false_eq_true, Nat.not_lt, Nat.not_le, Bool.not_eq_false, Bool.not_eq_true] at c_135
            all_goals omega
          · try simp (disch := omega) only [nI_ltI, nI_leI, nI_eq, zz_lt0, zz_ge0, zz_gt0, zz_le0, zz_eq0, zz_m1lt, zz_m1ge, zz_m1eq, bI_eq0, decide_eq_false_iff_not, decide_eq_true_eq, Decidable.not_not, not_true_eq_false, not_false_eq_true, Nat.not_lt, Nat.not_le, Bool.not_eq_false, Bool.not_eq_true] at c_135
            first | refine V.aload_n dR_moved_138 rfl ?_ | refine V.aload_nN dR_moved_138 rfl ?_
            refine V.iload dR_moved_139 rfl ?_
            refine V.callVk (kd := 4) 0 _ 0 _ [_] dR_moved_141 okR_removeFile n_R_93 (by omega) (by assumption) rfl imR_removeFile seR_removeFile_R (by decide) (by decide) rfl rfl (Nat.le_of_ble_eq_true rfl) (Nat.le_of_ble_eq_true rfl) (Nat.le_of_eq (Nat.zero_add _)) (Nat.le_of_eq (Nat.zero_add _)) (kR_removeFile hI ht hen (fun h9 hI9 hF9 => ?_))
            have hgf : (false || decide (some f = some t)) = false := by (rw [Bool.false_or]; exact decide_eq_false (fun z => c_112 (Option.some.inj z).symm))
            rw [hgf] at hI9
            obtain ⟨hSb, hPb, hTb, hHb, hOb, hgb, hEb, hBb, hopb⟩ := id hI9
            obtain ⟨hzb, hk0b, hk1b, hk2b, hk3b, hk4b, hk5b, hk6b, hk7b, hk8b, hf0b, hf2b, hf3b, hf4b, hf5b, hf6b, hf12b, hf13b⟩ := id hSb
            obtain ⟨hlnb, hppb, hl2b, hpb⟩ := id hPb
            obtain ⟨hkdb, hkd2b, hinb, hin2b, hnsb, hns2b, hnmb, hnm2b⟩ := id hTb
            obtain ⟨hhandb, hhlb⟩ := id hHb
            have hO9b : h9.2.1 o 9 = .int (nI f) := hOb
            refine V.iload_n dR_moved_144 rfl ?_
            refine V.if_eq (tgt := 161) dR_moved_145 (by decide) (fun c_145 => ?_) (fun c_145 => ?_)
            · try simp only [bI_eq0, Bool.not_eq_false] at c_145
              subst c_145
              first | refine V.aload_n dR_moved_161 rfl ?_ | refine V.aload_nN dR_moved_161 rfl ?_
              first | refine V.aload_n dR_moved_162 rfl ?_ | refine V.aload_nN dR_moved_162 rfl ?_
              refine V.getk dR_moved_163 (by omega) (by assumption) f_R_32_4 hO9b ?_
              refine V.iload_n dR_moved_166 rfl ?_
              refine V.callVk (kd := 4) 0 _ 0 _ [_, _] dR_moved_167 okR_put n_R_76 (by omega) (by assumption) rfl imR_put seR_put_R (by decide) (by decide) rfl rfl (Nat.le_of_ble_eq_true rfl) (Nat.le_of_ble_eq_true rfl) (Nat.le_of_eq (Nat.zero_add _)) (Nat.le_of_eq (Nat.zero_add _)) (kR_put hI9 hf hd (hnl rfl) (fun hp9 hIp hFp => ?_))
              refine V.iconst (v := (nI 1)) dR_moved_170 (by decide) ?_
              refine V.ireturn dR_moved_171 rfl rfl ?_
              first | exact q1 hok hp9 hIp (hF9.tr hFp) | exact q1 hok h157 (by (rw [e157]; exact hI9.par hd)) (by (rw [e157]; exact hF9.put (by omega)))
            · try simp only [bI_eq0, Bool.not_eq_false] at c_145
              subst c_145
              first | refine V.aload_n dR_moved_148 rfl ?_ | refine V.aload_nN dR_moved_148 rfl ?_
              refine V.getk dR_moved_149 (by omega) (by assumption) f_R_16_4 (by assumption) ?_
              first | refine V.aload_n dR_moved_152 rfl ?_ | refine V.aload_nN dR_moved_152 rfl ?_
              refine V.getk dR_moved_153 (by omega) (by assumption) f_R_32_4 hO9b ?_
              refine V.iload_n dR_moved_156 rfl ?_
              refine V.iastoreN dR_moved_157 (by omega) (by assumption) (by omega) rfl ?_
              intro h157 e157
              refine V.goto (tgt := 170) dR_moved_158 (by decide) ?_
              refine V.iconst (v := (nI 1)) dR_moved_170 (by decide) ?_
              refine V.ireturn dR_moved_171 rfl rfl ?_
              first | exact q1 hok hp9 hIp (hF9.tr hFp) | exact q1 hok h157 (by (rw [e157]; exact hI9.par hd)) (by (rw [e157]; exact hF9.put (by omega)))
        · try simp (disch := omega) only [nI_ltI, nI_leI, nI_eq, zz_lt0, zz_ge0, zz_gt0, zz_le0, zz_eq0, zz_m1lt, zz_m1ge, zz_m1eq, bI_eq0, decide_eq_false_iff_not, decide_eq_true_eq, Decidable.not_not, not_true_eq_false, not_false_eq_true, Nat.not_lt, Nat.not_le, Bool.not_eq_false, Bool.not_eq_true] at c_128
          refine V.iconst (v := (nI 0)) dR_moved_131 (by decide) ?_
          refine V.ireturn dR_moved_132 rfl rfl ?_
          first | exact q0 (fun z => z.1 (by rw [c_112])) | exact q0 (fun z => z.2 t rfl c_128)
set_option maxHeartbeats 4000000 in
set_option maxRecDepth 100000 in
/-- PathTreeModel.moved -/
theorem kR_moved {G : GG} {h : HH} {o : Nat} {T : TT} {p : Nat → Nat} {len hand : Nat} {op : Option Nat} {gone : Bool} {ents : Nat} {bl : List (Nat × Nat)} {Q : Option Value → HH → Prop} (hI : RI G h o T p len hand op gone ents bl) (hhd : T.1 hand = 2) (hen : 1 ≤ ents ∧ ents ≤ 300) (qn : op = none ∨ gone = true → Q (some (.int (nI 0))) h) (q0 : ∀ f, op = some f → gone = false → (s_tgt T p hand len = none ∨ ∃ q, s_tgt T p hand len = some q ∧ ¬ s_mok T f (s_there T p len f q)) → Q (some (.int (nI 0))) h) (q1 : ∀ f, op = some f → gone = false → ∀ q, s_tgt T p hand len = some q → s_mok T f (s_there T p len f q) → ∀ h', RI G h' o (s_mN (s_mT T (s_there T p len f q)) f q p len) p len hand (some f) false (s_mE ents (s_there T p len f q)) (s_mB bl (s_there T p len f q)) → FrO o h h' → Q (some (.int (nI 1))) h') : V G mR_moved 0 (lv_args 0 [.ref o]) [] h 0 0 Q := by
  obtain ⟨hS, hP, hT, hH, hO, hg, hE, hB, hop⟩ := id hI
  obtain ⟨hz, hk0, hk1, hk2, hk3, hk4, hk5, hk6, hk7, hk8, hf0, hf2, hf3, hf4, hf5, hf6, hf12, hf13⟩ := id hS
  obtain ⟨hln, hpp, hl2, hp⟩ := id hP
  obtain ⟨hkd, hkd2, hin, hin2, hns, hns2, hnm, hnm2⟩ := id hT
  obtain ⟨hhand, hhl⟩ := id hH
  have hll := s_last_le p len
  cases hop2 : op with
  | none =>
    subst hop2
    have hO9 : h.2.1 o 9 = .int (-1) := hO
    first | refine V.aload_n dR_moved_0 rfl ?_ | refine V.aload_nN dR_moved_0 rfl ?_
    refine V.getk dR_moved_1 (by omega) (by assumption) f_R_32_4 hO9 ?_
    refine V.if_lt (tgt := 14) dR_moved_4 (by decide) (fun c_4 => ?_) (fun c_4 => ?_)
    · try simp only [zz_m1lt, zz_m1ge, not_true_eq_false, not_false_eq_true] at c_4
      refine V.iconst (v := (nI 0)) dR_moved_14 (by decide) ?_
      refine V.ireturn dR_moved_15 rfl rfl ?_
      exact qn (Or.inl rfl)
    · try simp only [zz_m1lt, zz_m1ge, not_true_eq_false, not_false_eq_true] at c_4
      all_goals omega
  | some f =>
    subst hop2
    have hf := hop f rfl
    have hO9 : h.2.1 o 9 = .int (nI f) := hO
    cases hgo : gone with
    | true =>
      subst hgo
      have hg9 : h.2.1 o 10 = .int (bI true) := hg
      first | refine V.aload_n dR_moved_0 rfl ?_ | refine V.aload_nN dR_moved_0 rfl ?_
      refine V.getk dR_moved_1 (by omega) (by assumption) f_R_32_4 hO9 ?_
      refine V.if_lt (tgt := 14) dR_moved_4 (by decide) (fun c_4 => ?_) (fun c_4 => ?_)
      · try simp (disch := omega) only [nI_ltI, nI_leI, nI_eq, zz_lt0, zz_ge0, zz_gt0, zz_le0, zz_eq0, zz_m1lt, zz_m1ge, zz_m1eq, bI_eq0, decide_eq_false_iff_not, decide_eq_true_eq, Decidable.not_not, not_true_eq_false, not_false_eq_true, Nat.not_lt, Nat.not_le, Bool.not_eq_false, Bool.not_eq_true] at c_4
        all_goals omega
      · try simp (disch := omega) only [nI_ltI, nI_leI, nI_eq, zz_lt0, zz_ge0, zz_gt0, zz_le0, zz_eq0, zz_m1lt, zz_m1ge, zz_m1eq, bI_eq0, decide_eq_false_iff_not, decide_eq_true_eq, Decidable.not_not, not_true_eq_false, not_false_eq_true, Nat.not_lt, Nat.not_le, Bool.not_eq_false, Bool.not_eq_true] at c_4
        first | refine V.aload_n dR_moved_7 rfl ?_ | refine V.aload_nN dR_moved_7 rfl ?_
        refine V.getk dR_moved_8 (by omega) (by assumption) f_R_83_4 hg9 ?_
        refine V.if_eq (tgt := 16) dR_moved_11 (by decide) (fun c_11 => ?_) (fun c_11 => ?_)
        · skip
          exact absurd c_11 (by decide)
        · skip
          refine V.iconst (v := (nI 0)) dR_moved_14 (by decide) ?_
          refine V.ireturn dR_moved_15 rfl rfl ?_
          exact qn (Or.inr rfl)
    | false =>
      subst hgo
      have q0 := q0 f rfl rfl
      have q1 := q1 f rfl rfl
      cases hr : s_lead T p hand len with
      | none =>
        have hdir : s_dir T (s_lead T p hand len) = none := by (rw [hr]; rfl)
        cases hh : s_home T p hand len with
        | none =>
          have ht : s_tgt T p hand len = none := by (unfold s_tgt; rw [hdir, hh])
          first | refine V.aload_n dR_moved_0 rfl ?_ | refine V.aload_nN dR_moved_0 rfl ?_
          refine V.getk dR_moved_1 (by omega) (by assumption) f_R_32_4 hO9 ?_
          refine V.if_lt (tgt := 14) dR_moved_4 (by decide) (fun c_4 => ?_) (fun c_4 => ?_)
          · try simp (disch := omega) only [nI_ltI, nI_leI, nI_eq, zz_lt0, zz_ge0, zz_gt0, zz_le0, zz_eq0, zz_m1lt, zz_m1ge, zz_m1eq, bI_eq0, decide_eq_false_iff_not, decide_eq_true_eq, Decidable.not_not, not_true_eq_false, not_false_eq_true, Nat.not_lt, Nat.not_le, Bool.not_eq_false, Bool.not_eq_true] at c_4
            all_goals omega
          · try simp (disch := omega) only [nI_ltI, nI_leI, nI_eq, zz_lt0, zz_ge0, zz_gt0, zz_le0, zz_eq0, zz_m1lt, zz_m1ge, zz_m1eq, bI_eq0, decide_eq_false_iff_not, decide_eq_true_eq, Decidable.not_not, not_true_eq_false, not_false_eq_true, Nat.not_lt, Nat.not_le, Bool.not_eq_false, Bool.not_eq_true] at c_4
            first | refine V.aload_n dR_moved_7 rfl ?_ | refine V.aload_nN dR_moved_7 rfl ?_
            refine V.getk dR_moved_8 (by omega) (by assumption) f_R_83_4 (show h.2.1 o 10 = .int (bI false) from hg) ?_
            refine V.if_eq (tgt := 16) dR_moved_11 (by decide) (fun c_11 => ?_) (fun c_11 => ?_)
            · skip
              first | refine V.aload_n dR_moved_16 rfl ?_ | refine V.aload_nN dR_moved_16 rfl ?_
              first | refine V.aload_n dR_moved_17 rfl ?_ | refine V.aload_nN dR_moved_17 rfl ?_
              refine V.getk dR_moved_18 (by omega) (by assumption) f_R_44_4 (by assumption) ?_
              refine V.callVk (kd := 4) 0 _ 0 _ [_] dR_moved_21 okR_lead n_R_65 (by omega) (by assumption) rfl imR_lead seR_lead_R (by decide) (by decide) rfl rfl (Nat.le_of_ble_eq_true rfl) (Nat.le_of_ble_eq_true rfl) (Nat.le_of_eq (Nat.zero_add _)) (Nat.le_of_eq (Nat.zero_add _)) (kR_lead hS hP hT hH (by omega) ?_)
              rw [hr]
              show V G mR_moved 24 _ [.int (-1)] h 0 0 Q
              refine V.istore_n dR_moved_24 (by decide) ?_
              refine V.iload_n dR_moved_25 rfl ?_
              refine V.if_lt (tgt := 43) dR_moved_26 (by decide) (fun c_26 => ?_) (fun c_26 => ?_)
              · try simp only [zz_m1lt, zz_m1ge, not_true_eq_false, not_false_eq_true] at c_26
                refine V.iconst (v := (nI 0)) dR_moved_43 (by decide) ?_
                refine V.istore_n dR_moved_44 (by decide) ?_
                refine V.iload_n dR_moved_45 rfl ?_
                refine V.if_eq (tgt := 53) dR_moved_46 (by decide) (fun c_46 => ?_) (fun c_46 => ?_)
                · try simp (disch := omega) only [nI_ltI, nI_leI, nI_eq, zz_lt0, zz_ge0, zz_gt0, zz_le0, zz_eq0, zz_m1lt, zz_m1ge, zz_m1eq, bI_eq0, decide_eq_false_iff_not, decide_eq_true_eq, Decidable.not_not, not_true_eq_false, not_false_eq_true, Nat.not_lt, Nat.not_le, Bool.not_eq_false, Bool.not_eq_true] at c_46
                  first | refine V.aload_n dR_moved_53 rfl ?_ | refine V.aload_nN dR_moved_53 rfl ?_
                  refine V.callVk (kd := 4) 0 _ 0 _ [] dR_moved_54 okR_home n_R_69 (by omega) (by assumption) rfl imR_home seR_home_R (by decide) (by decide) rfl rfl (Nat.le_of_ble_eq_true rfl) (Nat.le_of_ble_eq_true rfl) (Nat.le_of_eq (Nat.zero_add _)) (Nat.le_of_eq (Nat.zero_add _)) (kR_home hS hP hT hH hhd ?_)
                  rw [hh]
                  show V G mR_moved 57 _ [.int (-1)] h 0 0 Q
                  refine V.istore_n dR_moved_57 (by decide) ?_
                  refine V.iload_n dR_moved_58 rfl ?_
                  refine V.if_lt (tgt := 73) dR_moved_59 (by decide) (fun c_59 => ?_) (fun c_59 => ?_)
                  · try simp only [zz_m1lt, zz_m1ge, not_true_eq_false, not_false_eq_true] at c_59
                    refine V.iconst (v := (nI 0)) dR_moved_73 (by decide) ?_
                    refine V.ireturn dR_moved_74 rfl rfl ?_
                    exact q0 (Or.inl ht)
                  · try simp only [zz_m1lt, zz_m1ge, not_true_eq_false, not_false_eq_true] at c_59
                    all_goals omega
                · try simp (disch := omega) only [nI_ltI, nI_leI, nI_eq, zz_lt0, zz_ge0, zz_gt0, zz_le0, zz_eq0, zz_m1lt, zz_m1ge, zz_m1eq, bI_eq0, decide_eq_false_iff_not, decide_eq_true_eq, Decidable.not_not, not_true_eq_false, not_false_eq_true, Nat.not_lt, Nat.not_le, Bool.not_eq_false, Bool.not_eq_true] at c_46
                  all_goals omega
              · try simp only [zz_m1lt, zz_m1ge, not_true_eq_false, not_false_eq_true] at c_26
                all_goals omega
            · skip
              exact absurd (by decide) c_11
        | some d =>
          have hd := s_home_lt hin2 hhl hh
          by_cases hnm9 : s_isName p len
          · have ht : s_tgt T p hand len = some (d, false) := by (unfold s_tgt; rw [hdir, hh]; dsimp only; rw [if_pos hnm9])
            first | refine V.aload_n dR_moved_0 rfl ?_ | refine V.aload_nN dR_moved_0 rfl ?_
            refine V.getk dR_moved_1 (by omega) (by assumption) f_R_32_4 hO9 ?_
            refine V.if_lt (tgt := 14) dR_moved_4 (by decide) (fun c_4 => ?_) (fun c_4 => ?_)
            · try simp (disch := omega) only [nI_ltI, nI_leI, nI_eq, zz_lt0, zz_ge0, zz_gt0, zz_le0, zz_eq0, zz_m1lt, zz_m1ge, zz_m1eq, bI_eq0, decide_eq_false_iff_not, decide_eq_true_eq, Decidable.not_not, not_true_eq_false, not_false_eq_true, Nat.not_lt, Nat.not_le, Bool.not_eq_false, Bool.not_eq_true] at c_4
              all_goals omega
            · try simp (disch := omega) only [nI_ltI, nI_leI, nI_eq, zz_lt0, zz_ge0, zz_gt0, zz_le0, zz_eq0, zz_m1lt, zz_m1ge, zz_m1eq, bI_eq0, decide_eq_false_iff_not, decide_eq_true_eq, Decidable.not_not, not_true_eq_false, not_false_eq_true, Nat.not_lt, Nat.not_le, Bool.not_eq_false, Bool.not_eq_true] at c_4
              first | refine V.aload_n dR_moved_7 rfl ?_ | refine V.aload_nN dR_moved_7 rfl ?_
              refine V.getk dR_moved_8 (by omega) (by assumption) f_R_83_4 (show h.2.1 o 10 = .int (bI false) from hg) ?_
              refine V.if_eq (tgt := 16) dR_moved_11 (by decide) (fun c_11 => ?_) (fun c_11 => ?_)
              · skip
                first | refine V.aload_n dR_moved_16 rfl ?_ | refine V.aload_nN dR_moved_16 rfl ?_
                first | refine V.aload_n dR_moved_17 rfl ?_ | refine V.aload_nN dR_moved_17 rfl ?_
                refine V.getk dR_moved_18 (by omega) (by assumption) f_R_44_4 (by assumption) ?_
                refine V.callVk (kd := 4) 0 _ 0 _ [_] dR_moved_21 okR_lead n_R_65 (by omega) (by assumption) rfl imR_lead seR_lead_R (by decide) (by decide) rfl rfl (Nat.le_of_ble_eq_true rfl) (Nat.le_of_ble_eq_true rfl) (Nat.le_of_eq (Nat.zero_add _)) (Nat.le_of_eq (Nat.zero_add _)) (kR_lead hS hP hT hH (by omega) ?_)
                rw [hr]
                show V G mR_moved 24 _ [.int (-1)] h 0 0 Q
                refine V.istore_n dR_moved_24 (by decide) ?_
                refine V.iload_n dR_moved_25 rfl ?_
                refine V.if_lt (tgt := 43) dR_moved_26 (by decide) (fun c_26 => ?_) (fun c_26 => ?_)
                · try simp only [zz_m1lt, zz_m1ge, not_true_eq_false, not_false_eq_true] at c_26
                  refine V.iconst (v := (nI 0)) dR_moved_43 (by decide) ?_
                  refine V.istore_n dR_moved_44 (by decide) ?_
                  refine V.iload_n dR_moved_45 rfl ?_
                  refine V.if_eq (tgt := 53) dR_moved_46 (by decide) (fun c_46 => ?_) (fun c_46 => ?_)
                  · try simp (disch := omega) only [nI_ltI, nI_leI, nI_eq, zz_lt0, zz_ge0, zz_gt0, zz_le0, zz_eq0, zz_m1lt, zz_m1ge, zz_m1eq, bI_eq0, decide_eq_false_iff_not, decide_eq_true_eq, Decidable.not_not, not_true_eq_false, not_false_eq_true, Nat.not_lt, Nat.not_le, Bool.not_eq_false, Bool.not_eq_true] at c_46
                    first | refine V.aload_n dR_moved_53 rfl ?_ | refine V.aload_nN dR_moved_53 rfl ?_
                    refine V.callVk (kd := 4) 0 _ 0 _ [] dR_moved_54 okR_home n_R_69 (by omega) (by assumption) rfl imR_home seR_home_R (by decide) (by decide) rfl rfl (Nat.le_of_ble_eq_true rfl) (Nat.le_of_ble_eq_true rfl) (Nat.le_of_eq (Nat.zero_add _)) (Nat.le_of_eq (Nat.zero_add _)) (kR_home hS hP hT hH hhd ?_)
                    rw [hh]
                    show V G mR_moved 57 _ [.int (nI d)] h 0 0 Q
                    refine V.istore_n dR_moved_57 (by decide) ?_
                    refine V.iload_n dR_moved_58 rfl ?_
                    refine V.if_lt (tgt := 73) dR_moved_59 (by decide) (fun c_59 => ?_) (fun c_59 => ?_)
                    · try simp (disch := omega) only [nI_ltI, nI_leI, nI_eq, zz_lt0, zz_ge0, zz_gt0, zz_le0, zz_eq0, zz_m1lt, zz_m1ge, zz_m1eq, bI_eq0, decide_eq_false_iff_not, decide_eq_true_eq, Decidable.not_not, not_true_eq_false, not_false_eq_true, Nat.not_lt, Nat.not_le, Bool.not_eq_false, Bool.not_eq_true] at c_59
                      all_goals omega
                    · try simp (disch := omega) only [nI_ltI, nI_leI, nI_eq, zz_lt0, zz_ge0, zz_gt0, zz_le0, zz_eq0, zz_m1lt, zz_m1ge, zz_m1eq, bI_eq0, decide_eq_false_iff_not, decide_eq_true_eq, Decidable.not_not, not_true_eq_false, not_false_eq_true, Nat.not_lt, Nat.not_le, Bool.not_eq_false, Bool.not_eq_true] at c_59
                      refine V.iload_n dR_moved_62 rfl ?_
                      refine V.if_ne (tgt := 75) dR_moved_63 (by decide) (fun c_63 => ?_) (fun c_63 => ?_)
                      · try simp (disch := omega) only [nI_ltI, nI_leI, nI_eq, zz_lt0, zz_ge0, zz_gt0, zz_le0, zz_eq0, zz_m1lt, zz_m1ge, zz_m1eq, bI_eq0, decide_eq_false_iff_not, decide_eq_true_eq, Decidable.not_not, not_true_eq_false, not_false_eq_true, Nat.not_lt, Nat.not_le, Bool.not_eq_false, Bool.not_eq_true] at c_63
                        all_goals omega
                      · try simp (disch := omega) only [nI_ltI, nI_leI, nI_eq, zz_lt0, zz_ge0, zz_gt0, zz_le0, zz_eq0, zz_m1lt, zz_m1ge, zz_m1eq, bI_eq0, decide_eq_false_iff_not, decide_eq_true_eq, Decidable.not_not, not_true_eq_false, not_false_eq_true, Nat.not_lt, Nat.not_le, Bool.not_eq_false, Bool.not_eq_true] at c_63
                        first | refine V.aload_n dR_moved_66 rfl ?_ | refine V.aload_nN dR_moved_66 rfl ?_
                        refine V.callVk (kd := 4) 0 _ 0 _ [] dR_moved_67 okR_isName n_R_72 (by omega) (by assumption) rfl imR_isName seR_isName_R (by decide) (by decide) rfl rfl (Nat.le_of_ble_eq_true rfl) (Nat.le_of_ble_eq_true rfl) (Nat.le_of_eq (Nat.zero_add _)) (Nat.le_of_eq (Nat.zero_add _)) (kR_isName hS hP ?_)
                        refine V.if_ne (tgt := 75) dR_moved_70 (by decide) (fun c_70 => ?_) (fun c_70 => ?_)
                        · try simp only [bI_eq0, decide_eq_false_iff_not, Decidable.not_not] at c_70
                          refine V.iload_n dR_moved_75 rfl ?_
                          refine V.if_eq (tgt := 91) dR_moved_76 (by decide) (fun c_76 => ?_) (fun c_76 => ?_)
                          · try simp (disch := omega) only [nI_ltI, nI_leI, nI_eq, zz_lt0, zz_ge0, zz_gt0, zz_le0, zz_eq0, zz_m1lt, zz_m1ge, zz_m1eq, bI_eq0, decide_eq_false_iff_not, decide_eq_true_eq, Decidable.not_not, not_true_eq_false, not_false_eq_true, Nat.not_lt, Nat.not_le, Bool.not_eq_false, Bool.not_eq_true] at c_76
                            first | refine V.aload_n dR_moved_91 rfl ?_ | refine V.aload_nN dR_moved_91 rfl ?_
                            refine V.iload_n dR_moved_92 rfl ?_
                            first | refine V.aload_n dR_moved_93 rfl ?_ | refine V.aload_nN dR_moved_93 rfl ?_
                            refine V.callVk (kd := 4) 0 _ 0 _ [] dR_moved_94 okR_last n_R_61 (by omega) (by assumption) rfl imR_last seR_last_R (by decide) (by decide) rfl rfl (Nat.le_of_ble_eq_true rfl) (Nat.le_of_ble_eq_true rfl) (Nat.le_of_eq (Nat.zero_add _)) (Nat.le_of_eq (Nat.zero_add _)) (kR_last hS hP ?_)
                            first | refine V.aload_n dR_moved_97 rfl ?_ | refine V.aload_nN dR_moved_97 rfl ?_
                            refine V.getk dR_moved_98 (by omega) (by assumption) f_R_44_4 (by assumption) ?_
                            refine V.callVk (kd := 4) 0 _ 0 _ [_, _, _] dR_moved_101 okR_entry n_R_51 (by omega) (by assumption) rfl imR_entry seR_entry_R (by decide) (by decide) rfl rfl (Nat.le_of_ble_eq_true rfl) (Nat.le_of_ble_eq_true rfl) (Nat.le_of_eq (Nat.zero_add _)) (Nat.le_of_eq (Nat.zero_add _)) (kR_entry hS hP hT hd (by omega) (by omega) ?_)
                            exact V.re [3, 2, 1, 0] rfl (kR_moved_tail (b := false) hI hf hd (fun t z => s_ent_lt z) hen (fun _ => hnm9.2.1) (fun z => q0 (Or.inr ⟨(d, false), ht, z⟩)) (fun z h9 hI9 hF9 => q1 (d, false) ht z h9 hI9 hF9))
                          · try simp (disch := omega) only [nI_ltI, nI_leI, nI_eq, zz_lt0, zz_ge0, zz_gt0, zz_le0, zz_eq0, zz_m1lt, zz_m1ge, zz_m1eq, bI_eq0, decide_eq_false_iff_not, decide_eq_true_eq, Decidable.not_not, not_true_eq_false, not_false_eq_true, Nat.not_lt, Nat.not_le, Bool.not_eq_false, Bool.not_eq_true] at c_76
                            all_goals omega
                        · try simp only [bI_eq0, decide_eq_false_iff_not, Decidable.not_not] at c_70
                          exact absurd hnm9 c_70
                  · try simp (disch := omega) only [nI_ltI, nI_leI, nI_eq, zz_lt0, zz_ge0, zz_gt0, zz_le0, zz_eq0, zz_m1lt, zz_m1ge, zz_m1eq, bI_eq0, decide_eq_false_iff_not, decide_eq_true_eq, Decidable.not_not, not_true_eq_false, not_false_eq_true, Nat.not_lt, Nat.not_le, Bool.not_eq_false, Bool.not_eq_true] at c_46
                    all_goals omega
                · try simp only [zz_m1lt, zz_m1ge, not_true_eq_false, not_false_eq_true] at c_26
                  all_goals omega
              · skip
                exact absurd (by decide) c_11
          · have ht : s_tgt T p hand len = none := by (unfold s_tgt; rw [hdir, hh]; dsimp only; rw [if_neg hnm9])
            first | refine V.aload_n dR_moved_0 rfl ?_ | refine V.aload_nN dR_moved_0 rfl ?_
            refine V.getk dR_moved_1 (by omega) (by assumption) f_R_32_4 hO9 ?_
            refine V.if_lt (tgt := 14) dR_moved_4 (by decide) (fun c_4 => ?_) (fun c_4 => ?_)
            · try simp (disch := omega) only [nI_ltI, nI_leI, nI_eq, zz_lt0, zz_ge0, zz_gt0, zz_le0, zz_eq0, zz_m1lt, zz_m1ge, zz_m1eq, bI_eq0, decide_eq_false_iff_not, decide_eq_true_eq, Decidable.not_not, not_true_eq_false, not_false_eq_true, Nat.not_lt, Nat.not_le, Bool.not_eq_false, Bool.not_eq_true] at c_4
              all_goals omega
            · try simp (disch := omega) only [nI_ltI, nI_leI, nI_eq, zz_lt0, zz_ge0, zz_gt0, zz_le0, zz_eq0, zz_m1lt, zz_m1ge, zz_m1eq, bI_eq0, decide_eq_false_iff_not, decide_eq_true_eq, Decidable.not_not, not_true_eq_false, not_false_eq_true, Nat.not_lt, Nat.not_le, Bool.not_eq_false, Bool.not_eq_true] at c_4
              first | refine V.aload_n dR_moved_7 rfl ?_ | refine V.aload_nN dR_moved_7 rfl ?_
              refine V.getk dR_moved_8 (by omega) (by assumption) f_R_83_4 (show h.2.1 o 10 = .int (bI false) from hg) ?_
              refine V.if_eq (tgt := 16) dR_moved_11 (by decide) (fun c_11 => ?_) (fun c_11 => ?_)
              · skip
                first | refine V.aload_n dR_moved_16 rfl ?_ | refine V.aload_nN dR_moved_16 rfl ?_
                first | refine V.aload_n dR_moved_17 rfl ?_ | refine V.aload_nN dR_moved_17 rfl ?_
                refine V.getk dR_moved_18 (by omega) (by assumption) f_R_44_4 (by assumption) ?_
                refine V.callVk (kd := 4) 0 _ 0 _ [_] dR_moved_21 okR_lead n_R_65 (by omega) (by assumption) rfl imR_lead seR_lead_R (by decide) (by decide) rfl rfl (Nat.le_of_ble_eq_true rfl) (Nat.le_of_ble_eq_true rfl) (Nat.le_of_eq (Nat.zero_add _)) (Nat.le_of_eq (Nat.zero_add _)) (kR_lead hS hP hT hH (by omega) ?_)
                rw [hr]
                show V G mR_moved 24 _ [.int (-1)] h 0 0 Q
                refine V.istore_n dR_moved_24 (by decide) ?_
                refine V.iload_n dR_moved_25 rfl ?_
                refine V.if_lt (tgt := 43) dR_moved_26 (by decide) (fun c_26 => ?_) (fun c_26 => ?_)
                · try simp only [zz_m1lt, zz_m1ge, not_true_eq_false, not_false_eq_true] at c_26
                  refine V.iconst (v := (nI 0)) dR_moved_43 (by decide) ?_
                  refine V.istore_n dR_moved_44 (by decide) ?_
                  refine V.iload_n dR_moved_45 rfl ?_
                  refine V.if_eq (tgt := 53) dR_moved_46 (by decide) (fun c_46 => ?_) (fun c_46 => ?_)
                  · try simp (disch := omega) only [nI_ltI, nI_leI, nI_eq, zz_lt0, zz_ge0, zz_gt0, zz_le0, zz_eq0, zz_m1lt, zz_m1ge, zz_m1eq, bI_eq0, decide_eq_false_iff_not, decide_eq_true_eq, Decidable.not_not, not_true_eq_false, not_false_eq_true, Nat.not_lt, Nat.not_le, Bool.not_eq_false, Bool.not_eq_true] at c_46
                    first | refine V.aload_n dR_moved_53 rfl ?_ | refine V.aload_nN dR_moved_53 rfl ?_
                    refine V.callVk (kd := 4) 0 _ 0 _ [] dR_moved_54 okR_home n_R_69 (by omega) (by assumption) rfl imR_home seR_home_R (by decide) (by decide) rfl rfl (Nat.le_of_ble_eq_true rfl) (Nat.le_of_ble_eq_true rfl) (Nat.le_of_eq (Nat.zero_add _)) (Nat.le_of_eq (Nat.zero_add _)) (kR_home hS hP hT hH hhd ?_)
                    rw [hh]
                    show V G mR_moved 57 _ [.int (nI d)] h 0 0 Q
                    refine V.istore_n dR_moved_57 (by decide) ?_
                    refine V.iload_n dR_moved_58 rfl ?_
                    refine V.if_lt (tgt := 73) dR_moved_59 (by decide) (fun c_59 => ?_) (fun c_59 => ?_)
                    · try simp (disch := omega) only [nI_ltI, nI_leI, nI_eq, zz_lt0, zz_ge0, zz_gt0, zz_le0, zz_eq0, zz_m1lt, zz_m1ge, zz_m1eq, bI_eq0, decide_eq_false_iff_not, decide_eq_true_eq, Decidable.not_not, not_true_eq_false, not_false_eq_true, Nat.not_lt, Nat.not_le, Bool.not_eq_false, Bool.not_eq_true] at c_59
                      all_goals omega
                    · try simp (disch := omega) only [nI_ltI, nI_leI, nI_eq, zz_lt0, zz_ge0, zz_gt0, zz_le0, zz_eq0, zz_m1lt, zz_m1ge, zz_m1eq, bI_eq0, decide_eq_false_iff_not, decide_eq_true_eq, Decidable.not_not, not_true_eq_false, not_false_eq_true, Nat.not_lt, Nat.not_le, Bool.not_eq_false, Bool.not_eq_true] at c_59
                      refine V.iload_n dR_moved_62 rfl ?_
                      refine V.if_ne (tgt := 75) dR_moved_63 (by decide) (fun c_63 => ?_) (fun c_63 => ?_)
                      · try simp (disch := omega) only [nI_ltI, nI_leI, nI_eq, zz_lt0, zz_ge0, zz_gt0, zz_le0, zz_eq0, zz_m1lt, zz_m1ge, zz_m1eq, bI_eq0, decide_eq_false_iff_not, decide_eq_true_eq, Decidable.not_not, not_true_eq_false, not_false_eq_true, Nat.not_lt, Nat.not_le, Bool.not_eq_false, Bool.not_eq_true] at c_63
                        all_goals omega
                      · try simp (disch := omega) only [nI_ltI, nI_leI, nI_eq, zz_lt0, zz_ge0, zz_gt0, zz_le0, zz_eq0, zz_m1lt, zz_m1ge, zz_m1eq, bI_eq0, decide_eq_false_iff_not, decide_eq_true_eq, Decidable.not_not, not_true_eq_false, not_false_eq_true, Nat.not_lt, Nat.not_le, Bool.not_eq_false, Bool.not_eq_true] at c_63
                        first | refine V.aload_n dR_moved_66 rfl ?_ | refine V.aload_nN dR_moved_66 rfl ?_
                        refine V.callVk (kd := 4) 0 _ 0 _ [] dR_moved_67 okR_isName n_R_72 (by omega) (by assumption) rfl imR_isName seR_isName_R (by decide) (by decide) rfl rfl (Nat.le_of_ble_eq_true rfl) (Nat.le_of_ble_eq_true rfl) (Nat.le_of_eq (Nat.zero_add _)) (Nat.le_of_eq (Nat.zero_add _)) (kR_isName hS hP ?_)
                        refine V.if_ne (tgt := 75) dR_moved_70 (by decide) (fun c_70 => ?_) (fun c_70 => ?_)
                        · try simp only [bI_eq0, decide_eq_false_iff_not, Decidable.not_not] at c_70
                          exact absurd c_70 hnm9
                        · try simp only [bI_eq0, decide_eq_false_iff_not, Decidable.not_not] at c_70
                          refine V.iconst (v := (nI 0)) dR_moved_73 (by decide) ?_
                          refine V.ireturn dR_moved_74 rfl rfl ?_
                          exact q0 (Or.inl ht)
                  · try simp (disch := omega) only [nI_ltI, nI_leI, nI_eq, zz_lt0, zz_ge0, zz_gt0, zz_le0, zz_eq0, zz_m1lt, zz_m1ge, zz_m1eq, bI_eq0, decide_eq_false_iff_not, decide_eq_true_eq, Decidable.not_not, not_true_eq_false, not_false_eq_true, Nat.not_lt, Nat.not_le, Bool.not_eq_false, Bool.not_eq_true] at c_46
                    all_goals omega
                · try simp only [zz_m1lt, zz_m1ge, not_true_eq_false, not_false_eq_true] at c_26
                  all_goals omega
              · skip
                exact absurd (by decide) c_11
      | some e =>
        have he := s_lead_lt hin2 hhl hr
        have hke := hkd2 e he
        by_cases hk2e : T.1 e = 2
        · have hdir : s_dir T (s_lead T p hand len) = some e := by (rw [hr]; simp only [s_dir]; rw [if_pos hk2e])
          have ht : s_tgt T p hand len = some (e, true) := by (unfold s_tgt; rw [hdir])
          first | refine V.aload_n dR_moved_0 rfl ?_ | refine V.aload_nN dR_moved_0 rfl ?_
          refine V.getk dR_moved_1 (by omega) (by assumption) f_R_32_4 hO9 ?_
          refine V.if_lt (tgt := 14) dR_moved_4 (by decide) (fun c_4 => ?_) (fun c_4 => ?_)
          · try simp (disch := omega) only [nI_ltI, nI_leI, nI_eq, zz_lt0, zz_ge0, zz_gt0, zz_le0, zz_eq0, zz_m1lt, zz_m1ge, zz_m1eq, bI_eq0, decide_eq_false_iff_not, decide_eq_true_eq, Decidable.not_not, not_true_eq_false, not_false_eq_true, Nat.not_lt, Nat.not_le, Bool.not_eq_false, Bool.not_eq_true] at c_4
            all_goals omega
          · try simp (disch := omega) only [nI_ltI, nI_leI, nI_eq, zz_lt0, zz_ge0, zz_gt0, zz_le0, zz_eq0, zz_m1lt, zz_m1ge, zz_m1eq, bI_eq0, decide_eq_false_iff_not, decide_eq_true_eq, Decidable.not_not, not_true_eq_false, not_false_eq_true, Nat.not_lt, Nat.not_le, Bool.not_eq_false, Bool.not_eq_true] at c_4
            first | refine V.aload_n dR_moved_7 rfl ?_ | refine V.aload_nN dR_moved_7 rfl ?_
            refine V.getk dR_moved_8 (by omega) (by assumption) f_R_83_4 (show h.2.1 o 10 = .int (bI false) from hg) ?_
            refine V.if_eq (tgt := 16) dR_moved_11 (by decide) (fun c_11 => ?_) (fun c_11 => ?_)
            · skip
              first | refine V.aload_n dR_moved_16 rfl ?_ | refine V.aload_nN dR_moved_16 rfl ?_
              first | refine V.aload_n dR_moved_17 rfl ?_ | refine V.aload_nN dR_moved_17 rfl ?_
              refine V.getk dR_moved_18 (by omega) (by assumption) f_R_44_4 (by assumption) ?_
              refine V.callVk (kd := 4) 0 _ 0 _ [_] dR_moved_21 okR_lead n_R_65 (by omega) (by assumption) rfl imR_lead seR_lead_R (by decide) (by decide) rfl rfl (Nat.le_of_ble_eq_true rfl) (Nat.le_of_ble_eq_true rfl) (Nat.le_of_eq (Nat.zero_add _)) (Nat.le_of_eq (Nat.zero_add _)) (kR_lead hS hP hT hH (by omega) ?_)
              rw [hr]
              show V G mR_moved 24 _ [.int (nI e)] h 0 0 Q
              refine V.istore_n dR_moved_24 (by decide) ?_
              refine V.iload_n dR_moved_25 rfl ?_
              refine V.if_lt (tgt := 43) dR_moved_26 (by decide) (fun c_26 => ?_) (fun c_26 => ?_)
              · try simp (disch := omega) only [nI_ltI, nI_leI, nI_eq, zz_lt0, zz_ge0, zz_gt0, zz_le0, zz_eq0, zz_m1lt, zz_m1ge, zz_m1eq, bI_eq0, decide_eq_false_iff_not, decide_eq_true_eq, Decidable.not_not, not_true_eq_false, not_false_eq_true, Nat.not_lt, Nat.not_le, Bool.not_eq_false, Bool.not_eq_true] at c_26
                all_goals omega
              · try simp (disch := omega) only [nI_ltI, nI_leI, nI_eq, zz_lt0, zz_ge0, zz_gt0, zz_le0, zz_eq0, zz_m1lt, zz_m1ge, zz_m1eq, bI_eq0, decide_eq_false_iff_not, decide_eq_true_eq, Decidable.not_not, not_true_eq_false, not_false_eq_true, Nat.not_lt, Nat.not_le, Bool.not_eq_false, Bool.not_eq_true] at c_26
                first | refine V.aload_n dR_moved_29 rfl ?_ | refine V.aload_nN dR_moved_29 rfl ?_
                refine V.getk dR_moved_30 (by omega) (by assumption) f_R_13_4 (by assumption) ?_
                refine V.iload_n dR_moved_33 rfl ?_
                refine V.ialoadN dR_moved_34 (by omega) (by assumption) (by omega) (hkd e he) ?_
                refine V.iconst (v := (nI 2)) dR_moved_35 (by decide) ?_
                refine V.icmp_ne (tgt := 43) dR_moved_36 (by decide) (fun c_36 => ?_) (fun c_36 => ?_)
                · try simp (disch := omega) only [nI_ltI, nI_leI, nI_eq, zz_lt0, zz_ge0, zz_gt0, zz_le0, zz_eq0, zz_m1lt, zz_m1ge, zz_m1eq, bI_eq0, decide_eq_false_iff_not, decide_eq_true_eq, Decidable.not_not, not_true_eq_false, not_false_eq_true, Nat.not_lt, Nat.not_le, Bool.not_eq_false, Bool.not_eq_true] at c_36
                  all_goals omega
                · try simp (disch := omega) only [nI_ltI, nI_leI, nI_eq, zz_lt0, zz_ge0, zz_gt0, zz_le0, zz_eq0, zz_m1lt, zz_m1ge, zz_m1eq, bI_eq0, decide_eq_false_iff_not, decide_eq_true_eq, Decidable.not_not, not_true_eq_false, not_false_eq_true, Nat.not_lt, Nat.not_le, Bool.not_eq_false, Bool.not_eq_true] at c_36
                  refine V.iconst (v := (nI 1)) dR_moved_39 (by decide) ?_
                  refine V.goto (tgt := 44) dR_moved_40 (by decide) ?_
                  refine V.istore_n dR_moved_44 (by decide) ?_
                  refine V.iload_n dR_moved_45 rfl ?_
                  refine V.if_eq (tgt := 53) dR_moved_46 (by decide) (fun c_46 => ?_) (fun c_46 => ?_)
                  · try simp (disch := omega) only [nI_ltI, nI_leI, nI_eq, zz_lt0, zz_ge0, zz_gt0, zz_le0, zz_eq0, zz_m1lt, zz_m1ge, zz_m1eq, bI_eq0, decide_eq_false_iff_not, decide_eq_true_eq, Decidable.not_not, not_true_eq_false, not_false_eq_true, Nat.not_lt, Nat.not_le, Bool.not_eq_false, Bool.not_eq_true] at c_46
                    all_goals omega
                  · try simp (disch := omega) only [nI_ltI, nI_leI, nI_eq, zz_lt0, zz_ge0, zz_gt0, zz_le0, zz_eq0, zz_m1lt, zz_m1ge, zz_m1eq, bI_eq0, decide_eq_false_iff_not, decide_eq_true_eq, Decidable.not_not, not_true_eq_false, not_false_eq_true, Nat.not_lt, Nat.not_le, Bool.not_eq_false, Bool.not_eq_true] at c_46
                    refine V.iload_n dR_moved_49 rfl ?_
                    refine V.goto (tgt := 57) dR_moved_50 (by decide) ?_
                    refine V.istore_n dR_moved_57 (by decide) ?_
                    refine V.iload_n dR_moved_58 rfl ?_
                    refine V.if_lt (tgt := 73) dR_moved_59 (by decide) (fun c_59 => ?_) (fun c_59 => ?_)
                    · try simp (disch := omega) only [nI_ltI, nI_leI, nI_eq, zz_lt0, zz_ge0, zz_gt0, zz_le0, zz_eq0, zz_m1lt, zz_m1ge, zz_m1eq, bI_eq0, decide_eq_false_iff_not, decide_eq_true_eq, Decidable.not_not, not_true_eq_false, not_false_eq_true, Nat.not_lt, Nat.not_le, Bool.not_eq_false, Bool.not_eq_true] at c_59
                      all_goals omega
                    · try simp (disch := omega) only [nI_ltI, nI_leI, nI_eq, zz_lt0, zz_ge0, zz_gt0, zz_le0, zz_eq0, zz_m1lt, zz_m1ge, zz_m1eq, bI_eq0, decide_eq_false_iff_not, decide_eq_true_eq, Decidable.not_not, not_true_eq_false, not_false_eq_true, Nat.not_lt, Nat.not_le, Bool.not_eq_false, Bool.not_eq_true] at c_59
                      refine V.iload_n dR_moved_62 rfl ?_
                      refine V.if_ne (tgt := 75) dR_moved_63 (by decide) (fun c_63 => ?_) (fun c_63 => ?_)
                      · try simp (disch := omega) only [nI_ltI, nI_leI, nI_eq, zz_lt0, zz_ge0, zz_gt0, zz_le0, zz_eq0, zz_m1lt, zz_m1ge, zz_m1eq, bI_eq0, decide_eq_false_iff_not, decide_eq_true_eq, Decidable.not_not, not_true_eq_false, not_false_eq_true, Nat.not_lt, Nat.not_le, Bool.not_eq_false, Bool.not_eq_true] at c_63
                        refine V.iload_n dR_moved_75 rfl ?_
                        refine V.if_eq (tgt := 91) dR_moved_76 (by decide) (fun c_76 => ?_) (fun c_76 => ?_)
                        · try simp (disch := omega) only [nI_ltI, nI_leI, nI_eq, zz_lt0, zz_ge0, zz_gt0, zz_le0, zz_eq0, zz_m1lt, zz_m1ge, zz_m1eq, bI_eq0, decide_eq_false_iff_not, decide_eq_true_eq, Decidable.not_not, not_true_eq_false, not_false_eq_true, Nat.not_lt, Nat.not_le, Bool.not_eq_false, Bool.not_eq_true] at c_76
                          all_goals omega
                        · try simp (disch := omega) only [nI_ltI, nI_leI, nI_eq, zz_lt0, zz_ge0, zz_gt0, zz_le0, zz_eq0, zz_m1lt, zz_m1ge, zz_m1eq, bI_eq0, decide_eq_false_iff_not, decide_eq_true_eq, Decidable.not_not, not_true_eq_false, not_false_eq_true, Nat.not_lt, Nat.not_le, Bool.not_eq_false, Bool.not_eq_true] at c_76
                          first | refine V.aload_n dR_moved_79 rfl ?_ | refine V.aload_nN dR_moved_79 rfl ?_
                          refine V.iload_n dR_moved_80 rfl ?_
                          first | refine V.aload_n dR_moved_81 rfl ?_ | refine V.aload_nN dR_moved_81 rfl ?_
                          refine V.getk dR_moved_82 (by omega) (by assumption) f_R_32_4 hO9 ?_
                          refine V.callVk (kd := 4) 0 _ 0 _ [_, _] dR_moved_85 okR_namesake n_R_97 (by omega) (by assumption) rfl imR_namesake seR_namesake_R (by decide) (by decide) rfl rfl (Nat.le_of_ble_eq_true rfl) (Nat.le_of_ble_eq_true rfl) (Nat.le_of_eq (Nat.zero_add _)) (Nat.le_of_eq (Nat.zero_add _)) (kR_namesake hS hT he hf ?_)
                          refine V.goto (tgt := 104) dR_moved_88 (by decide) ?_
                          exact V.re [3, 2, 1, 0] rfl (kR_moved_tail (b := true) hI hf he (fun t z => s_ent_lt z) hen (fun z => by (cases z)) (fun z => q0 (Or.inr ⟨(e, true), ht, z⟩)) (fun z h9 hI9 hF9 => q1 (e, true) ht z h9 hI9 hF9))
                      · try simp (disch := omega) only [nI_ltI, nI_leI, nI_eq, zz_lt0, zz_ge0, zz_gt0, zz_le0, zz_eq0, zz_m1lt, zz_m1ge, zz_m1eq, bI_eq0, decide_eq_false_iff_not, decide_eq_true_eq, Decidable.not_not, not_true_eq_false, not_false_eq_true, Nat.not_lt, Nat.not_le, Bool.not_eq_false, Bool.not_eq_true] at c_63
                        all_goals omega
            · skip
              exact absurd (by decide) c_11
        · have hdir : s_dir T (s_lead T p hand len) = none := by (rw [hr]; simp only [s_dir]; rw [if_neg hk2e])
          cases hh : s_home T p hand len with
          | none =>
            have ht : s_tgt T p hand len = none := by (unfold s_tgt; rw [hdir, hh])
            first | refine V.aload_n dR_moved_0 rfl ?_ | refine V.aload_nN dR_moved_0 rfl ?_
            refine V.getk dR_moved_1 (by omega) (by assumption) f_R_32_4 hO9 ?_
            refine V.if_lt (tgt := 14) dR_moved_4 (by decide) (fun c_4 => ?_) (fun c_4 => ?_)
            · try simp (disch := omega) only [nI_ltI, nI_leI, nI_eq, zz_lt0, zz_ge0, zz_gt0, zz_le0, zz_eq0, zz_m1lt, zz_m1ge, zz_m1eq, bI_eq0, decide_eq_false_iff_not, decide_eq_true_eq, Decidable.not_not, not_true_eq_false, not_false_eq_true, Nat.not_lt, Nat.not_le, Bool.not_eq_false, Bool.not_eq_true] at c_4
              all_goals omega
            · try simp (disch := omega) only [nI_ltI, nI_leI, nI_eq, zz_lt0, zz_ge0, zz_gt0, zz_le0, zz_eq0, zz_m1lt, zz_m1ge, zz_m1eq, bI_eq0, decide_eq_false_iff_not, decide_eq_true_eq, Decidable.not_not, not_true_eq_false, not_false_eq_true, Nat.not_lt, Nat.not_le, Bool.not_eq_false, Bool.not_eq_true] at c_4
              first | refine V.aload_n dR_moved_7 rfl ?_ | refine V.aload_nN dR_moved_7 rfl ?_
              refine V.getk dR_moved_8 (by omega) (by assumption) f_R_83_4 (show h.2.1 o 10 = .int (bI false) from hg) ?_
              refine V.if_eq (tgt := 16) dR_moved_11 (by decide) (fun c_11 => ?_) (fun c_11 => ?_)
              · skip
                first | refine V.aload_n dR_moved_16 rfl ?_ | refine V.aload_nN dR_moved_16 rfl ?_
                first | refine V.aload_n dR_moved_17 rfl ?_ | refine V.aload_nN dR_moved_17 rfl ?_
                refine V.getk dR_moved_18 (by omega) (by assumption) f_R_44_4 (by assumption) ?_
                refine V.callVk (kd := 4) 0 _ 0 _ [_] dR_moved_21 okR_lead n_R_65 (by omega) (by assumption) rfl imR_lead seR_lead_R (by decide) (by decide) rfl rfl (Nat.le_of_ble_eq_true rfl) (Nat.le_of_ble_eq_true rfl) (Nat.le_of_eq (Nat.zero_add _)) (Nat.le_of_eq (Nat.zero_add _)) (kR_lead hS hP hT hH (by omega) ?_)
                rw [hr]
                show V G mR_moved 24 _ [.int (nI e)] h 0 0 Q
                refine V.istore_n dR_moved_24 (by decide) ?_
                refine V.iload_n dR_moved_25 rfl ?_
                refine V.if_lt (tgt := 43) dR_moved_26 (by decide) (fun c_26 => ?_) (fun c_26 => ?_)
                · try simp (disch := omega) only [nI_ltI, nI_leI, nI_eq, zz_lt0, zz_ge0, zz_gt0, zz_le0, zz_eq0, zz_m1lt, zz_m1ge, zz_m1eq, bI_eq0, decide_eq_false_iff_not, decide_eq_true_eq, Decidable.not_not, not_true_eq_false, not_false_eq_true, Nat.not_lt, Nat.not_le, Bool.not_eq_false, Bool.not_eq_true] at c_26
                  all_goals omega
                · try simp (disch := omega) only [nI_ltI, nI_leI, nI_eq, zz_lt0, zz_ge0, zz_gt0, zz_le0, zz_eq0, zz_m1lt, zz_m1ge, zz_m1eq, bI_eq0, decide_eq_false_iff_not, decide_eq_true_eq, Decidable.not_not, not_true_eq_false, not_false_eq_true, Nat.not_lt, Nat.not_le, Bool.not_eq_false, Bool.not_eq_true] at c_26
                  first | refine V.aload_n dR_moved_29 rfl ?_ | refine V.aload_nN dR_moved_29 rfl ?_
                  refine V.getk dR_moved_30 (by omega) (by assumption) f_R_13_4 (by assumption) ?_
                  refine V.iload_n dR_moved_33 rfl ?_
                  refine V.ialoadN dR_moved_34 (by omega) (by assumption) (by omega) (hkd e he) ?_
                  refine V.iconst (v := (nI 2)) dR_moved_35 (by decide) ?_
                  refine V.icmp_ne (tgt := 43) dR_moved_36 (by decide) (fun c_36 => ?_) (fun c_36 => ?_)
                  · try simp (disch := omega) only [nI_ltI, nI_leI, nI_eq, zz_lt0, zz_ge0, zz_gt0, zz_le0, zz_eq0, zz_m1lt, zz_m1ge, zz_m1eq, bI_eq0, decide_eq_false_iff_not, decide_eq_true_eq, Decidable.not_not, not_true_eq_false, not_false_eq_true, Nat.not_lt, Nat.not_le, Bool.not_eq_false, Bool.not_eq_true] at c_36
                    refine V.iconst (v := (nI 0)) dR_moved_43 (by decide) ?_
                    refine V.istore_n dR_moved_44 (by decide) ?_
                    refine V.iload_n dR_moved_45 rfl ?_
                    refine V.if_eq (tgt := 53) dR_moved_46 (by decide) (fun c_46 => ?_) (fun c_46 => ?_)
                    · try simp (disch := omega) only [nI_ltI, nI_leI, nI_eq, zz_lt0, zz_ge0, zz_gt0, zz_le0, zz_eq0, zz_m1lt, zz_m1ge, zz_m1eq, bI_eq0, decide_eq_false_iff_not, decide_eq_true_eq, Decidable.not_not, not_true_eq_false, not_false_eq_true, Nat.not_lt, Nat.not_le, Bool.not_eq_false, Bool.not_eq_true] at c_46
                      first | refine V.aload_n dR_moved_53 rfl ?_ | refine V.aload_nN dR_moved_53 rfl ?_
                      refine V.callVk (kd := 4) 0 _ 0 _ [] dR_moved_54 okR_home n_R_69 (by omega) (by assumption) rfl imR_home seR_home_R (by decide) (by decide) rfl rfl (Nat.le_of_ble_eq_true rfl) (Nat.le_of_ble_eq_true rfl) (Nat.le_of_eq (Nat.zero_add _)) (Nat.le_of_eq (Nat.zero_add _)) (kR_home hS hP hT hH hhd ?_)
                      rw [hh]
                      show V G mR_moved 57 _ [.int (-1)] h 0 0 Q
                      refine V.istore_n dR_moved_57 (by decide) ?_
                      refine V.iload_n dR_moved_58 rfl ?_
                      refine V.if_lt (tgt := 73) dR_moved_59 (by decide) (fun c_59 => ?_) (fun c_59 => ?_)
                      · try simp only [zz_m1lt, zz_m1ge, not_true_eq_false, not_false_eq_true] at c_59
                        refine V.iconst (v := (nI 0)) dR_moved_73 (by decide) ?_
                        refine V.ireturn dR_moved_74 rfl rfl ?_
                        exact q0 (Or.inl ht)
                      · try simp only [zz_m1lt, zz_m1ge, not_true_eq_false, not_false_eq_true] at c_59
                        all_goals omega
                    · try simp (disch := omega) only [nI_ltI, nI_leI, nI_eq, zz_lt0, zz_ge0, zz_gt0, zz_le0, zz_eq0, zz_m1lt, zz_m1ge, zz_m1eq, bI_eq0, decide_eq_false_iff_not, decide_eq_true_eq, Decidable.not_not, not_true_eq_false, not_false_eq_true, Nat.not_lt, Nat.not_le, Bool.not_eq_false, Bool.not_eq_true] at c_46
                      all_goals omega
                  · try simp (disch := omega) only [nI_ltI, nI_leI, nI_eq, zz_lt0, zz_ge0, zz_gt0, zz_le0, zz_eq0, zz_m1lt, zz_m1ge, zz_m1eq, bI_eq0, decide_eq_false_iff_not, decide_eq_true_eq, Decidable.not_not, not_true_eq_false, not_false_eq_true, Nat.not_lt, Nat.not_le, Bool.not_eq_false, Bool.not_eq_true] at c_36
                    all_goals omega
              · skip
                exact absurd (by decide) c_11
          | some d =>
            have hd := s_home_lt hin2 hhl hh
            by_cases hnm9 : s_isName p len
            · have ht : s_tgt T p hand len = some (d, false) := by (unfold s_tgt; rw [hdir, hh]; dsimp only; rw [if_pos hnm9])
              first | refine V.aload_n dR_moved_0 rfl ?_ | refine V.aload_nN dR_moved_0 rfl ?_
              refine V.getk dR_moved_1 (by omega) (by assumption) f_R_32_4 hO9 ?_
              refine V.if_lt (tgt := 14) dR_moved_4 (by decide) (fun c_4 => ?_) (fun c_4 => ?_)
              · try simp (disch := omega) only [nI_ltI, nI_leI, nI_eq, zz_lt0, zz_ge0, zz_gt0, zz_le0, zz_eq0, zz_m1lt, zz_m1ge, zz_m1eq, bI_eq0, decide_eq_false_iff_not, decide_eq_true_eq, Decidable.not_not, not_true_eq_false, not_false_eq_true, Nat.not_lt, Nat.not_le, Bool.not_eq_false, Bool.not_eq_true] at c_4
                all_goals omega
              · try simp (disch := omega) only [nI_ltI, nI_leI, nI_eq, zz_lt0, zz_ge0, zz_gt0, zz_le0, zz_eq0, zz_m1lt, zz_m1ge, zz_m1eq, bI_eq0, decide_eq_false_iff_not, decide_eq_true_eq, Decidable.not_not, not_true_eq_false, not_false_eq_true, Nat.not_lt, Nat.not_le, Bool.not_eq_false, Bool.not_eq_true] at c_4
                first | refine V.aload_n dR_moved_7 rfl ?_ | refine V.aload_nN dR_moved_7 rfl ?_
                refine V.getk dR_moved_8 (by omega) (by assumption) f_R_83_4 (show h.2.1 o 10 = .int (bI false) from hg) ?_
                refine V.if_eq (tgt := 16) dR_moved_11 (by decide) (fun c_11 => ?_) (fun c_11 => ?_)
                · skip
                  first | refine V.aload_n dR_moved_16 rfl ?_ | refine V.aload_nN dR_moved_16 rfl ?_
                  first | refine V.aload_n dR_moved_17 rfl ?_ | refine V.aload_nN dR_moved_17 rfl ?_
                  refine V.getk dR_moved_18 (by omega) (by assumption) f_R_44_4 (by assumption) ?_
                  refine V.callVk (kd := 4) 0 _ 0 _ [_] dR_moved_21 okR_lead n_R_65 (by omega) (by assumption) rfl imR_lead seR_lead_R (by decide) (by decide) rfl rfl (Nat.le_of_ble_eq_true rfl) (Nat.le_of_ble_eq_true rfl) (Nat.le_of_eq (Nat.zero_add _)) (Nat.le_of_eq (Nat.zero_add _)) (kR_lead hS hP hT hH (by omega) ?_)
                  rw [hr]
                  show V G mR_moved 24 _ [.int (nI e)] h 0 0 Q
                  refine V.istore_n dR_moved_24 (by decide) ?_
                  refine V.iload_n dR_moved_25 rfl ?_
                  refine V.if_lt (tgt := 43) dR_moved_26 (by decide) (fun c_26 => ?_) (fun c_26 => ?_)
                  · try simp (disch := omega) only [nI_ltI, nI_leI, nI_eq, zz_lt0, zz_ge0, zz_gt0, zz_le0, zz_eq0, zz_m1lt, zz_m1ge, zz_m1eq, bI_eq0, decide_eq_false_iff_not, decide_eq_true_eq, Decidable.not_not, not_true_eq_false, not_false_eq_true, Nat.not_lt, Nat.not_le, Bool.not_eq_false, Bool.not_eq_true] at c_26
                    all_goals omega
                  · try simp (disch := omega) only [nI_ltI, nI_leI, nI_eq, zz_lt0, zz_ge0, zz_gt0, zz_le0, zz_eq0, zz_m1lt, zz_m1ge, zz_m1eq, bI_eq0, decide_eq_false_iff_not, decide_eq_true_eq, Decidable.not_not, not_true_eq_false, not_false_eq_true, Nat.not_lt, Nat.not_le, Bool.not_eq_false, Bool.not_eq_true] at c_26
                    first | refine V.aload_n dR_moved_29 rfl ?_ | refine V.aload_nN dR_moved_29 rfl ?_
                    refine V.getk dR_moved_30 (by omega) (by assumption) f_R_13_4 (by assumption) ?_
                    refine V.iload_n dR_moved_33 rfl ?_
                    refine V.ialoadN dR_moved_34 (by omega) (by assumption) (by omega) (hkd e he) ?_
                    refine V.iconst (v := (nI 2)) dR_moved_35 (by decide) ?_
                    refine V.icmp_ne (tgt := 43) dR_moved_36 (by decide) (fun c_36 => ?_) (fun c_36 => ?_)
                    · try simp (disch := omega) only [nI_ltI, nI_leI, nI_eq, zz_lt0, zz_ge0, zz_gt0, zz_le0, zz_eq0, zz_m1lt, zz_m1ge, zz_m1eq, bI_eq0, decide_eq_false_iff_not, decide_eq_true_eq, Decidable.not_not, not_true_eq_false, not_false_eq_true, Nat.not_lt, Nat.not_le, Bool.not_eq_false, Bool.not_eq_true] at c_36
                      refine V.iconst (v := (nI 0)) dR_moved_43 (by decide) ?_
                      refine V.istore_n dR_moved_44 (by decide) ?_
                      refine V.iload_n dR_moved_45 rfl ?_
                      refine V.if_eq (tgt := 53) dR_moved_46 (by decide) (fun c_46 => ?_) (fun c_46 => ?_)
                      · try simp (disch := omega) only [nI_ltI, nI_leI, nI_eq, zz_lt0, zz_ge0, zz_gt0, zz_le0, zz_eq0, zz_m1lt, zz_m1ge, zz_m1eq, bI_eq0, decide_eq_false_iff_not, decide_eq_true_eq, Decidable.not_not, not_true_eq_false, not_false_eq_true, Nat.not_lt, Nat.not_le, Bool.not_eq_false, Bool.not_eq_true] at c_46
                        first | refine V.aload_n dR_moved_53 rfl ?_ | refine V.aload_nN dR_moved_53 rfl ?_
                        refine V.callVk (kd := 4) 0 _ 0 _ [] dR_moved_54 okR_home n_R_69 (by omega) (by assumption) rfl imR_home seR_home_R (by decide) (by decide) rfl rfl (Nat.le_of_ble_eq_true rfl) (Nat.le_of_ble_eq_true rfl) (Nat.le_of_eq (Nat.zero_add _)) (Nat.le_of_eq (Nat.zero_add _)) (kR_home hS hP hT hH hhd ?_)
                        rw [hh]
                        show V G mR_moved 57 _ [.int (nI d)] h 0 0 Q
                        refine V.istore_n dR_moved_57 (by decide) ?_
                        refine V.iload_n dR_moved_58 rfl ?_
                        refine V.if_lt (tgt := 73) dR_moved_59 (by decide) (fun c_59 => ?_) (fun c_59 => ?_)
                        · try simp (disch := omega) only [nI_ltI, nI_leI, nI_eq, zz_lt0, zz_ge0, zz_gt0, zz_le0, zz_eq0, zz_m1lt, zz_m1ge, zz_m1eq, bI_eq0, decide_eq_false_iff_not, decide_eq_true_eq, Decidable.not_not, not_true_eq_false, not_false_eq_true, Nat.not_lt, Nat.not_le, Bool.not_eq_false, Bool.not_eq_true] at c_59
                          all_goals omega
                        · try simp (disch := omega) only [nI_ltI, nI_leI, nI_eq, zz_lt0, zz_ge0, zz_gt0, zz_le0, zz_eq0, zz_m1lt, zz_m1ge, zz_m1eq, bI_eq0, decide_eq_false_iff_not, decide_eq_true_eq, Decidable.not_not, not_true_eq_false, not_false_eq_true, Nat.not_lt, Nat.not_le, Bool.not_eq_false, Bool.not_eq_true] at c_59
                          refine V.iload_n dR_moved_62 rfl ?_
                          refine V.if_ne (tgt := 75) dR_moved_63 (by decide) (fun c_63 => ?_) (fun c_63 => ?_)
                          · try simp (disch := omega) only [nI_ltI, nI_leI, nI_eq, zz_lt0, zz_ge0, zz_gt0, zz_le0, zz_eq0, zz_m1lt, zz_m1ge, zz_m1eq, bI_eq0, decide_eq_false_iff_not, decide_eq_true_eq, Decidable.not_not, not_true_eq_false, not_false_eq_true, Nat.not_lt, Nat.not_le, Bool.not_eq_false, Bool.not_eq_true] at c_63
                            all_goals omega
                          · try simp (disch := omega) only [nI_ltI, nI_leI, nI_eq, zz_lt0, zz_ge0, zz_gt0, zz_le0, zz_eq0, zz_m1lt, zz_m1ge, zz_m1eq, bI_eq0, decide_eq_false_iff_not, decide_eq_true_eq, Decidable.not_not, not_true_eq_false, not_false_eq_true, Nat.not_lt, Nat.not_le, Bool.not_eq_false, Bool.not_eq_true] at c_63
                            first | refine V.aload_n dR_moved_66 rfl ?_ | refine V.aload_nN dR_moved_66 rfl ?_
                            refine V.callVk (kd := 4) 0 _ 0 _ [] dR_moved_67 okR_isName n_R_72 (by omega) (by assumption) rfl imR_isName seR_isName_R (by decide) (by decide) rfl rfl (Nat.le_of_ble_eq_true rfl) (Nat.le_of_ble_eq_true rfl) (Nat.le_of_eq (Nat.zero_add _)) (Nat.le_of_eq (Nat.zero_add _)) (kR_isName hS hP ?_)
                            refine V.if_ne (tgt := 75) dR_moved_70 (by decide) (fun c_70 => ?_) (fun c_70 => ?_)
                            · try simp only [bI_eq0, decide_eq_false_iff_not, Decidable.not_not] at c_70
                              refine V.iload_n dR_moved_75 rfl ?_
                              refine V.if_eq (tgt := 91) dR_moved_76 (by decide) (fun c_76 => ?_) (fun c_76 => ?_)
                              · try simp (disch := omega) only [nI_ltI, nI_leI, nI_eq, zz_lt0, zz_ge0, zz_gt0, zz_le0, zz_eq0, zz_m1lt, zz_m1ge, zz_m1eq, bI_eq0, decide_eq_false_iff_not, decide_eq_true_eq, Decidable.not_not, not_true_eq_false, not_false_eq_true, Nat.not_lt, Nat.not_le, Bool.not_eq_false, Bool.not_eq_true] at c_76
                                first | refine V.aload_n dR_moved_91 rfl ?_ | refine V.aload_nN dR_moved_91 rfl ?_
                                refine V.iload_n dR_moved_92 rfl ?_
                                first | refine V.aload_n dR_moved_93 rfl ?_ | refine V.aload_nN dR_moved_93 rfl ?_
                                refine V.callVk (kd := 4) 0 _ 0 _ [] dR_moved_94 okR_last n_R_61 (by omega) (by assumption) rfl imR_last seR_last_R (by decide) (by decide) rfl rfl (Nat.le_of_ble_eq_true rfl) (Nat.le_of_ble_eq_true rfl) (Nat.le_of_eq (Nat.zero_add _)) (Nat.le_of_eq (Nat.zero_add _)) (kR_last hS hP ?_)
                                first | refine V.aload_n dR_moved_97 rfl ?_ | refine V.aload_nN dR_moved_97 rfl ?_
                                refine V.getk dR_moved_98 (by omega) (by assumption) f_R_44_4 (by assumption) ?_
                                refine V.callVk (kd := 4) 0 _ 0 _ [_, _, _] dR_moved_101 okR_entry n_R_51 (by omega) (by assumption) rfl imR_entry seR_entry_R (by decide) (by decide) rfl rfl (Nat.le_of_ble_eq_true rfl) (Nat.le_of_ble_eq_true rfl) (Nat.le_of_eq (Nat.zero_add _)) (Nat.le_of_eq (Nat.zero_add _)) (kR_entry hS hP hT hd (by omega) (by omega) ?_)
                                exact V.re [3, 2, 1, 0] rfl (kR_moved_tail (b := false) hI hf hd (fun t z => s_ent_lt z) hen (fun _ => hnm9.2.1) (fun z => q0 (Or.inr ⟨(d, false), ht, z⟩)) (fun z h9 hI9 hF9 => q1 (d, false) ht z h9 hI9 hF9))
                              · try simp (disch := omega) only [nI_ltI, nI_leI, nI_eq, zz_lt0, zz_ge0, zz_gt0, zz_le0, zz_eq0, zz_m1lt, zz_m1ge, zz_m1eq, bI_eq0, decide_eq_false_iff_not, decide_eq_true_eq, Decidable.not_not, not_true_eq_false, not_false_eq_true, Nat.not_lt, Nat.not_le, Bool.not_eq_false, Bool.not_eq_true] at c_76
                                all_goals omega
                            · try simp only [bI_eq0, decide_eq_false_iff_not, Decidable.not_not] at c_70
                              exact absurd hnm9 c_70
                      · try simp (disch := omega) only [nI_ltI, nI_leI, nI_eq, zz_lt0, zz_ge0, zz_gt0, zz_le0, zz_eq0, zz_m1lt, zz_m1ge, zz_m1eq, bI_eq0, decide_eq_false_iff_not, decide_eq_true_eq, Decidable.not_not, not_true_eq_false, not_false_eq_true, Nat.not_lt, Nat.not_le, Bool.not_eq_false, Bool.not_eq_true] at c_46
                        all_goals omega
                    · try simp (disch := omega) only [nI_ltI, nI_leI, nI_eq, zz_lt0, zz_ge0, zz_gt0, zz_le0, zz_eq0, zz_m1lt, zz_m1ge, zz_m1eq, bI_eq0, decide_eq_false_iff_not, decide_eq_true_eq, Decidable.not_not, not_true_eq_false, not_false_eq_true, Nat.not_lt, Nat.not_le, Bool.not_eq_false, Bool.not_eq_true] at c_36
                      all_goals omega
                · skip
                  exact absurd (by decide) c_11
            · have ht : s_tgt T p hand len = none := by (unfold s_tgt; rw [hdir, hh]; dsimp only; rw [if_neg hnm9])
              first | refine V.aload_n dR_moved_0 rfl ?_ | refine V.aload_nN dR_moved_0 rfl ?_
              refine V.getk dR_moved_1 (by omega) (by assumption) f_R_32_4 hO9 ?_
              refine V.if_lt (tgt := 14) dR_moved_4 (by decide) (fun c_4 => ?_) (fun c_4 => ?_)
              · try simp (disch := omega) only [nI_ltI, nI_leI, nI_eq, zz_lt0, zz_ge0, zz_gt0, zz_le0, zz_eq0, zz_m1lt, zz_m1ge, zz_m1eq, bI_eq0, decide_eq_false_iff_not, decide_eq_true_eq, Decidable.not_not, not_true_eq_false, not_false_eq_true, Nat.not_lt, Nat.not_le, Bool.not_eq_false, Bool.not_eq_true] at c_4
                all_goals omega
              · try simp (disch := omega) only [nI_ltI, nI_leI, nI_eq, zz_lt0, zz_ge0, zz_gt0, zz_le0, zz_eq0, zz_m1lt, zz_m1ge, zz_m1eq, bI_eq0, decide_eq_false_iff_not, decide_eq_true_eq, Decidable.not_not, not_true_eq_false, not_false_eq_true, Nat.not_lt, Nat.not_le, Bool.not_eq_false, Bool.not_eq_true] at c_4
                first | refine V.aload_n dR_moved_7 rfl ?_ | refine V.aload_nN dR_moved_7 rfl ?_
                refine V.getk dR_moved_8 (by omega) (by assumption) f_R_83_4 (show h.2.1 o 10 = .int (bI false) from hg) ?_
                refine V.if_eq (tgt := 16) dR_moved_11 (by decide) (fun c_11 => ?_) (fun c_11 => ?_)
                · skip
                  first | refine V.aload_n dR_moved_16 rfl ?_ | refine V.aload_nN dR_moved_16 rfl ?_
                  first | refine V.aload_n dR_moved_17 rfl ?_ | refine V.aload_nN dR_moved_17 rfl ?_
                  refine V.getk dR_moved_18 (by omega) (by assumption) f_R_44_4 (by assumption) ?_
                  refine V.callVk (kd := 4) 0 _ 0 _ [_] dR_moved_21 okR_lead n_R_65 (by omega) (by assumption) rfl imR_lead seR_lead_R (by decide) (by decide) rfl rfl (Nat.le_of_ble_eq_true rfl) (Nat.le_of_ble_eq_true rfl) (Nat.le_of_eq (Nat.zero_add _)) (Nat.le_of_eq (Nat.zero_add _)) (kR_lead hS hP hT hH (by omega) ?_)
                  rw [hr]
                  show V G mR_moved 24 _ [.int (nI e)] h 0 0 Q
                  refine V.istore_n dR_moved_24 (by decide) ?_
                  refine V.iload_n dR_moved_25 rfl ?_
                  refine V.if_lt (tgt := 43) dR_moved_26 (by decide) (fun c_26 => ?_) (fun c_26 => ?_)
                  · try simp (disch := omega) only [nI_ltI, nI_leI, nI_eq, zz_lt0, zz_ge0, zz_gt0, zz_le0, zz_eq0, zz_m1lt, zz_m1ge, zz_m1eq, bI_eq0, decide_eq_false_iff_not, decide_eq_true_eq, Decidable.not_not, not_true_eq_false, not_false_eq_true, Nat.not_lt, Nat.not_le, Bool.not_eq_false, Bool.not_eq_true] at c_26
                    all_goals omega
                  · try simp (disch := omega) only [nI_ltI, nI_leI, nI_eq, zz_lt0, zz_ge0, zz_gt0, zz_le0, zz_eq0, zz_m1lt, zz_m1ge, zz_m1eq, bI_eq0, decide_eq_false_iff_not, decide_eq_true_eq, Decidable.not_not, not_true_eq_false, not_false_eq_true, Nat.not_lt, Nat.not_le, Bool.not_eq_false, Bool.not_eq_true] at c_26
                    first | refine V.aload_n dR_moved_29 rfl ?_ | refine V.aload_nN dR_moved_29 rfl ?_
                    refine V.getk dR_moved_30 (by omega) (by assumption) f_R_13_4 (by assumption) ?_
                    refine V.iload_n dR_moved_33 rfl ?_
                    refine V.ialoadN dR_moved_34 (by omega) (by assumption) (by omega) (hkd e he) ?_
                    refine V.iconst (v := (nI 2)) dR_moved_35 (by decide) ?_
                    refine V.icmp_ne (tgt := 43) dR_moved_36 (by decide) (fun c_36 => ?_) (fun c_36 => ?_)
                    · try simp (disch := omega) only [nI_ltI, nI_leI, nI_eq, zz_lt0, zz_ge0, zz_gt0, zz_le0, zz_eq0, zz_m1lt, zz_m1ge, zz_m1eq, bI_eq0, decide_eq_false_iff_not, decide_eq_true_eq, Decidable.not_not, not_true_eq_false, not_false_eq_true, Nat.not_lt, Nat.not_le, Bool.not_eq_false, Bool.not_eq_true] at c_36
                      refine V.iconst (v := (nI 0)) dR_moved_43 (by decide) ?_
                      refine V.istore_n dR_moved_44 (by decide) ?_
                      refine V.iload_n dR_moved_45 rfl ?_
                      refine V.if_eq (tgt := 53) dR_moved_46 (by decide) (fun c_46 => ?_) (fun c_46 => ?_)
                      · try simp (disch := omega) only [nI_ltI, nI_leI, nI_eq, zz_lt0, zz_ge0, zz_gt0, zz_le0, zz_eq0, zz_m1lt, zz_m1ge, zz_m1eq, bI_eq0, decide_eq_false_iff_not, decide_eq_true_eq, Decidable.not_not, not_true_eq_false, not_false_eq_true, Nat.not_lt, Nat.not_le, Bool.not_eq_false, Bool.not_eq_true] at c_46
                        first | refine V.aload_n dR_moved_53 rfl ?_ | refine V.aload_nN dR_moved_53 rfl ?_
                        refine V.callVk (kd := 4) 0 _ 0 _ [] dR_moved_54 okR_home n_R_69 (by omega) (by assumption) rfl imR_home seR_home_R (by decide) (by decide) rfl rfl (Nat.le_of_ble_eq_true rfl) (Nat.le_of_ble_eq_true rfl) (Nat.le_of_eq (Nat.zero_add _)) (Nat.le_of_eq (Nat.zero_add _)) (kR_home hS hP hT hH hhd ?_)
                        rw [hh]
                        show V G mR_moved 57 _ [.int (nI d)] h 0 0 Q
                        refine V.istore_n dR_moved_57 (by decide) ?_
                        refine V.iload_n dR_moved_58 rfl ?_
                        refine V.if_lt (tgt := 73) dR_moved_59 (by decide) (fun c_59 => ?_) (fun c_59 => ?_)
                        · try simp (disch := omega) only [nI_ltI, nI_leI, nI_eq, zz_lt0, zz_ge0, zz_gt0, zz_le0, zz_eq0, zz_m1lt, zz_m1ge, zz_m1eq, bI_eq0, decide_eq_false_iff_not, decide_eq_true_eq, Decidable.not_not, not_true_eq_false, not_false_eq_true, Nat.not_lt, Nat.not_le, Bool.not_eq_false, Bool.not_eq_true] at c_59
                          all_goals omega
                        · try simp (disch := omega) only [nI_ltI, nI_leI, nI_eq, zz_lt0, zz_ge0, zz_gt0, zz_le0, zz_eq0, zz_m1lt, zz_m1ge, zz_m1eq, bI_eq0, decide_eq_false_iff_not, decide_eq_true_eq, Decidable.not_not, not_true_eq_false, not_false_eq_true, Nat.not_lt, Nat.not_le, Bool.not_eq_false, Bool.not_eq_true] at c_59
                          refine V.iload_n dR_moved_62 rfl ?_
                          refine V.if_ne (tgt := 75) dR_moved_63 (by decide) (fun c_63 => ?_) (fun c_63 => ?_)
                          · try simp (disch := omega) only [nI_ltI, nI_leI, nI_eq, zz_lt0, zz_ge0, zz_gt0, zz_le0, zz_eq0, zz_m1lt, zz_m1ge, zz_m1eq, bI_eq0, decide_eq_false_iff_not, decide_eq_true_eq, Decidable.not_not, not_true_eq_false, not_false_eq_true, Nat.not_lt, Nat.not_le, Bool.not_eq_false, Bool.not_eq_true] at c_63
                            all_goals omega
                          · try simp (disch := omega) only [nI_ltI, nI_leI, nI_eq, zz_lt0, zz_ge0, zz_gt0, zz_le0, zz_eq0, zz_m1lt, zz_m1ge, zz_m1eq, bI_eq0, decide_eq_false_iff_not, decide_eq_true_eq, Decidable.not_not, not_true_eq_false, not_false_eq_true, Nat.not_lt, Nat.not_le, Bool.not_eq_false, Bool.not_eq_true] at c_63
                            first | refine V.aload_n dR_moved_66 rfl ?_ | refine V.aload_nN dR_moved_66 rfl ?_
                            refine V.callVk (kd := 4) 0 _ 0 _ [] dR_moved_67 okR_isName n_R_72 (by omega) (by assumption) rfl imR_isName seR_isName_R (by decide) (by decide) rfl rfl (Nat.le_of_ble_eq_true rfl) (Nat.le_of_ble_eq_true rfl) (Nat.le_of_eq (Nat.zero_add _)) (Nat.le_of_eq (Nat.zero_add _)) (kR_isName hS hP ?_)
                            refine V.if_ne (tgt := 75) dR_moved_70 (by decide) (fun c_70 => ?_) (fun c_70 => ?_)
                            · try simp only [bI_eq0, decide_eq_false_iff_not, Decidable.not_not] at c_70
                              exact absurd c_70 hnm9
                            · try simp only [bI_eq0, decide_eq_false_iff_not, Decidable.not_not] at c_70
                              refine V.iconst (v := (nI 0)) dR_moved_73 (by decide) ?_
                              refine V.ireturn dR_moved_74 rfl rfl ?_
                              exact q0 (Or.inl ht)
                      · try simp (disch := omega) only [nI_ltI, nI_leI, nI_eq, zz_lt0, zz_ge0, zz_gt0, zz_le0, zz_eq0, zz_m1lt, zz_m1ge, zz_m1eq, bI_eq0, decide_eq_false_iff_not, decide_eq_true_eq, Decidable.not_not, not_true_eq_false, not_false_eq_true, Nat.not_lt, Nat.not_le, Bool.not_eq_false, Bool.not_eq_true] at c_46
                        all_goals omega
                    · try simp (disch := omega) only [nI_ltI, nI_leI, nI_eq, zz_lt0, zz_ge0, zz_gt0, zz_le0, zz_eq0, zz_m1lt, zz_m1ge, zz_m1eq, bI_eq0, decide_eq_false_iff_not, decide_eq_true_eq, Decidable.not_not, not_true_eq_false, not_false_eq_true, Nat.not_lt, Nat.not_le, Bool.not_eq_false, Bool.not_eq_true] at c_36
                      all_goals omega
                · skip
                  exact absurd (by decide) c_11
set_option maxHeartbeats 4000000 in
set_option maxRecDepth 100000 in
/-- PathTreeModel.move -/
theorem kR_move {G : GG} {h : HH} {o : Nat} {T : TT} {p : Nat → Nat} {len hand : Nat} {op : Option Nat} {gone : Bool} {ents : Nat} {bl : List (Nat × Nat)} {Q : Option Value → HH → Prop} (hI : RI G h o T p len hand op gone ents bl) (hhd : T.1 hand = 2) (hen : 1 ≤ ents ∧ ents ≤ 300) (qn : op = none ∨ gone = true → ∀ h', RI G h' o T p 0 hand op gone ents bl → FrO o h h' → Q (some (.int (nI 0))) h') (q0 : ∀ f, op = some f → gone = false → (s_tgt T p hand len = none ∨ ∃ q, s_tgt T p hand len = some q ∧ ¬ s_mok T f (s_there T p len f q)) → ∀ h', RI G h' o T p 0 hand op gone ents bl → FrO o h h' → Q (some (.int (nI 0))) h') (q1 : ∀ f, op = some f → gone = false → ∀ q, s_tgt T p hand len = some q → s_mok T f (s_there T p len f q) → ∀ h', RI G h' o (s_mN (s_mT T (s_there T p len f q)) f q p len) p 0 hand (some f) false (s_mE ents (s_there T p len f q)) (s_mB bl (s_there T p len f q)) → FrO o h h' → Q (some (.int (nI 1))) h') : V G mR_move 0 (lv_args 0 [.ref o]) [] h 0 0 Q := by
  obtain ⟨hS, hP, hT, hH, hO, hg, hE, hB, hop⟩ := id hI
  obtain ⟨hz, hk0, hk1, hk2, hk3, hk4, hk5, hk6, hk7, hk8, hf0, hf2, hf3, hf4, hf5, hf6, hf12, hf13⟩ := id hS
  obtain ⟨hln, hpp, hl2, hp⟩ := id hP
  obtain ⟨hkd, hkd2, hin, hin2, hns, hns2, hnm, hnm2⟩ := id hT
  obtain ⟨hhand, hhl⟩ := id hH
  first | refine V.aload_n dR_move_0 rfl ?_ | refine V.aload_nN dR_move_0 rfl ?_
  refine V.callVk (kd := 4) 0 _ 0 _ [] dR_move_1 okR_moved n_R_101 (by omega) (by assumption) rfl imR_moved seR_moved_R (by decide) (by decide) rfl rfl (Nat.le_of_ble_eq_true rfl) (Nat.le_of_ble_eq_true rfl) (Nat.le_of_eq (Nat.zero_add _)) (Nat.le_of_eq (Nat.zero_add _)) (kR_moved hI hhd hen (fun z => ?_) (fun f e1 e2 z => ?_) (fun f e1 e2 q e3 z h9 hI9 hF9 => ?_))
  · refine V.istore_n dR_move_4 (by decide) ?_
    first | refine V.aload_n dR_move_5 rfl ?_ | refine V.aload_nN dR_move_5 rfl ?_
    refine V.iconst (v := (nI 0)) dR_move_6 (by decide) ?_
    refine V.putk dR_move_7 (by omega) (by assumption) p_R_44_4 rfl rfl ?_
    intro h2 e2
    refine V.iload_n dR_move_10 rfl ?_
    refine V.ireturn dR_move_11 rfl rfl ?_
    exact qn z h2 (by (rw [e2]; exact hI.len)) (by (rw [e2]; exact FrO.rf.put (by omega)))
  · refine V.istore_n dR_move_4 (by decide) ?_
    first | refine V.aload_n dR_move_5 rfl ?_ | refine V.aload_nN dR_move_5 rfl ?_
    refine V.iconst (v := (nI 0)) dR_move_6 (by decide) ?_
    refine V.putk dR_move_7 (by omega) (by assumption) p_R_44_4 rfl rfl ?_
    intro h2 e5
    refine V.iload_n dR_move_10 rfl ?_
    refine V.ireturn dR_move_11 rfl rfl ?_
    exact q0 f e1 e2 z h2 (by (rw [e5]; exact hI.len)) (by (rw [e5]; exact FrO.rf.put (by omega)))
  · obtain ⟨hSb, hPb, hTb, hHb, hOb, hgb, hEb, hBb, hopb⟩ := id hI9
    obtain ⟨hzb, hk0b, hk1b, hk2b, hk3b, hk4b, hk5b, hk6b, hk7b, hk8b, hf0b, hf2b, hf3b, hf4b, hf5b, hf6b, hf12b, hf13b⟩ := id hSb
    obtain ⟨hlnb, hppb, hl2b, hpb⟩ := id hPb
    obtain ⟨hkdb, hkd2b, hinb, hin2b, hnsb, hns2b, hnmb, hnm2b⟩ := id hTb
    obtain ⟨hhandb, hhlb⟩ := id hHb
    refine V.istore_n dR_move_4 (by decide) ?_
    first | refine V.aload_n dR_move_5 rfl ?_ | refine V.aload_nN dR_move_5 rfl ?_
    refine V.iconst (v := (nI 0)) dR_move_6 (by decide) ?_
    refine V.putk dR_move_7 (by omega) (by assumption) p_R_44_4 rfl rfl ?_
    intro h2 e5
    refine V.iload_n dR_move_10 rfl ?_
    refine V.ireturn dR_move_11 rfl rfl ?_
    exact q1 f e1 e2 q e3 z h2 (by (rw [e5]; exact hI9.len)) (by (rw [e5]; exact hF9.put (by omega)))
  skip
