theorem s_ent_lt {T : TT} {p : Nat → Nat} {d a b e : Nat} (h : s_ent T p d a b = some e) : e < 300 := (s_ent_some h).1
theorem s_along_lt {T : TT} {p : Nat → Nat} {e a b e' : Nat} (hin : ∀ e, e < 300 → T.2.1 e < 300) (he : e < 300) (h : s_along T p e a b = some e') : e' < 300 := by
  unfold s_along at h
  split at h
  · cases h; exact he
  · split at h
    · cases h
    · split at h
      · cases h; exact he
      · split at h
        · cases h; exact hin e he
        · exact s_ent_lt h
theorem s_w_lt {T : TT} {p : Nat → Nat} (hin : ∀ e, e < 300 → T.2.1 e < 300) : ∀ (r x f e e' : Nat), e < 300 → s_w T p r x f e = some e' → e' < 300
  | 0, x, f, e, e', he, h => s_along_lt hin he h
  | r + 1, x, f, e, e', he, h => by
    unfold s_w at h
    split at h
    · split at h
      · cases h
      · next e2 hq => exact s_w_lt hin r _ _ _ _ (s_along_lt hin he hq) h
    · exact s_w_lt hin r _ _ _ _ he h
theorem s_lead0_lt {T : TT} {p : Nat → Nat} {hand n e : Nat} (hin : ∀ e, e < 300 → T.2.1 e < 300) (hh : hand < 300) (h : s_lead0 T p hand n = some e) : e < 300 := by
  unfold s_lead0 at h
  refine s_w_lt hin _ _ _ _ _ ?_ h
  split <;> omega
theorem s_lead_lt {T : TT} {p : Nat → Nat} {hand n e : Nat} (hin : ∀ e, e < 300 → T.2.1 e < 300) (hh : hand < 300) (h : s_lead T p hand n = some e) : e < 300 := by
  unfold s_lead at h
  split at h
  · cases h
  · split at h
    · cases h
    · next e2 hq =>
      split at h
      · cases h
      · cases h; exact s_lead0_lt hin hh hq
theorem s_home_lt {T : TT} {p : Nat → Nat} {hand n e : Nat} (hin : ∀ e, e < 300 → T.2.1 e < 300) (hh : hand < 300) (h : s_home T p hand n = some e) : e < 300 := by
  unfold s_home at h
  split at h
  · cases h; exact hh
  · unfold s_dir at h
    split at h
    · cases h
    · next e2 hq =>
      split at h
      · cases h; exact s_lead0_lt hin hh hq
      · cases h
/-- where the walk of a path stands: k is the next name's place, r what was reached; w is what it will come to -/
def s_at (T : TT) (p : Nat → Nat) (n : Nat) (w : Option Nat) (k : Nat) (r : Option Nat) : Prop := (r = none ∧ w = none) ∨ ∃ e, r = some e ∧ e < 300 ∧ ((k ≤ n ∧ s_w T p (n - k) k k e = w) ∨ (k = n + 1 ∧ w = some e))
theorem s_at_step {T : TT} {p : Nat → Nat} {n x k e : Nat} {w : Option Nat} (hin : ∀ e, e < 300 → T.2.1 e < 300) (he : e < 300) (hx : x ≤ n) (hw : s_w T p (n - x) x k e = w) (hs : x = n ∨ p x = 47) : s_at T p n w (x + 1) (s_along T p e k x) := by
  by_cases hxn : x = n
  · subst hxn
    rw [Nat.sub_self] at hw
    simp only [s_w] at hw
    cases hr : s_along T p e k x with
    | none => exact Or.inl ⟨rfl, by rw [← hw, hr]⟩
    | some e2 => exact Or.inr ⟨e2, rfl, s_along_lt hin he hr, Or.inr ⟨rfl, by rw [← hw, hr]⟩⟩
  · have hp : p x = 47 := by omega
    rw [show n - x = (n - (x + 1)) + 1 by omega] at hw
    simp only [s_w] at hw
    rw [if_pos hp] at hw
    cases hr : s_along T p e k x with
    | none => rw [hr] at hw; exact Or.inl ⟨rfl, hw.symm⟩
    | some e2 => rw [hr] at hw; exact Or.inr ⟨e2, rfl, s_along_lt hin he hr, Or.inl ⟨by omega, hw⟩⟩
theorem s_w_skip {T : TT} {p : Nat → Nat} {n x k e : Nat} {w : Option Nat} (hx : x < n) (hw : s_w T p (n - x) x k e = w) (hp : ¬ p x = 47) : s_w T p (n - (x + 1)) (x + 1) k e = w := by
  rw [show n - x = (n - (x + 1)) + 1 by omega] at hw
  simp only [s_w] at hw
  rw [if_neg hp] at hw
  exact hw
set_option maxHeartbeats 4000000 in
set_option maxRecDepth 100000 in
/-- PathTreeModel.lead -/
theorem kR_lead {G : GG} {h : HH} {o : Nat} {p : Nat → Nat} {len : Nat} {Q : Option Value → HH → Prop} {T : TT} {hand : Nat} {n : Nat} (hS : RS G h o) (hP : RP h o p len) (hT : RT h o T) (hH : h.2.1 o 8 = .int (nI hand) ∧ hand < 300) (hn : n ≤ len) (hQ : Q (some (.int (oI (s_lead T p hand n)))) h) : V G mR_lead 0 (lv_args 0 [.ref o, .int (nI n)]) [] h 0 0 Q := by
  obtain ⟨hz, hk0, hk1, hk2, hk3, hk4, hk5, hk6, hk7, hk8, hf0, hf2, hf3, hf4, hf5, hf6, hf12, hf13⟩ := id hS
  obtain ⟨hln, hpp, hl2, hp⟩ := id hP
  obtain ⟨hkd, hkd2, hin, hin2, hns, hns2, hnm, hnm2⟩ := id hT
  have hhand : h.2.1 o 8 = .int (nI hand) := hH.1
  have hhl : hand < 300 := hH.2
  by_cases hn0 : n = 0
  · subst hn0
    refine V.iload_n dR_lead_0 rfl ?_
    refine V.if_ne (tgt := 6) dR_lead_1 (by decide) (fun c_1 => ?_) (fun c_1 => ?_)
    · try simp (disch := omega) only [nI_ltI, nI_leI, nI_eq, zz_lt0, zz_ge0, zz_gt0, zz_le0, zz_eq0, zz_m1lt, zz_m1ge, zz_m1eq, bI_eq0, decide_eq_false_iff_not, decide_eq_true_eq, Decidable.not_not, not_true_eq_false, not_false_eq_true, Nat.not_lt, Nat.not_le, Bool.not_eq_false, Bool.not_eq_true] at c_1
      all_goals omega
    · try simp (disch := omega) only [nI_ltI, nI_leI, nI_eq, zz_lt0, zz_ge0, zz_gt0, zz_le0, zz_eq0, zz_m1lt, zz_m1ge, zz_m1eq, bI_eq0, decide_eq_false_iff_not, decide_eq_true_eq, Decidable.not_not, not_true_eq_false, not_false_eq_true, Nat.not_lt, Nat.not_le, Bool.not_eq_false, Bool.not_eq_true] at c_1
      refine V.iconst (v := (-1)) dR_lead_4 (by decide) ?_
      refine V.ireturn dR_lead_5 rfl rfl ?_
      unfold s_lead at hQ; rw [if_pos rfl] at hQ; exact hQ
  have outer : ∀ m k r, n + 1 - k ≤ m → k ≤ n + 1 → s_at T p n (s_lead0 T p hand n) k r → V G mR_lead 28 [(3, .int (nI k)), (2, .int (oI r)), (0, .ref o), (1, .int (nI n))] [] h 0 0 Q := by
    intro m
    induction m with
    | zero =>
      intro k r hm hk hO
      rcases hO with ⟨rfl, hW⟩ | ⟨e, rfl, he, hO⟩
      · show V G mR_lead 28 [(3, .int (nI k)), (2, .int (-1)), (0, .ref o), (1, .int (nI n))] [] h 0 0 Q
        refine V.iload_n dR_lead_28 rfl ?_
        refine V.iload_n dR_lead_29 rfl ?_
        refine V.icmp_gt (tgt := 81) dR_lead_30 (by decide) (fun c_30 => ?_) (fun c_30 => ?_)
        · skip
          refine V.iload_n dR_lead_81 rfl ?_
          refine V.if_lt (tgt := 112) dR_lead_82 (by decide) (fun c_82 => ?_) (fun c_82 => ?_)
          · try simp only [zz_m1lt, not_true_eq_false] at c_82
            refine V.iload_n dR_lead_112 rfl ?_
            refine V.ireturn dR_lead_113 rfl rfl ?_
            unfold s_lead at hQ; rw [if_neg (by omega), hW] at hQ; exact hQ
          · try simp only [zz_m1lt, not_true_eq_false] at c_82
            all_goals omega
        · skip
          refine V.iload_n dR_lead_33 rfl ?_
          refine V.if_lt (tgt := 81) dR_lead_34 (by decide) (fun c_34 => ?_) (fun c_34 => ?_)
          · try simp only [zz_m1lt, not_true_eq_false] at c_34
            refine V.iload_n dR_lead_81 rfl ?_
            refine V.if_lt (tgt := 112) dR_lead_82 (by decide) (fun c_82 => ?_) (fun c_82 => ?_)
            · try simp only [zz_m1lt, not_true_eq_false] at c_82
              refine V.iload_n dR_lead_112 rfl ?_
              refine V.ireturn dR_lead_113 rfl rfl ?_
              unfold s_lead at hQ; rw [if_neg (by omega), hW] at hQ; exact hQ
            · try simp only [zz_m1lt, not_true_eq_false] at c_82
              all_goals omega
          · try simp only [zz_m1lt, not_true_eq_false] at c_34
            all_goals omega
      · rcases hO with ⟨hkn, hW⟩ | ⟨hkn, hW⟩
        · omega
        · have hkd2e := hkd2 e he
          show V G mR_lead 28 [(3, .int (nI k)), (2, .int (nI e)), (0, .ref o), (1, .int (nI n))] [] h 0 0 Q
          refine V.iload_n dR_lead_28 rfl ?_
          refine V.iload_n dR_lead_29 rfl ?_
          refine V.icmp_gt (tgt := 81) dR_lead_30 (by decide) (fun c_30 => ?_) (fun c_30 => ?_)
          · try simp (disch := omega) only [nI_ltI, nI_leI, nI_eq, zz_lt0, zz_ge0, zz_gt0, zz_le0, zz_eq0, zz_m1lt, zz_m1ge, zz_m1eq, bI_eq0, decide_eq_false_iff_not, decide_eq_true_eq, Decidable.not_not, not_true_eq_false, not_false_eq_true, Nat.not_lt, Nat.not_le, Bool.not_eq_false, Bool.not_eq_true] at c_30
            refine V.iload_n dR_lead_81 rfl ?_
            refine V.if_lt (tgt := 112) dR_lead_82 (by decide) (fun c_82 => ?_) (fun c_82 => ?_)
            · try simp (disch := omega) only [nI_ltI, nI_leI, nI_eq, zz_lt0, zz_ge0, zz_gt0, zz_le0, zz_eq0, zz_m1lt, zz_m1ge, zz_m1eq, bI_eq0, decide_eq_false_iff_not, decide_eq_true_eq, Decidable.not_not, not_true_eq_false, not_false_eq_true, Nat.not_lt, Nat.not_le, Bool.not_eq_false, Bool.not_eq_true] at c_82
              all_goals omega
            · try simp (disch := omega) only [nI_ltI, nI_leI, nI_eq, zz_lt0, zz_ge0, zz_gt0, zz_le0, zz_eq0, zz_m1lt, zz_m1ge, zz_m1eq, bI_eq0, decide_eq_false_iff_not, decide_eq_true_eq, Decidable.not_not, not_true_eq_false, not_false_eq_true, Nat.not_lt, Nat.not_le, Bool.not_eq_false, Bool.not_eq_true] at c_82
              first | refine V.aload_n dR_lead_85 rfl ?_ | refine V.aload_nN dR_lead_85 rfl ?_
              refine V.getk dR_lead_86 (by omega) (by assumption) f_R_7_4 (by assumption) ?_
              refine V.iload_n dR_lead_89 rfl ?_
              refine V.iconst (v := (nI 1)) dR_lead_90 (by decide) ?_
              refine V.isubN dR_lead_91 (by omega) ?_
              have hpn := hp (n - 1) (by omega)
              refine V.ialoadN dR_lead_92 (by omega) (by assumption) (by omega) (hpp (n - 1) (by omega)) ?_
              refine V.bipush (v := (nI 47)) dR_lead_93 (by decide) ?_
              refine V.icmp_ne (tgt := 112) dR_lead_95 (by decide) (fun c_95 => ?_) (fun c_95 => ?_)
              · try simp (disch := omega) only [nI_ltI, nI_leI, nI_eq, zz_lt0, zz_ge0, zz_gt0, zz_le0, zz_eq0, zz_m1lt, zz_m1ge, zz_m1eq, bI_eq0, decide_eq_false_iff_not, decide_eq_true_eq, Decidable.not_not, not_true_eq_false, not_false_eq_true, Nat.not_lt, Nat.not_le, Bool.not_eq_false, Bool.not_eq_true] at c_95
                refine V.iload_n dR_lead_112 rfl ?_
                refine V.ireturn dR_lead_113 rfl rfl ?_
                unfold s_lead at hQ; rw [if_neg (by omega), hW] at hQ; dsimp only at hQ; first | (rw [if_neg (by omega)] at hQ; exact hQ) | (rw [if_pos (by omega)] at hQ; exact hQ)
              · try simp (disch := omega) only [nI_ltI, nI_leI, nI_eq, zz_lt0, zz_ge0, zz_gt0, zz_le0, zz_eq0, zz_m1lt, zz_m1ge, zz_m1eq, bI_eq0, decide_eq_false_iff_not, decide_eq_true_eq, Decidable.not_not, not_true_eq_false, not_false_eq_true, Nat.not_lt, Nat.not_le, Bool.not_eq_false, Bool.not_eq_true] at c_95
                first | refine V.aload_n dR_lead_98 rfl ?_ | refine V.aload_nN dR_lead_98 rfl ?_
                refine V.getk dR_lead_99 (by omega) (by assumption) f_R_13_4 (by assumption) ?_
                refine V.iload_n dR_lead_102 rfl ?_
                refine V.ialoadN dR_lead_103 (by omega) (by assumption) (by omega) (hkd e he) ?_
                refine V.iconst (v := (nI 2)) dR_lead_104 (by decide) ?_
                refine V.icmp_eq (tgt := 112) dR_lead_105 (by decide) (fun c_105 => ?_) (fun c_105 => ?_)
                · try simp (disch := omega) only [nI_ltI, nI_leI, nI_eq, zz_lt0, zz_ge0, zz_gt0, zz_le0, zz_eq0, zz_m1lt, zz_m1ge, zz_m1eq, bI_eq0, decide_eq_false_iff_not, decide_eq_true_eq, Decidable.not_not, not_true_eq_false, not_false_eq_true, Nat.not_lt, Nat.not_le, Bool.not_eq_false, Bool.not_eq_true] at c_105
                  refine V.iload_n dR_lead_112 rfl ?_
                  refine V.ireturn dR_lead_113 rfl rfl ?_
                  unfold s_lead at hQ; rw [if_neg (by omega), hW] at hQ; dsimp only at hQ; first | (rw [if_neg (by omega)] at hQ; exact hQ) | (rw [if_pos (by omega)] at hQ; exact hQ)
                · try simp (disch := omega) only [nI_ltI, nI_leI, nI_eq, zz_lt0, zz_ge0, zz_gt0, zz_le0, zz_eq0, zz_m1lt, zz_m1ge, zz_m1eq, bI_eq0, decide_eq_false_iff_not, decide_eq_true_eq, Decidable.not_not, not_true_eq_false, not_false_eq_true, Nat.not_lt, Nat.not_le, Bool.not_eq_false, Bool.not_eq_true] at c_105
                  refine V.iconst (v := (-1)) dR_lead_108 (by decide) ?_
                  refine V.goto (tgt := 113) dR_lead_109 (by decide) ?_
                  refine V.ireturn dR_lead_113 rfl rfl ?_
                  unfold s_lead at hQ; rw [if_neg (by omega), hW] at hQ; dsimp only at hQ; first | (rw [if_neg (by omega)] at hQ; exact hQ) | (rw [if_pos (by omega)] at hQ; exact hQ)
          · try simp (disch := omega) only [nI_ltI, nI_leI, nI_eq, zz_lt0, zz_ge0, zz_gt0, zz_le0, zz_eq0, zz_m1lt, zz_m1ge, zz_m1eq, bI_eq0, decide_eq_false_iff_not, decide_eq_true_eq, Decidable.not_not, not_true_eq_false, not_false_eq_true, Nat.not_lt, Nat.not_le, Bool.not_eq_false, Bool.not_eq_true] at c_30
            all_goals omega
    | succ m ih =>
      intro k r hm hk hO
      rcases hO with ⟨rfl, hW⟩ | ⟨e, rfl, he, hO⟩
      · show V G mR_lead 28 [(3, .int (nI k)), (2, .int (-1)), (0, .ref o), (1, .int (nI n))] [] h 0 0 Q
        refine V.iload_n dR_lead_28 rfl ?_
        refine V.iload_n dR_lead_29 rfl ?_
        refine V.icmp_gt (tgt := 81) dR_lead_30 (by decide) (fun c_30 => ?_) (fun c_30 => ?_)
        · skip
          refine V.iload_n dR_lead_81 rfl ?_
          refine V.if_lt (tgt := 112) dR_lead_82 (by decide) (fun c_82 => ?_) (fun c_82 => ?_)
          · try simp only [zz_m1lt, not_true_eq_false] at c_82
            refine V.iload_n dR_lead_112 rfl ?_
            refine V.ireturn dR_lead_113 rfl rfl ?_
            unfold s_lead at hQ; rw [if_neg (by omega), hW] at hQ; exact hQ
          · try simp only [zz_m1lt, not_true_eq_false] at c_82
            all_goals omega
        · skip
          refine V.iload_n dR_lead_33 rfl ?_
          refine V.if_lt (tgt := 81) dR_lead_34 (by decide) (fun c_34 => ?_) (fun c_34 => ?_)
          · try simp only [zz_m1lt, not_true_eq_false] at c_34
            refine V.iload_n dR_lead_81 rfl ?_
            refine V.if_lt (tgt := 112) dR_lead_82 (by decide) (fun c_82 => ?_) (fun c_82 => ?_)
            · try simp only [zz_m1lt, not_true_eq_false] at c_82
              refine V.iload_n dR_lead_112 rfl ?_
              refine V.ireturn dR_lead_113 rfl rfl ?_
              unfold s_lead at hQ; rw [if_neg (by omega), hW] at hQ; exact hQ
            · try simp only [zz_m1lt, not_true_eq_false] at c_82
              all_goals omega
          · try simp only [zz_m1lt, not_true_eq_false] at c_34
            all_goals omega
      · rcases hO with ⟨hkn, hW⟩ | ⟨hkn, hW⟩
        · show V G mR_lead 28 [(3, .int (nI k)), (2, .int (nI e)), (0, .ref o), (1, .int (nI n))] [] h 0 0 Q
          have inner : ∀ q x, x + q = n → k ≤ x → s_w T p (n - x) x k e = s_lead0 T p hand n → V G mR_lead 40 [(4, .int (nI x)), (3, .int (nI k)), (2, .int (nI e)), (0, .ref o), (1, .int (nI n))] [] h 0 0 Q := by
            intro q
            induction q with
            | zero =>
              intro x hq hk hw
              refine V.iload dR_lead_40 rfl ?_
              refine V.iload_n dR_lead_42 rfl ?_
              refine V.icmp_ge (tgt := 64) dR_lead_43 (by decide) (fun c_43 => ?_) (fun c_43 => ?_)
              · try simp (disch := omega) only [nI_ltI, nI_leI, nI_eq, zz_lt0, zz_ge0, zz_gt0, zz_le0, zz_eq0, zz_m1lt, zz_m1ge, zz_m1eq, bI_eq0, decide_eq_false_iff_not, decide_eq_true_eq, Decidable.not_not, not_true_eq_false, not_false_eq_true, Nat.not_lt, Nat.not_le, Bool.not_eq_false, Bool.not_eq_true] at c_43
                first | refine V.aload_n dR_lead_64 rfl ?_ | refine V.aload_nN dR_lead_64 rfl ?_
                refine V.iload_n dR_lead_65 rfl ?_
                refine V.iload_n dR_lead_66 rfl ?_
                refine V.iload dR_lead_67 rfl ?_
                refine V.callVk (kd := 4) 0 _ 0 _ [_, _, _] dR_lead_69 okR_along n_R_58 (by omega) (by assumption) rfl imR_along seR_along_R (by decide) (by decide) rfl rfl (Nat.le_of_ble_eq_true rfl) (Nat.le_of_ble_eq_true rfl) (Nat.le_of_eq (Nat.zero_add _)) (Nat.le_of_eq (Nat.zero_add _)) (kR_along hS hP hT he (by omega) (by omega) ?_)
                refine V.istore_n dR_lead_72 (by decide) ?_
                refine V.iload dR_lead_73 rfl ?_
                refine V.iconst (v := (nI 1)) dR_lead_75 (by decide) ?_
                refine V.iaddN dR_lead_76 ?_
                refine V.istore_n dR_lead_77 (by decide) ?_
                refine V.goto (tgt := 28) dR_lead_78 (by decide) ?_
                exact V.re [3, 2, 0, 1] rfl (ih (x + 1) (s_along T p e k x) (by omega) (by omega) (s_at_step hin2 he (by omega) hw (by omega)))
              · try simp (disch := omega) only [nI_ltI, nI_leI, nI_eq, zz_lt0, zz_ge0, zz_gt0, zz_le0, zz_eq0, zz_m1lt, zz_m1ge, zz_m1eq, bI_eq0, decide_eq_false_iff_not, decide_eq_true_eq, Decidable.not_not, not_true_eq_false, not_false_eq_true, Nat.not_lt, Nat.not_le, Bool.not_eq_false, Bool.not_eq_true] at c_43
                all_goals omega
            | succ q ihq =>
              intro x hq hk hw
              refine V.iload dR_lead_40 rfl ?_
              refine V.iload_n dR_lead_42 rfl ?_
              refine V.icmp_ge (tgt := 64) dR_lead_43 (by decide) (fun c_43 => ?_) (fun c_43 => ?_)
              · try simp (disch := omega) only [nI_ltI, nI_leI, nI_eq, zz_lt0, zz_ge0, zz_gt0, zz_le0, zz_eq0, zz_m1lt, zz_m1ge, zz_m1eq, bI_eq0, decide_eq_false_iff_not, decide_eq_true_eq, Decidable.not_not, not_true_eq_false, not_false_eq_true, Nat.not_lt, Nat.not_le, Bool.not_eq_false, Bool.not_eq_true] at c_43
                all_goals omega
              · try simp (disch := omega) only [nI_ltI, nI_leI, nI_eq, zz_lt0, zz_ge0, zz_gt0, zz_le0, zz_eq0, zz_m1lt, zz_m1ge, zz_m1eq, bI_eq0, decide_eq_false_iff_not, decide_eq_true_eq, Decidable.not_not, not_true_eq_false, not_false_eq_true, Nat.not_lt, Nat.not_le, Bool.not_eq_false, Bool.not_eq_true] at c_43
                first | refine V.aload_n dR_lead_46 rfl ?_ | refine V.aload_nN dR_lead_46 rfl ?_
                refine V.getk dR_lead_47 (by omega) (by assumption) f_R_7_4 (by assumption) ?_
                refine V.iload dR_lead_50 rfl ?_
                have hpt := hp x (by omega)
                refine V.ialoadN dR_lead_52 (by omega) (by assumption) (by omega) (hpp x (by omega)) ?_
                refine V.bipush (v := (nI 47)) dR_lead_53 (by decide) ?_
                refine V.icmp_eq (tgt := 64) dR_lead_55 (by decide) (fun c_55 => ?_) (fun c_55 => ?_)
                · try simp (disch := omega) only [nI_ltI, nI_leI, nI_eq, zz_lt0, zz_ge0, zz_gt0, zz_le0, zz_eq0, zz_m1lt, zz_m1ge, zz_m1eq, bI_eq0, decide_eq_false_iff_not, decide_eq_true_eq, Decidable.not_not, not_true_eq_false, not_false_eq_true, Nat.not_lt, Nat.not_le, Bool.not_eq_false, Bool.not_eq_true] at c_55
                  first | refine V.aload_n dR_lead_64 rfl ?_ | refine V.aload_nN dR_lead_64 rfl ?_
                  refine V.iload_n dR_lead_65 rfl ?_
                  refine V.iload_n dR_lead_66 rfl ?_
                  refine V.iload dR_lead_67 rfl ?_
                  refine V.callVk (kd := 4) 0 _ 0 _ [_, _, _] dR_lead_69 okR_along n_R_58 (by omega) (by assumption) rfl imR_along seR_along_R (by decide) (by decide) rfl rfl (Nat.le_of_ble_eq_true rfl) (Nat.le_of_ble_eq_true rfl) (Nat.le_of_eq (Nat.zero_add _)) (Nat.le_of_eq (Nat.zero_add _)) (kR_along hS hP hT he (by omega) (by omega) ?_)
                  refine V.istore_n dR_lead_72 (by decide) ?_
                  refine V.iload dR_lead_73 rfl ?_
                  refine V.iconst (v := (nI 1)) dR_lead_75 (by decide) ?_
                  refine V.iaddN dR_lead_76 ?_
                  refine V.istore_n dR_lead_77 (by decide) ?_
                  refine V.goto (tgt := 28) dR_lead_78 (by decide) ?_
                  exact V.re [3, 2, 0, 1] rfl (ih (x + 1) (s_along T p e k x) (by omega) (by omega) (s_at_step hin2 he (by omega) hw (by omega)))
                · try simp (disch := omega) only [nI_ltI, nI_leI, nI_eq, zz_lt0, zz_ge0, zz_gt0, zz_le0, zz_eq0, zz_m1lt, zz_m1ge, zz_m1eq, bI_eq0, decide_eq_false_iff_not, decide_eq_true_eq, Decidable.not_not, not_true_eq_false, not_false_eq_true, Nat.not_lt, Nat.not_le, Bool.not_eq_false, Bool.not_eq_true] at c_55
                  refine V.iincN dR_lead_58 rfl (by decide) ?_
                  refine V.goto (tgt := 40) dR_lead_61 (by decide) ?_
                  exact ihq (x + 1) (by omega) (by omega) (s_w_skip (by omega) hw c_55)
          refine V.iload_n dR_lead_28 rfl ?_
          refine V.iload_n dR_lead_29 rfl ?_
          refine V.icmp_gt (tgt := 81) dR_lead_30 (by decide) (fun c_30 => ?_) (fun c_30 => ?_)
          · try simp (disch := omega) only [nI_ltI, nI_leI, nI_eq, zz_lt0, zz_ge0, zz_gt0, zz_le0, zz_eq0, zz_m1lt, zz_m1ge, zz_m1eq, bI_eq0, decide_eq_false_iff_not, decide_eq_true_eq, Decidable.not_not, not_true_eq_false, not_false_eq_true, Nat.not_lt, Nat.not_le, Bool.not_eq_false, Bool.not_eq_true] at c_30
            all_goals omega
          · try simp (disch := omega) only [nI_ltI, nI_leI, nI_eq, zz_lt0, zz_ge0, zz_gt0, zz_le0, zz_eq0, zz_m1lt, zz_m1ge, zz_m1eq, bI_eq0, decide_eq_false_iff_not, decide_eq_true_eq, Decidable.not_not, not_true_eq_false, not_false_eq_true, Nat.not_lt, Nat.not_le, Bool.not_eq_false, Bool.not_eq_true] at c_30
            refine V.iload_n dR_lead_33 rfl ?_
            refine V.if_lt (tgt := 81) dR_lead_34 (by decide) (fun c_34 => ?_) (fun c_34 => ?_)
            · try simp (disch := omega) only [nI_ltI, nI_leI, nI_eq, zz_lt0, zz_ge0, zz_gt0, zz_le0, zz_eq0, zz_m1lt, zz_m1ge, zz_m1eq, bI_eq0, decide_eq_false_iff_not, decide_eq_true_eq, Decidable.not_not, not_true_eq_false, not_false_eq_true, Nat.not_lt, Nat.not_le, Bool.not_eq_false, Bool.not_eq_true] at c_34
              all_goals omega
            · try simp (disch := omega) only [nI_ltI, nI_leI, nI_eq, zz_lt0, zz_ge0, zz_gt0, zz_le0, zz_eq0, zz_m1lt, zz_m1ge, zz_m1eq, bI_eq0, decide_eq_false_iff_not, decide_eq_true_eq, Decidable.not_not, not_true_eq_false, not_false_eq_true, Nat.not_lt, Nat.not_le, Bool.not_eq_false, Bool.not_eq_true] at c_34
              refine V.iload_n dR_lead_37 rfl ?_
              refine V.istore dR_lead_38 (by decide) ?_
              exact inner (n - k) k (by omega) (Nat.le_refl _) hW
        · have hkd2e := hkd2 e he
          show V G mR_lead 28 [(3, .int (nI k)), (2, .int (nI e)), (0, .ref o), (1, .int (nI n))] [] h 0 0 Q
          refine V.iload_n dR_lead_28 rfl ?_
          refine V.iload_n dR_lead_29 rfl ?_
          refine V.icmp_gt (tgt := 81) dR_lead_30 (by decide) (fun c_30 => ?_) (fun c_30 => ?_)
          · try simp (disch := omega) only [nI_ltI, nI_leI, nI_eq, zz_lt0, zz_ge0, zz_gt0, zz_le0, zz_eq0, zz_m1lt, zz_m1ge, zz_m1eq, bI_eq0, decide_eq_false_iff_not, decide_eq_true_eq, Decidable.not_not, not_true_eq_false, not_false_eq_true, Nat.not_lt, Nat.not_le, Bool.not_eq_false, Bool.not_eq_true] at c_30
            refine V.iload_n dR_lead_81 rfl ?_
            refine V.if_lt (tgt := 112) dR_lead_82 (by decide) (fun c_82 => ?_) (fun c_82 => ?_)
            · try simp (disch := omega) only [nI_ltI, nI_leI, nI_eq, zz_lt0, zz_ge0, zz_gt0, zz_le0, zz_eq0, zz_m1lt, zz_m1ge, zz_m1eq, bI_eq0, decide_eq_false_iff_not, decide_eq_true_eq, Decidable.not_not, not_true_eq_false, not_false_eq_true, Nat.not_lt, Nat.not_le, Bool.not_eq_false, Bool.not_eq_true] at c_82
              all_goals omega
            · try simp (disch := omega) only [nI_ltI, nI_leI, nI_eq, zz_lt0, zz_ge0, zz_gt0, zz_le0, zz_eq0, zz_m1lt, zz_m1ge, zz_m1eq, bI_eq0, decide_eq_false_iff_not, decide_eq_true_eq, Decidable.not_not, not_true_eq_false, not_false_eq_true, Nat.not_lt, Nat.not_le, Bool.not_eq_false, Bool.not_eq_true] at c_82
              first | refine V.aload_n dR_lead_85 rfl ?_ | refine V.aload_nN dR_lead_85 rfl ?_
              refine V.getk dR_lead_86 (by omega) (by assumption) f_R_7_4 (by assumption) ?_
              refine V.iload_n dR_lead_89 rfl ?_
              refine V.iconst (v := (nI 1)) dR_lead_90 (by decide) ?_
              refine V.isubN dR_lead_91 (by omega) ?_
              have hpn := hp (n - 1) (by omega)
              refine V.ialoadN dR_lead_92 (by omega) (by assumption) (by omega) (hpp (n - 1) (by omega)) ?_
              refine V.bipush (v := (nI 47)) dR_lead_93 (by decide) ?_
              refine V.icmp_ne (tgt := 112) dR_lead_95 (by decide) (fun c_95 => ?_) (fun c_95 => ?_)
              · try simp (disch := omega) only [nI_ltI, nI_leI, nI_eq, zz_lt0, zz_ge0, zz_gt0, zz_le0, zz_eq0, zz_m1lt, zz_m1ge, zz_m1eq, bI_eq0, decide_eq_false_iff_not, decide_eq_true_eq, Decidable.not_not, not_true_eq_false, not_false_eq_true, Nat.not_lt, Nat.not_le, Bool.not_eq_false, Bool.not_eq_true] at c_95
                refine V.iload_n dR_lead_112 rfl ?_
                refine V.ireturn dR_lead_113 rfl rfl ?_
                unfold s_lead at hQ; rw [if_neg (by omega), hW] at hQ; dsimp only at hQ; first | (rw [if_neg (by omega)] at hQ; exact hQ) | (rw [if_pos (by omega)] at hQ; exact hQ)
              · try simp (disch := omega) only [nI_ltI, nI_leI, nI_eq, zz_lt0, zz_ge0, zz_gt0, zz_le0, zz_eq0, zz_m1lt, zz_m1ge, zz_m1eq, bI_eq0, decide_eq_false_iff_not, decide_eq_true_eq, Decidable.not_not, not_true_eq_false, not_false_eq_true, Nat.not_lt, Nat.not_le, Bool.not_eq_false, Bool.not_eq_true] at c_95
                first | refine V.aload_n dR_lead_98 rfl ?_ | refine V.aload_nN dR_lead_98 rfl ?_
                refine V.getk dR_lead_99 (by omega) (by assumption) f_R_13_4 (by assumption) ?_
                refine V.iload_n dR_lead_102 rfl ?_
                refine V.ialoadN dR_lead_103 (by omega) (by assumption) (by omega) (hkd e he) ?_
                refine V.iconst (v := (nI 2)) dR_lead_104 (by decide) ?_
                refine V.icmp_eq (tgt := 112) dR_lead_105 (by decide) (fun c_105 => ?_) (fun c_105 => ?_)
                · try simp (disch := omega) only [nI_ltI, nI_leI, nI_eq, zz_lt0, zz_ge0, zz_gt0, zz_le0, zz_eq0, zz_m1lt, zz_m1ge, zz_m1eq, bI_eq0, decide_eq_false_iff_not, decide_eq_true_eq, Decidable.not_not, not_true_eq_false, not_false_eq_true, Nat.not_lt, Nat.not_le, Bool.not_eq_false, Bool.not_eq_true] at c_105
                  refine V.iload_n dR_lead_112 rfl ?_
                  refine V.ireturn dR_lead_113 rfl rfl ?_
                  unfold s_lead at hQ; rw [if_neg (by omega), hW] at hQ; dsimp only at hQ; first | (rw [if_neg (by omega)] at hQ; exact hQ) | (rw [if_pos (by omega)] at hQ; exact hQ)
                · try simp (disch := omega) only [nI_ltI, nI_leI, nI_eq, zz_lt0, zz_ge0, zz_gt0, zz_le0, zz_eq0, zz_m1lt, zz_m1ge, zz_m1eq, bI_eq0, decide_eq_false_iff_not, decide_eq_true_eq, Decidable.not_not, not_true_eq_false, not_false_eq_true, Nat.not_lt, Nat.not_le, Bool.not_eq_false, Bool.not_eq_true] at c_105
                  refine V.iconst (v := (-1)) dR_lead_108 (by decide) ?_
                  refine V.goto (tgt := 113) dR_lead_109 (by decide) ?_
                  refine V.ireturn dR_lead_113 rfl rfl ?_
                  unfold s_lead at hQ; rw [if_neg (by omega), hW] at hQ; dsimp only at hQ; first | (rw [if_neg (by omega)] at hQ; exact hQ) | (rw [if_pos (by omega)] at hQ; exact hQ)
          · try simp (disch := omega) only [nI_ltI, nI_leI, nI_eq, zz_lt0, zz_ge0, zz_gt0, zz_le0, zz_eq0, zz_m1lt, zz_m1ge, zz_m1eq, bI_eq0, decide_eq_false_iff_not, decide_eq_true_eq, Decidable.not_not, not_true_eq_false, not_false_eq_true, Nat.not_lt, Nat.not_le, Bool.not_eq_false, Bool.not_eq_true] at c_30
            all_goals omega
  have hp0 := hp 0 (by omega)
  refine V.iload_n dR_lead_0 rfl ?_
  refine V.if_ne (tgt := 6) dR_lead_1 (by decide) (fun c_1 => ?_) (fun c_1 => ?_)
  · try simp (disch := omega) only [nI_ltI, nI_leI, nI_eq, zz_lt0, zz_ge0, zz_gt0, zz_le0, zz_eq0, zz_m1lt, zz_m1ge, zz_m1eq, bI_eq0, decide_eq_false_iff_not, decide_eq_true_eq, Decidable.not_not, not_true_eq_false, not_false_eq_true, Nat.not_lt, Nat.not_le, Bool.not_eq_false, Bool.not_eq_true] at c_1
    first | refine V.aload_n dR_lead_6 rfl ?_ | refine V.aload_nN dR_lead_6 rfl ?_
    refine V.getk dR_lead_7 (by omega) (by assumption) f_R_7_4 (by assumption) ?_
    refine V.iconst (v := (nI 0)) dR_lead_10 (by decide) ?_
    refine V.ialoadN dR_lead_11 (by omega) (by assumption) (by omega) (hpp 0 (by omega)) ?_
    refine V.bipush (v := (nI 47)) dR_lead_12 (by decide) ?_
    refine V.icmp_ne (tgt := 21) dR_lead_14 (by decide) (fun c_14 => ?_) (fun c_14 => ?_)
    · try simp (disch := omega) only [nI_ltI, nI_leI, nI_eq, zz_lt0, zz_ge0, zz_gt0, zz_le0, zz_eq0, zz_m1lt, zz_m1ge, zz_m1eq, bI_eq0, decide_eq_false_iff_not, decide_eq_true_eq, Decidable.not_not, not_true_eq_false, not_false_eq_true, Nat.not_lt, Nat.not_le, Bool.not_eq_false, Bool.not_eq_true] at c_14
      first | refine V.aload_n dR_lead_21 rfl ?_ | refine V.aload_nN dR_lead_21 rfl ?_
      refine V.getk dR_lead_22 (by omega) (by assumption) f_R_55_4 (by assumption) ?_
      refine V.istore_n dR_lead_25 (by decide) ?_
      refine V.iconst (v := (nI 0)) dR_lead_26 (by decide) ?_
      refine V.istore_n dR_lead_27 (by decide) ?_
      first | exact outer (n + 1) 0 (some 0) (by omega) (by omega) (Or.inr ⟨0, rfl, by omega, Or.inl ⟨by omega, by unfold s_lead0; rw [if_pos (by omega), Nat.sub_zero]⟩⟩) | exact outer (n + 1) 0 (some hand) (by omega) (by omega) (Or.inr ⟨hand, rfl, by omega, Or.inl ⟨by omega, by unfold s_lead0; rw [if_neg (by omega), Nat.sub_zero]⟩⟩)
    · try simp (disch := omega) only [nI_ltI, nI_leI, nI_eq, zz_lt0, zz_ge0, zz_gt0, zz_le0, zz_eq0, zz_m1lt, zz_m1ge, zz_m1eq, bI_eq0, decide_eq_false_iff_not, decide_eq_true_eq, Decidable.not_not, not_true_eq_false, not_false_eq_true, Nat.not_lt, Nat.not_le, Bool.not_eq_false, Bool.not_eq_true] at c_14
      refine V.iconst (v := (nI 0)) dR_lead_17 (by decide) ?_
      refine V.goto (tgt := 25) dR_lead_18 (by decide) ?_
      refine V.istore_n dR_lead_25 (by decide) ?_
      refine V.iconst (v := (nI 0)) dR_lead_26 (by decide) ?_
      refine V.istore_n dR_lead_27 (by decide) ?_
      first | exact outer (n + 1) 0 (some 0) (by omega) (by omega) (Or.inr ⟨0, rfl, by omega, Or.inl ⟨by omega, by unfold s_lead0; rw [if_pos (by omega), Nat.sub_zero]⟩⟩) | exact outer (n + 1) 0 (some hand) (by omega) (by omega) (Or.inr ⟨hand, rfl, by omega, Or.inl ⟨by omega, by unfold s_lead0; rw [if_neg (by omega), Nat.sub_zero]⟩⟩)
  · try simp (disch := omega) only [nI_ltI, nI_leI, nI_eq, zz_lt0, zz_ge0, zz_gt0, zz_le0, zz_eq0, zz_m1lt, zz_m1ge, zz_m1eq, bI_eq0, decide_eq_false_iff_not, decide_eq_true_eq, Decidable.not_not, not_true_eq_false, not_false_eq_true, Nat.not_lt, Nat.not_le, Bool.not_eq_false, Bool.not_eq_true] at c_1
    all_goals omega
theorem s_home_lead {T : TT} {p : Nat → Nat} {hand len : Nat} (hk : 1 < s_last p len) : s_home T p hand len = s_dir T (s_lead T p hand (s_last p len - 1)) := by
  unfold s_home s_lead
  rw [if_neg (by omega), if_neg (by omega)]
  cases s_lead0 T p hand (s_last p len - 1) with
  | none => rfl
  | some e =>
    show s_dir T (some e) = s_dir T (if p (s_last p len - 1 - 1) = 47 ∧ T.1 e ≠ 2 then none else some e)
    split
    · next hq => simp only [s_dir]; rw [if_neg hq.2]
    · rfl
theorem s_home_one {T : TT} {p : Nat → Nat} {hand len : Nat} (hk : s_last p len = 1) : s_home T p hand len = s_dir T (some 0) := by
  have hs := s_last_slash p len (by omega)
  unfold s_home s_lead0
  rw [if_neg (by omega), hk]
  rw [hk] at hs
  simp only [Nat.sub_self, s_w] at hs ⊢
  rw [if_pos hs]
  unfold s_along
  rw [if_pos rfl]
theorem s_home_zero {T : TT} {p : Nat → Nat} {hand len : Nat} (hk : s_last p len = 0) (hd : T.1 hand = 2) : s_home T p hand len = s_dir T (some hand) := by
  unfold s_home s_dir
  rw [if_pos hk]
  dsimp only
  rw [if_pos hd]
set_option maxHeartbeats 4000000 in
set_option maxRecDepth 100000 in
/-- PathTreeModel.home -/
theorem kR_home {G : GG} {h : HH} {o : Nat} {p : Nat → Nat} {len : Nat} {Q : Option Value → HH → Prop} {T : TT} {hand : Nat} (hS : RS G h o) (hP : RP h o p len) (hT : RT h o T) (hH : h.2.1 o 8 = .int (nI hand) ∧ hand < 300) (hhd : T.1 hand = 2) (hQ : Q (some (.int (oI (s_home T p hand len)))) h) : V G mR_home 0 (lv_args 0 [.ref o]) [] h 0 0 Q := by
  obtain ⟨hz, hk0, hk1, hk2, hk3, hk4, hk5, hk6, hk7, hk8, hf0, hf2, hf3, hf4, hf5, hf6, hf12, hf13⟩ := id hS
  obtain ⟨hln, hpp, hl2, hp⟩ := id hP
  obtain ⟨hkd, hkd2, hin, hin2, hns, hns2, hnm, hnm2⟩ := id hT
  have hhand : h.2.1 o 8 = .int (nI hand) := hH.1
  have hhl : hand < 300 := hH.2
  have hll := s_last_le p len
  have hk00 := hkd2 0 (by omega)
  by_cases q0 : s_last p len = 0
  · have hl0 := s_home_zero (T := T) (p := p) q0 hhd
    first | refine V.aload_n dR_home_0 rfl ?_ | refine V.aload_nN dR_home_0 rfl ?_
    refine V.callVk (kd := 4) 0 _ 0 _ [] dR_home_1 okR_last n_R_61 (by omega) (by assumption) rfl imR_last seR_last_R (by decide) (by decide) rfl rfl (Nat.le_of_ble_eq_true rfl) (Nat.le_of_ble_eq_true rfl) (Nat.le_of_eq (Nat.zero_add _)) (Nat.le_of_eq (Nat.zero_add _)) (kR_last hS hP ?_)
    refine V.istore_n dR_home_4 (by decide) ?_
    refine V.iload_n dR_home_5 rfl ?_
    refine V.if_ne (tgt := 16) dR_home_6 (by decide) (fun c_6 => ?_) (fun c_6 => ?_)
    · try simp (disch := omega) only [nI_ltI, nI_leI, nI_eq, zz_lt0, zz_ge0, zz_gt0, zz_le0, zz_eq0, zz_m1lt, zz_m1ge, zz_m1eq, bI_eq0, decide_eq_false_iff_not, decide_eq_true_eq, Decidable.not_not, not_true_eq_false, not_false_eq_true, Nat.not_lt, Nat.not_le, Bool.not_eq_false, Bool.not_eq_true] at c_6
      all_goals omega
    · try simp (disch := omega) only [nI_ltI, nI_leI, nI_eq, zz_lt0, zz_ge0, zz_gt0, zz_le0, zz_eq0, zz_m1lt, zz_m1ge, zz_m1eq, bI_eq0, decide_eq_false_iff_not, decide_eq_true_eq, Decidable.not_not, not_true_eq_false, not_false_eq_true, Nat.not_lt, Nat.not_le, Bool.not_eq_false, Bool.not_eq_true] at c_6
      first | refine V.aload_n dR_home_9 rfl ?_ | refine V.aload_nN dR_home_9 rfl ?_
      refine V.getk dR_home_10 (by omega) (by assumption) f_R_55_4 (by assumption) ?_
      refine V.goto (tgt := 32) dR_home_13 (by decide) ?_
      refine V.istore_n dR_home_32 (by decide) ?_
      refine V.iload_n dR_home_33 rfl ?_
      refine V.if_lt (tgt := 51) dR_home_34 (by decide) (fun c_34 => ?_) (fun c_34 => ?_)
      · try simp (disch := omega) only [nI_ltI, nI_leI, nI_eq, zz_lt0, zz_ge0, zz_gt0, zz_le0, zz_eq0, zz_m1lt, zz_m1ge, zz_m1eq, bI_eq0, decide_eq_false_iff_not, decide_eq_true_eq, Decidable.not_not, not_true_eq_false, not_false_eq_true, Nat.not_lt, Nat.not_le, Bool.not_eq_false, Bool.not_eq_true] at c_34
        all_goals omega
      · try simp (disch := omega) only [nI_ltI, nI_leI, nI_eq, zz_lt0, zz_ge0, zz_gt0, zz_le0, zz_eq0, zz_m1lt, zz_m1ge, zz_m1eq, bI_eq0, decide_eq_false_iff_not, decide_eq_true_eq, Decidable.not_not, not_true_eq_false, not_false_eq_true, Nat.not_lt, Nat.not_le, Bool.not_eq_false, Bool.not_eq_true] at c_34
        first | refine V.aload_n dR_home_37 rfl ?_ | refine V.aload_nN dR_home_37 rfl ?_
        refine V.getk dR_home_38 (by omega) (by assumption) f_R_13_4 (by assumption) ?_
        refine V.iload_n dR_home_41 rfl ?_
        refine V.ialoadN dR_home_42 (by omega) (by assumption) (by omega) (hkd hand hhl) ?_
        refine V.iconst (v := (nI 2)) dR_home_43 (by decide) ?_
        refine V.icmp_ne (tgt := 51) dR_home_44 (by decide) (fun c_44 => ?_) (fun c_44 => ?_)
        · try simp (disch := omega) only [nI_ltI, nI_leI, nI_eq, zz_lt0, zz_ge0, zz_gt0, zz_le0, zz_eq0, zz_m1lt, zz_m1ge, zz_m1eq, bI_eq0, decide_eq_false_iff_not, decide_eq_true_eq, Decidable.not_not, not_true_eq_false, not_false_eq_true, Nat.not_lt, Nat.not_le, Bool.not_eq_false, Bool.not_eq_true] at c_44
          refine V.iconst (v := (-1)) dR_home_51 (by decide) ?_
          refine V.ireturn dR_home_52 rfl rfl ?_
          rw [hl0] at hQ; simp only [s_dir] at hQ; first | (rw [if_pos (by omega)] at hQ; exact hQ) | (rw [if_neg (by omega)] at hQ; exact hQ)
        · try simp (disch := omega) only [nI_ltI, nI_leI, nI_eq, zz_lt0, zz_ge0, zz_gt0, zz_le0, zz_eq0, zz_m1lt, zz_m1ge, zz_m1eq, bI_eq0, decide_eq_false_iff_not, decide_eq_true_eq, Decidable.not_not, not_true_eq_false, not_false_eq_true, Nat.not_lt, Nat.not_le, Bool.not_eq_false, Bool.not_eq_true] at c_44
          refine V.iload_n dR_home_47 rfl ?_
          refine V.goto (tgt := 52) dR_home_48 (by decide) ?_
          refine V.ireturn dR_home_52 rfl rfl ?_
          rw [hl0] at hQ; simp only [s_dir] at hQ; first | (rw [if_pos (by omega)] at hQ; exact hQ) | (rw [if_neg (by omega)] at hQ; exact hQ)
  · by_cases q1 : s_last p len = 1
    · have hl1 := s_home_one (T := T) (p := p) (hand := hand) q1
      first | refine V.aload_n dR_home_0 rfl ?_ | refine V.aload_nN dR_home_0 rfl ?_
      refine V.callVk (kd := 4) 0 _ 0 _ [] dR_home_1 okR_last n_R_61 (by omega) (by assumption) rfl imR_last seR_last_R (by decide) (by decide) rfl rfl (Nat.le_of_ble_eq_true rfl) (Nat.le_of_ble_eq_true rfl) (Nat.le_of_eq (Nat.zero_add _)) (Nat.le_of_eq (Nat.zero_add _)) (kR_last hS hP ?_)
      refine V.istore_n dR_home_4 (by decide) ?_
      refine V.iload_n dR_home_5 rfl ?_
      refine V.if_ne (tgt := 16) dR_home_6 (by decide) (fun c_6 => ?_) (fun c_6 => ?_)
      · try simp (disch := omega) only [nI_ltI, nI_leI, nI_eq, zz_lt0, zz_ge0, zz_gt0, zz_le0, zz_eq0, zz_m1lt, zz_m1ge, zz_m1eq, bI_eq0, decide_eq_false_iff_not, decide_eq_true_eq, Decidable.not_not, not_true_eq_false, not_false_eq_true, Nat.not_lt, Nat.not_le, Bool.not_eq_false, Bool.not_eq_true] at c_6
        refine V.iload_n dR_home_16 rfl ?_
        refine V.iconst (v := (nI 1)) dR_home_17 (by decide) ?_
        refine V.icmp_ne (tgt := 25) dR_home_18 (by decide) (fun c_18 => ?_) (fun c_18 => ?_)
        · try simp (disch := omega) only [nI_ltI, nI_leI, nI_eq, zz_lt0, zz_ge0, zz_gt0, zz_le0, zz_eq0, zz_m1lt, zz_m1ge, zz_m1eq, bI_eq0, decide_eq_false_iff_not, decide_eq_true_eq, Decidable.not_not, not_true_eq_false, not_false_eq_true, Nat.not_lt, Nat.not_le, Bool.not_eq_false, Bool.not_eq_true] at c_18
          all_goals omega
        · try simp (disch := omega) only [nI_ltI, nI_leI, nI_eq, zz_lt0, zz_ge0, zz_gt0, zz_le0, zz_eq0, zz_m1lt, zz_m1ge, zz_m1eq, bI_eq0, decide_eq_false_iff_not, decide_eq_true_eq, Decidable.not_not, not_true_eq_false, not_false_eq_true, Nat.not_lt, Nat.not_le, Bool.not_eq_false, Bool.not_eq_true] at c_18
          refine V.iconst (v := (nI 0)) dR_home_21 (by decide) ?_
          refine V.goto (tgt := 32) dR_home_22 (by decide) ?_
          refine V.istore_n dR_home_32 (by decide) ?_
          refine V.iload_n dR_home_33 rfl ?_
          refine V.if_lt (tgt := 51) dR_home_34 (by decide) (fun c_34 => ?_) (fun c_34 => ?_)
          · try simp (disch := omega) only [nI_ltI, nI_leI, nI_eq, zz_lt0, zz_ge0, zz_gt0, zz_le0, zz_eq0, zz_m1lt, zz_m1ge, zz_m1eq, bI_eq0, decide_eq_false_iff_not, decide_eq_true_eq, Decidable.not_not, not_true_eq_false, not_false_eq_true, Nat.not_lt, Nat.not_le, Bool.not_eq_false, Bool.not_eq_true] at c_34
            all_goals omega
          · try simp (disch := omega) only [nI_ltI, nI_leI, nI_eq, zz_lt0, zz_ge0, zz_gt0, zz_le0, zz_eq0, zz_m1lt, zz_m1ge, zz_m1eq, bI_eq0, decide_eq_false_iff_not, decide_eq_true_eq, Decidable.not_not, not_true_eq_false, not_false_eq_true, Nat.not_lt, Nat.not_le, Bool.not_eq_false, Bool.not_eq_true] at c_34
            first | refine V.aload_n dR_home_37 rfl ?_ | refine V.aload_nN dR_home_37 rfl ?_
            refine V.getk dR_home_38 (by omega) (by assumption) f_R_13_4 (by assumption) ?_
            refine V.iload_n dR_home_41 rfl ?_
            refine V.ialoadN dR_home_42 (by omega) (by assumption) (by omega) (hkd 0 (by omega)) ?_
            refine V.iconst (v := (nI 2)) dR_home_43 (by decide) ?_
            refine V.icmp_ne (tgt := 51) dR_home_44 (by decide) (fun c_44 => ?_) (fun c_44 => ?_)
            · try simp (disch := omega) only [nI_ltI, nI_leI, nI_eq, zz_lt0, zz_ge0, zz_gt0, zz_le0, zz_eq0, zz_m1lt, zz_m1ge, zz_m1eq, bI_eq0, decide_eq_false_iff_not, decide_eq_true_eq, Decidable.not_not, not_true_eq_false, not_false_eq_true, Nat.not_lt, Nat.not_le, Bool.not_eq_false, Bool.not_eq_true] at c_44
              refine V.iconst (v := (-1)) dR_home_51 (by decide) ?_
              refine V.ireturn dR_home_52 rfl rfl ?_
              rw [hl1] at hQ; simp only [s_dir] at hQ; first | (rw [if_pos (by omega)] at hQ; exact hQ) | (rw [if_neg (by omega)] at hQ; exact hQ)
            · try simp (disch := omega) only [nI_ltI, nI_leI, nI_eq, zz_lt0, zz_ge0, zz_gt0, zz_le0, zz_eq0, zz_m1lt, zz_m1ge, zz_m1eq, bI_eq0, decide_eq_false_iff_not, decide_eq_true_eq, Decidable.not_not, not_true_eq_false, not_false_eq_true, Nat.not_lt, Nat.not_le, Bool.not_eq_false, Bool.not_eq_true] at c_44
              refine V.iload_n dR_home_47 rfl ?_
              refine V.goto (tgt := 52) dR_home_48 (by decide) ?_
              refine V.ireturn dR_home_52 rfl rfl ?_
              rw [hl1] at hQ; simp only [s_dir] at hQ; first | (rw [if_pos (by omega)] at hQ; exact hQ) | (rw [if_neg (by omega)] at hQ; exact hQ)
      · try simp (disch := omega) only [nI_ltI, nI_leI, nI_eq, zz_lt0, zz_ge0, zz_gt0, zz_le0, zz_eq0, zz_m1lt, zz_m1ge, zz_m1eq, bI_eq0, decide_eq_false_iff_not, decide_eq_true_eq, Decidable.not_not, not_true_eq_false, not_false_eq_true, Nat.not_lt, Nat.not_le, Bool.not_eq_false, Bool.not_eq_true] at c_6
        all_goals omega
    · have hl2' := s_home_lead (T := T) (p := p) (hand := hand) (len := len) (by omega)
      cases hr : s_lead T p hand (s_last p len - 1) with
      | none =>
        rw [hr] at hl2'
        first | refine V.aload_n dR_home_0 rfl ?_ | refine V.aload_nN dR_home_0 rfl ?_
        refine V.callVk (kd := 4) 0 _ 0 _ [] dR_home_1 okR_last n_R_61 (by omega) (by assumption) rfl imR_last seR_last_R (by decide) (by decide) rfl rfl (Nat.le_of_ble_eq_true rfl) (Nat.le_of_ble_eq_true rfl) (Nat.le_of_eq (Nat.zero_add _)) (Nat.le_of_eq (Nat.zero_add _)) (kR_last hS hP ?_)
        refine V.istore_n dR_home_4 (by decide) ?_
        refine V.iload_n dR_home_5 rfl ?_
        refine V.if_ne (tgt := 16) dR_home_6 (by decide) (fun c_6 => ?_) (fun c_6 => ?_)
        · try simp (disch := omega) only [nI_ltI, nI_leI, nI_eq, zz_lt0, zz_ge0, zz_gt0, zz_le0, zz_eq0, zz_m1lt, zz_m1ge, zz_m1eq, bI_eq0, decide_eq_false_iff_not, decide_eq_true_eq, Decidable.not_not, not_true_eq_false, not_false_eq_true, Nat.not_lt, Nat.not_le, Bool.not_eq_false, Bool.not_eq_true] at c_6
          refine V.iload_n dR_home_16 rfl ?_
          refine V.iconst (v := (nI 1)) dR_home_17 (by decide) ?_
          refine V.icmp_ne (tgt := 25) dR_home_18 (by decide) (fun c_18 => ?_) (fun c_18 => ?_)
          · try simp (disch := omega) only [nI_ltI, nI_leI, nI_eq, zz_lt0, zz_ge0, zz_gt0, zz_le0, zz_eq0, zz_m1lt, zz_m1ge, zz_m1eq, bI_eq0, decide_eq_false_iff_not, decide_eq_true_eq, Decidable.not_not, not_true_eq_false, not_false_eq_true, Nat.not_lt, Nat.not_le, Bool.not_eq_false, Bool.not_eq_true] at c_18
            first | refine V.aload_n dR_home_25 rfl ?_ | refine V.aload_nN dR_home_25 rfl ?_
            refine V.iload_n dR_home_26 rfl ?_
            refine V.iconst (v := (nI 1)) dR_home_27 (by decide) ?_
            refine V.isubN dR_home_28 (by omega) ?_
            refine V.callVk (kd := 4) 0 _ 0 _ [_] dR_home_29 okR_lead n_R_65 (by omega) (by assumption) rfl imR_lead seR_lead_R (by decide) (by decide) rfl rfl (Nat.le_of_ble_eq_true rfl) (Nat.le_of_ble_eq_true rfl) (Nat.le_of_eq (Nat.zero_add _)) (Nat.le_of_eq (Nat.zero_add _)) (kR_lead hS hP hT hH (by omega) ?_)
            rw [hr]
            show V G mR_home 32 _ [.int (-1)] h 0 0 Q
            refine V.istore_n dR_home_32 (by decide) ?_
            refine V.iload_n dR_home_33 rfl ?_
            refine V.if_lt (tgt := 51) dR_home_34 (by decide) (fun c_34 => ?_) (fun c_34 => ?_)
            · try simp only [zz_m1lt, not_true_eq_false] at c_34
              refine V.iconst (v := (-1)) dR_home_51 (by decide) ?_
              refine V.ireturn dR_home_52 rfl rfl ?_
              rw [hl2'] at hQ; exact hQ
            · try simp only [zz_m1lt, not_true_eq_false] at c_34
              all_goals omega
          · try simp (disch := omega) only [nI_ltI, nI_leI, nI_eq, zz_lt0, zz_ge0, zz_gt0, zz_le0, zz_eq0, zz_m1lt, zz_m1ge, zz_m1eq, bI_eq0, decide_eq_false_iff_not, decide_eq_true_eq, Decidable.not_not, not_true_eq_false, not_false_eq_true, Nat.not_lt, Nat.not_le, Bool.not_eq_false, Bool.not_eq_true] at c_18
            all_goals omega
        · try simp (disch := omega) only [nI_ltI, nI_leI, nI_eq, zz_lt0, zz_ge0, zz_gt0, zz_le0, zz_eq0, zz_m1lt, zz_m1ge, zz_m1eq, bI_eq0, decide_eq_false_iff_not, decide_eq_true_eq, Decidable.not_not, not_true_eq_false, not_false_eq_true, Nat.not_lt, Nat.not_le, Bool.not_eq_false, Bool.not_eq_true] at c_6
          all_goals omega
      | some e =>
        rw [hr] at hl2'
        have he := s_lead_lt hin2 hhl hr
        have hkd2e := hkd2 e he
        first | refine V.aload_n dR_home_0 rfl ?_ | refine V.aload_nN dR_home_0 rfl ?_
        refine V.callVk (kd := 4) 0 _ 0 _ [] dR_home_1 okR_last n_R_61 (by omega) (by assumption) rfl imR_last seR_last_R (by decide) (by decide) rfl rfl (Nat.le_of_ble_eq_true rfl) (Nat.le_of_ble_eq_true rfl) (Nat.le_of_eq (Nat.zero_add _)) (Nat.le_of_eq (Nat.zero_add _)) (kR_last hS hP ?_)
        refine V.istore_n dR_home_4 (by decide) ?_
        refine V.iload_n dR_home_5 rfl ?_
        refine V.if_ne (tgt := 16) dR_home_6 (by decide) (fun c_6 => ?_) (fun c_6 => ?_)
        · try simp (disch := omega) only [nI_ltI, nI_leI, nI_eq, zz_lt0, zz_ge0, zz_gt0, zz_le0, zz_eq0, zz_m1lt, zz_m1ge, zz_m1eq, bI_eq0, decide_eq_false_iff_not, decide_eq_true_eq, Decidable.not_not, not_true_eq_false, not_false_eq_true, Nat.not_lt, Nat.not_le, Bool.not_eq_false, Bool.not_eq_true] at c_6
          refine V.iload_n dR_home_16 rfl ?_
          refine V.iconst (v := (nI 1)) dR_home_17 (by decide) ?_
          refine V.icmp_ne (tgt := 25) dR_home_18 (by decide) (fun c_18 => ?_) (fun c_18 => ?_)
          · try simp (disch := omega) only [nI_ltI, nI_leI, nI_eq, zz_lt0, zz_ge0, zz_gt0, zz_le0, zz_eq0, zz_m1lt, zz_m1ge, zz_m1eq, bI_eq0, decide_eq_false_iff_not, decide_eq_true_eq, Decidable.not_not, not_true_eq_false, not_false_eq_true, Nat.not_lt, Nat.not_le, Bool.not_eq_false, Bool.not_eq_true] at c_18
            first | refine V.aload_n dR_home_25 rfl ?_ | refine V.aload_nN dR_home_25 rfl ?_
            refine V.iload_n dR_home_26 rfl ?_
            refine V.iconst (v := (nI 1)) dR_home_27 (by decide) ?_
            refine V.isubN dR_home_28 (by omega) ?_
            refine V.callVk (kd := 4) 0 _ 0 _ [_] dR_home_29 okR_lead n_R_65 (by omega) (by assumption) rfl imR_lead seR_lead_R (by decide) (by decide) rfl rfl (Nat.le_of_ble_eq_true rfl) (Nat.le_of_ble_eq_true rfl) (Nat.le_of_eq (Nat.zero_add _)) (Nat.le_of_eq (Nat.zero_add _)) (kR_lead hS hP hT hH (by omega) ?_)
            rw [hr]
            show V G mR_home 32 _ [.int (nI e)] h 0 0 Q
            refine V.istore_n dR_home_32 (by decide) ?_
            refine V.iload_n dR_home_33 rfl ?_
            refine V.if_lt (tgt := 51) dR_home_34 (by decide) (fun c_34 => ?_) (fun c_34 => ?_)
            · try simp (disch := omega) only [nI_ltI, nI_leI, nI_eq, zz_lt0, zz_ge0, zz_gt0, zz_le0, zz_eq0, zz_m1lt, zz_m1ge, zz_m1eq, bI_eq0, decide_eq_false_iff_not, decide_eq_true_eq, Decidable.not_not, not_true_eq_false, not_false_eq_true, Nat.not_lt, Nat.not_le, Bool.not_eq_false, Bool.not_eq_true] at c_34
              all_goals omega
            · try simp (disch := omega) only [nI_ltI, nI_leI, nI_eq, zz_lt0, zz_ge0, zz_gt0, zz_le0, zz_eq0, zz_m1lt, zz_m1ge, zz_m1eq, bI_eq0, decide_eq_false_iff_not, decide_eq_true_eq, Decidable.not_not, not_true_eq_false, not_false_eq_true, Nat.not_lt, Nat.not_le, Bool.not_eq_false, Bool.not_eq_true] at c_34
              first | refine V.aload_n dR_home_37 rfl ?_ | refine V.aload_nN dR_home_37 rfl ?_
              refine V.getk dR_home_38 (by omega) (by assumption) f_R_13_4 (by assumption) ?_
              refine V.iload_n dR_home_41 rfl ?_
              refine V.ialoadN dR_home_42 (by omega) (by assumption) (by omega) (hkd e he) ?_
              refine V.iconst (v := (nI 2)) dR_home_43 (by decide) ?_
              refine V.icmp_ne (tgt := 51) dR_home_44 (by decide) (fun c_44 => ?_) (fun c_44 => ?_)
              · try simp (disch := omega) only [nI_ltI, nI_leI, nI_eq, zz_lt0, zz_ge0, zz_gt0, zz_le0, zz_eq0, zz_m1lt, zz_m1ge, zz_m1eq, bI_eq0, decide_eq_false_iff_not, decide_eq_true_eq, Decidable.not_not, not_true_eq_false, not_false_eq_true, Nat.not_lt, Nat.not_le, Bool.not_eq_false, Bool.not_eq_true] at c_44
                refine V.iconst (v := (-1)) dR_home_51 (by decide) ?_
                refine V.ireturn dR_home_52 rfl rfl ?_
                rw [hl2'] at hQ; simp only [s_dir] at hQ; first | (rw [if_pos (by omega)] at hQ; exact hQ) | (rw [if_neg (by omega)] at hQ; exact hQ)
              · try simp (disch := omega) only [nI_ltI, nI_leI, nI_eq, zz_lt0, zz_ge0, zz_gt0, zz_le0, zz_eq0, zz_m1lt, zz_m1ge, zz_m1eq, bI_eq0, decide_eq_false_iff_not, decide_eq_true_eq, Decidable.not_not, not_true_eq_false, not_false_eq_true, Nat.not_lt, Nat.not_le, Bool.not_eq_false, Bool.not_eq_true] at c_44
                refine V.iload_n dR_home_47 rfl ?_
                refine V.goto (tgt := 52) dR_home_48 (by decide) ?_
                refine V.ireturn dR_home_52 rfl rfl ?_
                rw [hl2'] at hQ; simp only [s_dir] at hQ; first | (rw [if_pos (by omega)] at hQ; exact hQ) | (rw [if_neg (by omega)] at hQ; exact hQ)
          · try simp (disch := omega) only [nI_ltI, nI_leI, nI_eq, zz_lt0, zz_ge0, zz_gt0, zz_le0, zz_eq0, zz_m1lt, zz_m1ge, zz_m1eq, bI_eq0, decide_eq_false_iff_not, decide_eq_true_eq, Decidable.not_not, not_true_eq_false, not_false_eq_true, Nat.not_lt, Nat.not_le, Bool.not_eq_false, Bool.not_eq_true] at c_18
            all_goals omega
        · try simp (disch := omega) only [nI_ltI, nI_leI, nI_eq, zz_lt0, zz_ge0, zz_gt0, zz_le0, zz_eq0, zz_m1lt, zz_m1ge, zz_m1eq, bI_eq0, decide_eq_false_iff_not, decide_eq_true_eq, Decidable.not_not, not_true_eq_false, not_false_eq_true, Nat.not_lt, Nat.not_le, Bool.not_eq_false, Bool.not_eq_true] at c_6
          all_goals omega
set_option maxHeartbeats 4000000 in
set_option maxRecDepth 100000 in
/-- PathTreeModel.isName -/
theorem kR_isName {G : GG} {h : HH} {o : Nat} {p : Nat → Nat} {len : Nat} {Q : Option Value → HH → Prop} (hS : RS G h o) (hP : RP h o p len) (hQ : Q (some (.int (bI (decide (s_isName p len))))) h) : V G mR_isName 0 (lv_args 0 [.ref o]) [] h 0 0 Q := by
  obtain ⟨hz, hk0, hk1, hk2, hk3, hk4, hk5, hk6, hk7, hk8, hf0, hf2, hf3, hf4, hf5, hf6, hf12, hf13⟩ := id hS
  obtain ⟨hln, hpp, hl2, hp⟩ := id hP
  have hll := s_last_le p len
  first | refine V.aload_n dR_isName_0 rfl ?_ | refine V.aload_nN dR_isName_0 rfl ?_
  refine V.callVk (kd := 4) 0 _ 0 _ [] dR_isName_1 okR_last n_R_61 (by omega) (by assumption) rfl imR_last seR_last_R (by decide) (by decide) rfl rfl (Nat.le_of_ble_eq_true rfl) (Nat.le_of_ble_eq_true rfl) (Nat.le_of_eq (Nat.zero_add _)) (Nat.le_of_eq (Nat.zero_add _)) (kR_last hS hP ?_)
  refine V.istore_n dR_isName_4 (by decide) ?_
  first | refine V.aload_n dR_isName_5 rfl ?_ | refine V.aload_nN dR_isName_5 rfl ?_
  refine V.getk dR_isName_6 (by omega) (by assumption) f_R_44_4 (by assumption) ?_
  refine V.iload_n dR_isName_9 rfl ?_
  refine V.isubN dR_isName_10 (by omega) ?_
  refine V.iconst (v := (nI 1)) dR_isName_11 (by decide) ?_
  refine V.icmp_lt (tgt := 56) dR_isName_12 (by decide) (fun c_12 => ?_) (fun c_12 => ?_)
  · try simp (disch := omega) only [nI_ltI, nI_leI, nI_eq, zz_lt0, zz_ge0, zz_gt0, zz_le0, zz_eq0, zz_m1lt, zz_m1ge, zz_m1eq, bI_eq0, decide_eq_false_iff_not, decide_eq_true_eq, Decidable.not_not, not_true_eq_false, not_false_eq_true, Nat.not_lt, Nat.not_le, Bool.not_eq_false, Bool.not_eq_true] at c_12
    refine V.iconst (v := (nI 0)) dR_isName_56 (by decide) ?_
    refine V.ireturn dR_isName_57 rfl rfl ?_
    first | (rw [bI_t (by omega)] at hQ; exact hQ) | (rw [bI_f (by omega)] at hQ; exact hQ)
  · try simp (disch := omega) only [nI_ltI, nI_leI, nI_eq, zz_lt0, zz_ge0, zz_gt0, zz_le0, zz_eq0, zz_m1lt, zz_m1ge, zz_m1eq, bI_eq0, decide_eq_false_iff_not, decide_eq_true_eq, Decidable.not_not, not_true_eq_false, not_false_eq_true, Nat.not_lt, Nat.not_le, Bool.not_eq_false, Bool.not_eq_true] at c_12
    first | refine V.aload_n dR_isName_15 rfl ?_ | refine V.aload_nN dR_isName_15 rfl ?_
    refine V.getk dR_isName_16 (by omega) (by assumption) f_R_44_4 (by assumption) ?_
    refine V.iload_n dR_isName_19 rfl ?_
    refine V.isubN dR_isName_20 (by omega) ?_
    refine V.bipush (v := (nI 60)) dR_isName_21 (by decide) ?_
    refine V.icmp_gt (tgt := 56) dR_isName_23 (by decide) (fun c_23 => ?_) (fun c_23 => ?_)
    · try simp (disch := omega) only [nI_ltI, nI_leI, nI_eq, zz_lt0, zz_ge0, zz_gt0, zz_le0, zz_eq0, zz_m1lt, zz_m1ge, zz_m1eq, bI_eq0, decide_eq_false_iff_not, decide_eq_true_eq, Decidable.not_not, not_true_eq_false, not_false_eq_true, Nat.not_lt, Nat.not_le, Bool.not_eq_false, Bool.not_eq_true] at c_23
      refine V.iconst (v := (nI 0)) dR_isName_56 (by decide) ?_
      refine V.ireturn dR_isName_57 rfl rfl ?_
      first | (rw [bI_t (by omega)] at hQ; exact hQ) | (rw [bI_f (by omega)] at hQ; exact hQ)
    · try simp (disch := omega) only [nI_ltI, nI_leI, nI_eq, zz_lt0, zz_ge0, zz_gt0, zz_le0, zz_eq0, zz_m1lt, zz_m1ge, zz_m1eq, bI_eq0, decide_eq_false_iff_not, decide_eq_true_eq, Decidable.not_not, not_true_eq_false, not_false_eq_true, Nat.not_lt, Nat.not_le, Bool.not_eq_false, Bool.not_eq_true] at c_23
      first | refine V.aload_n dR_isName_26 rfl ?_ | refine V.aload_nN dR_isName_26 rfl ?_
      refine V.iload_n dR_isName_27 rfl ?_
      first | refine V.aload_n dR_isName_28 rfl ?_ | refine V.aload_nN dR_isName_28 rfl ?_
      refine V.getk dR_isName_29 (by omega) (by assumption) f_R_44_4 (by assumption) ?_
      refine V.iconst (v := (nI 1)) dR_isName_32 (by decide) ?_
      refine V.callVk (kd := 4) 0 _ 0 _ [_, _, _] dR_isName_33 okR_isDots n_R_47 (by omega) (by assumption) rfl imR_isDots seR_isDots_R (by decide) (by decide) rfl rfl (Nat.le_of_ble_eq_true rfl) (Nat.le_of_ble_eq_true rfl) (Nat.le_of_eq (Nat.zero_add _)) (Nat.le_of_eq (Nat.zero_add _)) (kR_isDots1 hS hP (by omega) (by omega) ?_)
      refine V.if_ne (tgt := 56) dR_isName_36 (by decide) (fun c_36 => ?_) (fun c_36 => ?_)
      · try simp (disch := omega) only [nI_ltI, nI_leI, nI_eq, zz_lt0, zz_ge0, zz_gt0, zz_le0, zz_eq0, zz_m1lt, zz_m1ge, zz_m1eq, bI_eq0, decide_eq_false_iff_not, decide_eq_true_eq, Decidable.not_not, not_true_eq_false, not_false_eq_true, Nat.not_lt, Nat.not_le, Bool.not_eq_false, Bool.not_eq_true] at c_36
        refine V.iconst (v := (nI 0)) dR_isName_56 (by decide) ?_
        refine V.ireturn dR_isName_57 rfl rfl ?_
        first | (rw [bI_t (by omega)] at hQ; exact hQ) | (rw [bI_f (by omega)] at hQ; exact hQ)
      · try simp (disch := omega) only [nI_ltI, nI_leI, nI_eq, zz_lt0, zz_ge0, zz_gt0, zz_le0, zz_eq0, zz_m1lt, zz_m1ge, zz_m1eq, bI_eq0, decide_eq_false_iff_not, decide_eq_true_eq, Decidable.not_not, not_true_eq_false, not_false_eq_true, Nat.not_lt, Nat.not_le, Bool.not_eq_false, Bool.not_eq_true] at c_36
        first | refine V.aload_n dR_isName_39 rfl ?_ | refine V.aload_nN dR_isName_39 rfl ?_
        refine V.iload_n dR_isName_40 rfl ?_
        first | refine V.aload_n dR_isName_41 rfl ?_ | refine V.aload_nN dR_isName_41 rfl ?_
        refine V.getk dR_isName_42 (by omega) (by assumption) f_R_44_4 (by assumption) ?_
        refine V.iconst (v := (nI 2)) dR_isName_45 (by decide) ?_
        refine V.callVk (kd := 4) 0 _ 0 _ [_, _, _] dR_isName_46 okR_isDots n_R_47 (by omega) (by assumption) rfl imR_isDots seR_isDots_R (by decide) (by decide) rfl rfl (Nat.le_of_ble_eq_true rfl) (Nat.le_of_ble_eq_true rfl) (Nat.le_of_eq (Nat.zero_add _)) (Nat.le_of_eq (Nat.zero_add _)) (kR_isDots2 hS hP (by omega) (by omega) ?_)
        refine V.if_ne (tgt := 56) dR_isName_49 (by decide) (fun c_49 => ?_) (fun c_49 => ?_)
        · try simp (disch := omega) only [nI_ltI, nI_leI, nI_eq, zz_lt0, zz_ge0, zz_gt0, zz_le0, zz_eq0, zz_m1lt, zz_m1ge, zz_m1eq, bI_eq0, decide_eq_false_iff_not, decide_eq_true_eq, Decidable.not_not, not_true_eq_false, not_false_eq_true, Nat.not_lt, Nat.not_le, Bool.not_eq_false, Bool.not_eq_true] at c_49
          refine V.iconst (v := (nI 0)) dR_isName_56 (by decide) ?_
          refine V.ireturn dR_isName_57 rfl rfl ?_
          first | (rw [bI_t (by omega)] at hQ; exact hQ) | (rw [bI_f (by omega)] at hQ; exact hQ)
        · try simp (disch := omega) only [nI_ltI, nI_leI, nI_eq, zz_lt0, zz_ge0, zz_gt0, zz_le0, zz_eq0, zz_m1lt, zz_m1ge, zz_m1eq, bI_eq0, decide_eq_false_iff_not, decide_eq_true_eq, Decidable.not_not, not_true_eq_false, not_false_eq_true, Nat.not_lt, Nat.not_le, Bool.not_eq_false, Bool.not_eq_true] at c_49
          refine V.iconst (v := (nI 1)) dR_isName_52 (by decide) ?_
          refine V.goto (tgt := 57) dR_isName_53 (by decide) ?_
          refine V.ireturn dR_isName_57 rfl rfl ?_
          first | (rw [bI_t (by omega)] at hQ; exact hQ) | (rw [bI_f (by omega)] at hQ; exact hQ)
