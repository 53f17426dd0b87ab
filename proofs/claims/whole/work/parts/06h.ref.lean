def fu (f : Nat → Nat) (e v : Nat) : Nat → Nat := fun x => if x = e then v else f x
def fn (f : Nat → Nat → Nat) (e : Nat) (g : Nat → Nat) : Nat → Nat → Nat := fun x => if x = e then g else f x
theorem fu_s {f : Nat → Nat} {e v : Nat} : fu f e v e = v := by simp [fu]
theorem fu_n {f : Nat → Nat} {e v x : Nat} (h : x ≠ e) : fu f e v x = f x := by simp [fu, h]
theorem fn_s {f : Nat → Nat → Nat} {e : Nat} {g : Nat → Nat} : fn f e g e = g := by simp [fn]
theorem fn_n {f : Nat → Nat → Nat} {e x : Nat} {g : Nat → Nat} (h : x ≠ e) : fn f e g x = f x := by simp [fn, h]
section RIP
variable {G : GG} {h : HH} {o : Nat} {T : TT} {p : Nat → Nat} {len hand : Nat} {op : Option Nat} {gone : Bool} {ents : Nat} {bl : List (Nat × Nat)}
theorem RI.hand_ {e : Nat} (hI : RI G h o T p len hand op gone ents bl) (he : e < 300) : RI G (h_put h o 8 (.int (nI e))) o T p len e op gone ents bl := by
  obtain ⟨hS, hP, hT, hH, hO, hg, hE, hB, hop⟩ := hI
  exact ⟨hS.put (by omega), hP.put (by omega), hT.put (by omega), ⟨hp_eq, he⟩, (hp_j (by omega)).trans hO, (hp_j (by omega)).trans hg, (hp_j (by omega)).trans hE, hB.put (by omega), hop⟩
theorem RI.op_ {r : Option Nat} {v : Int32} (hI : RI G h o T p len hand op gone ents bl) (hv : oI r = v) (hr : ∀ e, r = some e → e < 300) : RI G (h_put h o 9 (.int v)) o T p len hand r gone ents bl := by
  obtain ⟨hS, hP, hT, hH, hO, hg, hE, hB, hop⟩ := hI
  exact ⟨hS.put (by omega), hP.put (by omega), hT.put (by omega), ⟨(hp_j (by omega)).trans hH.1, hH.2⟩, by rw [hv]; exact hp_eq, (hp_j (by omega)).trans hg, (hp_j (by omega)).trans hE, hB.put (by omega), hr⟩
theorem RI.gone_ {g2 : Bool} {v : Int32} (hI : RI G h o T p len hand op gone ents bl) (hv : bI g2 = v) : RI G (h_put h o 10 (.int v)) o T p len hand op g2 ents bl := by
  obtain ⟨hS, hP, hT, hH, hO, hg, hE, hB, hop⟩ := hI
  exact ⟨hS.put (by omega), hP.put (by omega), hT.put (by omega), ⟨(hp_j (by omega)).trans hH.1, hH.2⟩, (hp_j (by omega)).trans hO, by rw [hv]; exact hp_eq, (hp_j (by omega)).trans hE, hB.put (by omega), hop⟩
theorem RI.ents_ {n : Nat} (hI : RI G h o T p len hand op gone ents bl) : RI G (h_put h o 7 (.int (nI n))) o T p len hand op gone n bl := by
  obtain ⟨hS, hP, hT, hH, hO, hg, hE, hB, hop⟩ := hI
  exact ⟨hS.put (by omega), hP.put (by omega), hT.put (by omega), ⟨(hp_j (by omega)).trans hH.1, hH.2⟩, (hp_j (by omega)).trans hO, (hp_j (by omega)).trans hg, hp_eq, hB.put (by omega), hop⟩
theorem RT.kind {e w : Nat} (hT : RT h o T) (hw : w ≤ 2) : RT (h_put h (o + 2) e (.int (nI w))) o (fu T.1 e w, T.2) := by
  obtain ⟨hkd, hkd2, hin, hin2, hns, hns2, hnm, hnm2⟩ := hT
  refine ⟨fun x hx => ?_, fun x hx => ?_, fun x hx => (hp_a (by omega)).trans (hin x hx), hin2, fun x hx => (hp_a (by omega)).trans (hns x hx), hns2, fun x k hx hk => (hp_a (by omega)).trans (hnm x k hx hk), hnm2⟩
  · by_cases q : x = e
    · subst q; show _ = Value.int (nI (fu T.1 x w x)); rw [fu_s]; exact hp_eq
    · show _ = Value.int (nI (fu T.1 e w x)); rw [fu_n q, hp_j q]; exact hkd x hx
  · show fu T.1 e w x ≤ 2
    by_cases q : x = e
    · subst q; rw [fu_s]; exact hw
    · rw [fu_n q]; exact hkd2 x hx
theorem RT.par {e d : Nat} (hT : RT h o T) (hd : d < 300) : RT (h_put h (o + 3) e (.int (nI d))) o (T.1, fu T.2.1 e d, T.2.2) := by
  obtain ⟨hkd, hkd2, hin, hin2, hns, hns2, hnm, hnm2⟩ := hT
  refine ⟨fun x hx => (hp_a (by omega)).trans (hkd x hx), hkd2, fun x hx => ?_, fun x hx => ?_, fun x hx => (hp_a (by omega)).trans (hns x hx), hns2, fun x k hx hk => (hp_a (by omega)).trans (hnm x k hx hk), hnm2⟩
  · by_cases q : x = e
    · subst q; show _ = Value.int (nI (fu T.2.1 x d x)); rw [fu_s]; exact hp_eq
    · show _ = Value.int (nI (fu T.2.1 e d x)); rw [fu_n q, hp_j q]; exact hin x hx
  · show fu T.2.1 e d x < 300
    by_cases q : x = e
    · subst q; rw [fu_s]; exact hd
    · rw [fu_n q]; exact hin2 x hx
theorem RI.kind {e w : Nat} (hI : RI G h o T p len hand op gone ents bl) (hw : w ≤ 2) : RI G (h_put h (o + 2) e (.int (nI w))) o (fu T.1 e w, T.2) p len hand op gone ents bl := by
  obtain ⟨hS, hP, hT, hH, hO, hg, hE, hB, hop⟩ := hI
  exact ⟨hS.put (by omega), hP.put (by omega), hT.kind hw, ⟨(hp_a (by omega)).trans hH.1, hH.2⟩, (hp_a (by omega)).trans hO, (hp_a (by omega)).trans hg, (hp_a (by omega)).trans hE, hB.put (by omega), hop⟩
theorem RI.par {e d : Nat} (hI : RI G h o T p len hand op gone ents bl) (hd : d < 300) : RI G (h_put h (o + 3) e (.int (nI d))) o (T.1, fu T.2.1 e d, T.2.2) p len hand op gone ents bl := by
  obtain ⟨hS, hP, hT, hH, hO, hg, hE, hB, hop⟩ := hI
  exact ⟨hS.put (by omega), hP.put (by omega), hT.par hd, ⟨(hp_a (by omega)).trans hH.1, hH.2⟩, (hp_a (by omega)).trans hO, (hp_a (by omega)).trans hg, (hp_a (by omega)).trans hE, hB.put (by omega), hop⟩
theorem fb_none {e : Nat} (h : ∀ q ∈ bl, q.2 ≠ e) : s_fb bl e = [] := by
  unfold s_fb
  rw [List.filter_eq_nil_iff.mpr (fun q hq => by simpa using h q hq)]
  rfl
theorem RI.size0 {e : Nat} (hI : RI G h o T p len hand op gone ents bl) (he : s_fb bl e = []) : RI G (h_put h (o + 4) e (.int (nI 0))) o T p len hand op gone ents bl := by
  obtain ⟨hS, hP, hT, hH, hO, hg, hE, hB, hop⟩ := hI
  obtain ⟨h1, h2, h3, h4, h5, h6⟩ := hB
  refine ⟨hS.put (by omega), hP.put (by omega), hT.put (by omega), ⟨(hp_a (by omega)).trans hH.1, hH.2⟩, (hp_a (by omega)).trans hO, (hp_a (by omega)).trans hg, (hp_a (by omega)).trans hE, ⟨(hp_a (by omega)).trans h1, fun k hk => (hp_a (by omega)).trans (h2 k hk), fun k hk => (hp_a (by omega)).trans (h3 k hk), h4, h5, fun x hx => ?_⟩, hop⟩
  by_cases q : x = e
  · subst q; rw [he]; exact hp_eq
  · rw [hp_j q]; exact h6 x hx
end RIP
/-- what a path leads to, by its kind -/
def s_found (T : TT) (r : Option Nat) : Nat := match r with
  | none => 0
  | some e => T.1 e
set_option maxHeartbeats 4000000 in
set_option maxRecDepth 100000 in
/-- PathTreeModel.find -/
theorem kR_find {G : GG} {h : HH} {o : Nat} {T : TT} {p : Nat → Nat} {len hand : Nat} {op : Option Nat} {gone : Bool} {ents : Nat} {bl : List (Nat × Nat)} {Q : Option Value → HH → Prop} (hI : RI G h o T p len hand op gone ents bl) (hQ : ∀ h', RI G h' o T p 0 hand op gone ents bl → FrO o h h' → Q (some (.int (nI (s_found T (s_lead T p hand len))))) h') : V G mR_find 0 (lv_args 0 [.ref o]) [] h 0 0 Q := by
  obtain ⟨hS, hP, hT, hH, hO, hg, hE, hB, hop⟩ := id hI
  obtain ⟨hz, hk0, hk1, hk2, hk3, hk4, hk5, hk6, hk7, hk8, hf0, hf2, hf3, hf4, hf5, hf6, hf12, hf13⟩ := id hS
  obtain ⟨hln, hpp, hl2, hp⟩ := id hP
  obtain ⟨hkd, hkd2, hin, hin2, hns, hns2, hnm, hnm2⟩ := id hT
  obtain ⟨hhand, hhl⟩ := id hH
  cases hr : s_lead T p hand len with
  | none =>
    first | refine V.aload_n dR_find_0 rfl ?_ | refine V.aload_nN dR_find_0 rfl ?_
    first | refine V.aload_n dR_find_1 rfl ?_ | refine V.aload_nN dR_find_1 rfl ?_
    refine V.getk dR_find_2 (by omega) (by assumption) f_R_44_4 (by assumption) ?_
    refine V.callVk (kd := 4) 0 _ 0 _ [_] dR_find_5 okR_lead n_R_65 (by omega) (by assumption) rfl imR_lead seR_lead_R (by decide) (by decide) rfl rfl (Nat.le_of_ble_eq_true rfl) (Nat.le_of_ble_eq_true rfl) (Nat.le_of_eq (Nat.zero_add _)) (Nat.le_of_eq (Nat.zero_add _)) (kR_lead hS hP hT hH (by omega) ?_)
    rw [hr]
    show V G mR_find 8 _ [.int (-1)] h 0 0 Q
    refine V.istore_n dR_find_8 (by decide) ?_
    first | refine V.aload_n dR_find_9 rfl ?_ | refine V.aload_nN dR_find_9 rfl ?_
    refine V.iconst (v := (nI 0)) dR_find_10 (by decide) ?_
    refine V.putk dR_find_11 (by omega) (by assumption) p_R_44_4 rfl rfl ?_
    intro h2 e2
    have hI2 : RI G h2 o T p 0 hand op gone ents bl := by (rw [e2]; exact hI.len)
    have hF2 : FrO o h h2 := by (rw [e2]; exact FrO.rf.put (by omega))
    obtain ⟨hSa, hPa, hTa, hHa, hOa, hga, hEa, hBa, hopa⟩ := id hI2
    obtain ⟨hza, hk0a, hk1a, hk2a, hk3a, hk4a, hk5a, hk6a, hk7a, hk8a, hf0a, hf2a, hf3a, hf4a, hf5a, hf6a, hf12a, hf13a⟩ := id hSa
    obtain ⟨hlna, hppa, hl2a, hpa⟩ := id hPa
    obtain ⟨hkda, hkd2a, hina, hin2a, hnsa, hns2a, hnma, hnm2a⟩ := id hTa
    obtain ⟨hhanda, hhla⟩ := id hHa
    refine V.iload_n dR_find_14 rfl ?_
    refine V.if_ge (tgt := 22) dR_find_15 (by decide) (fun c_15 => ?_) (fun c_15 => ?_)
    · try simp only [zz_m1lt, zz_m1ge, not_true_eq_false, not_false_eq_true] at c_15
      all_goals omega
    · try simp only [zz_m1lt, zz_m1ge, not_true_eq_false, not_false_eq_true] at c_15
      refine V.iconst (v := (nI 0)) dR_find_18 (by decide) ?_
      refine V.goto (tgt := 28) dR_find_19 (by decide) ?_
      refine V.ireturn dR_find_28 rfl rfl ?_
      have q := hQ h2 hI2 hF2; rw [hr] at q; exact q
  | some e =>
    have he := s_lead_lt hin2 hhl hr
    have hke := hkd2 e he
    first | refine V.aload_n dR_find_0 rfl ?_ | refine V.aload_nN dR_find_0 rfl ?_
    first | refine V.aload_n dR_find_1 rfl ?_ | refine V.aload_nN dR_find_1 rfl ?_
    refine V.getk dR_find_2 (by omega) (by assumption) f_R_44_4 (by assumption) ?_
    refine V.callVk (kd := 4) 0 _ 0 _ [_] dR_find_5 okR_lead n_R_65 (by omega) (by assumption) rfl imR_lead seR_lead_R (by decide) (by decide) rfl rfl (Nat.le_of_ble_eq_true rfl) (Nat.le_of_ble_eq_true rfl) (Nat.le_of_eq (Nat.zero_add _)) (Nat.le_of_eq (Nat.zero_add _)) (kR_lead hS hP hT hH (by omega) ?_)
    rw [hr]
    show V G mR_find 8 _ [.int (nI e)] h 0 0 Q
    refine V.istore_n dR_find_8 (by decide) ?_
    first | refine V.aload_n dR_find_9 rfl ?_ | refine V.aload_nN dR_find_9 rfl ?_
    refine V.iconst (v := (nI 0)) dR_find_10 (by decide) ?_
    refine V.putk dR_find_11 (by omega) (by assumption) p_R_44_4 rfl rfl ?_
    intro h2 e2
    have hI2 : RI G h2 o T p 0 hand op gone ents bl := by (rw [e2]; exact hI.len)
    have hF2 : FrO o h h2 := by (rw [e2]; exact FrO.rf.put (by omega))
    obtain ⟨hSa, hPa, hTa, hHa, hOa, hga, hEa, hBa, hopa⟩ := id hI2
    obtain ⟨hza, hk0a, hk1a, hk2a, hk3a, hk4a, hk5a, hk6a, hk7a, hk8a, hf0a, hf2a, hf3a, hf4a, hf5a, hf6a, hf12a, hf13a⟩ := id hSa
    obtain ⟨hlna, hppa, hl2a, hpa⟩ := id hPa
    obtain ⟨hkda, hkd2a, hina, hin2a, hnsa, hns2a, hnma, hnm2a⟩ := id hTa
    obtain ⟨hhanda, hhla⟩ := id hHa
    refine V.iload_n dR_find_14 rfl ?_
    refine V.if_ge (tgt := 22) dR_find_15 (by decide) (fun c_15 => ?_) (fun c_15 => ?_)
    · try simp (disch := omega) only [nI_ltI, nI_leI, nI_eq, zz_lt0, zz_ge0, zz_gt0, zz_le0, zz_eq0, zz_m1lt, zz_m1ge, zz_m1eq, bI_eq0, decide_eq_false_iff_not, decide_eq_true_eq, Decidable.not_not, not_true_eq_false, not_false_eq_true, Nat.not_lt, Nat.not_le, Bool.not_eq_false, Bool.not_eq_true] at c_15
      first | refine V.aload_n dR_find_22 rfl ?_ | refine V.aload_nN dR_find_22 rfl ?_
      refine V.getk dR_find_23 (by omega) (by assumption) f_R_13_4 (by assumption) ?_
      refine V.iload_n dR_find_26 rfl ?_
      refine V.ialoadN dR_find_27 (by omega) (by assumption) (by omega) (hkda e he) ?_
      refine V.ireturn dR_find_28 rfl rfl ?_
      have q := hQ h2 hI2 hF2; rw [hr] at q; exact q
    · try simp (disch := omega) only [nI_ltI, nI_leI, nI_eq, zz_lt0, zz_ge0, zz_gt0, zz_le0, zz_eq0, zz_m1lt, zz_m1ge, zz_m1eq, bI_eq0, decide_eq_false_iff_not, decide_eq_true_eq, Decidable.not_not, not_true_eq_false, not_false_eq_true, Nat.not_lt, Nat.not_le, Bool.not_eq_false, Bool.not_eq_true] at c_15
      all_goals omega

set_option maxHeartbeats 4000000 in
set_option maxRecDepth 100000 in
/-- PathTreeModel.go -/
theorem kR_go {G : GG} {h : HH} {o : Nat} {T : TT} {p : Nat → Nat} {len hand : Nat} {op : Option Nat} {gone : Bool} {ents : Nat} {bl : List (Nat × Nat)} {Q : Option Value → HH → Prop} (hI : RI G h o T p len hand op gone ents bl) (h0 : s_dir T (s_lead T p hand len) = none → ∀ h', RI G h' o T p 0 hand op gone ents bl → FrO o h h' → Q (some (.int (nI 0))) h') (h1 : ∀ e, s_dir T (s_lead T p hand len) = some e → ∀ h', RI G h' o T p 0 e op gone ents bl → FrO o h h' → Q (some (.int (nI 1))) h') : V G mR_go 0 (lv_args 0 [.ref o]) [] h 0 0 Q := by
  obtain ⟨hS, hP, hT, hH, hO, hg, hE, hB, hop⟩ := id hI
  obtain ⟨hz, hk0, hk1, hk2, hk3, hk4, hk5, hk6, hk7, hk8, hf0, hf2, hf3, hf4, hf5, hf6, hf12, hf13⟩ := id hS
  obtain ⟨hln, hpp, hl2, hp⟩ := id hP
  obtain ⟨hkd, hkd2, hin, hin2, hns, hns2, hnm, hnm2⟩ := id hT
  obtain ⟨hhand, hhl⟩ := id hH
  cases hr : s_lead T p hand len with
  | none =>
    first | refine V.aload_n dR_go_0 rfl ?_ | refine V.aload_nN dR_go_0 rfl ?_
    first | refine V.aload_n dR_go_1 rfl ?_ | refine V.aload_nN dR_go_1 rfl ?_
    refine V.getk dR_go_2 (by omega) (by assumption) f_R_44_4 (by assumption) ?_
    refine V.callVk (kd := 4) 0 _ 0 _ [_] dR_go_5 okR_lead n_R_65 (by omega) (by assumption) rfl imR_lead seR_lead_R (by decide) (by decide) rfl rfl (Nat.le_of_ble_eq_true rfl) (Nat.le_of_ble_eq_true rfl) (Nat.le_of_eq (Nat.zero_add _)) (Nat.le_of_eq (Nat.zero_add _)) (kR_lead hS hP hT hH (by omega) ?_)
    rw [hr]
    show V G mR_go 8 _ [.int (-1)] h 0 0 Q
    refine V.istore_n dR_go_8 (by decide) ?_
    first | refine V.aload_n dR_go_9 rfl ?_ | refine V.aload_nN dR_go_9 rfl ?_
    refine V.iconst (v := (nI 0)) dR_go_10 (by decide) ?_
    refine V.putk dR_go_11 (by omega) (by assumption) p_R_44_4 rfl rfl ?_
    intro h2 e2
    have hI2 : RI G h2 o T p 0 hand op gone ents bl := by (rw [e2]; exact hI.len)
    have hF2 : FrO o h h2 := by (rw [e2]; exact FrO.rf.put (by omega))
    obtain ⟨hSa, hPa, hTa, hHa, hOa, hga, hEa, hBa, hopa⟩ := id hI2
    obtain ⟨hza, hk0a, hk1a, hk2a, hk3a, hk4a, hk5a, hk6a, hk7a, hk8a, hf0a, hf2a, hf3a, hf4a, hf5a, hf6a, hf12a, hf13a⟩ := id hSa
    obtain ⟨hlna, hppa, hl2a, hpa⟩ := id hPa
    obtain ⟨hkda, hkd2a, hina, hin2a, hnsa, hns2a, hnma, hnm2a⟩ := id hTa
    obtain ⟨hhanda, hhla⟩ := id hHa
    refine V.iload_n dR_go_14 rfl ?_
    refine V.if_lt (tgt := 28) dR_go_15 (by decide) (fun c_15 => ?_) (fun c_15 => ?_)
    · try simp only [zz_m1lt, zz_m1ge, not_true_eq_false, not_false_eq_true] at c_15
      refine V.iconst (v := (nI 0)) dR_go_28 (by decide) ?_
      refine V.ireturn dR_go_29 rfl rfl ?_
      exact h0 (by rw [hr]; rfl) h2 hI2 hF2
    · try simp only [zz_m1lt, zz_m1ge, not_true_eq_false, not_false_eq_true] at c_15
      all_goals omega
  | some e =>
    have he := s_lead_lt hin2 hhl hr
    have hke := hkd2 e he
    first | refine V.aload_n dR_go_0 rfl ?_ | refine V.aload_nN dR_go_0 rfl ?_
    first | refine V.aload_n dR_go_1 rfl ?_ | refine V.aload_nN dR_go_1 rfl ?_
    refine V.getk dR_go_2 (by omega) (by assumption) f_R_44_4 (by assumption) ?_
    refine V.callVk (kd := 4) 0 _ 0 _ [_] dR_go_5 okR_lead n_R_65 (by omega) (by assumption) rfl imR_lead seR_lead_R (by decide) (by decide) rfl rfl (Nat.le_of_ble_eq_true rfl) (Nat.le_of_ble_eq_true rfl) (Nat.le_of_eq (Nat.zero_add _)) (Nat.le_of_eq (Nat.zero_add _)) (kR_lead hS hP hT hH (by omega) ?_)
    rw [hr]
    show V G mR_go 8 _ [.int (nI e)] h 0 0 Q
    refine V.istore_n dR_go_8 (by decide) ?_
    first | refine V.aload_n dR_go_9 rfl ?_ | refine V.aload_nN dR_go_9 rfl ?_
    refine V.iconst (v := (nI 0)) dR_go_10 (by decide) ?_
    refine V.putk dR_go_11 (by omega) (by assumption) p_R_44_4 rfl rfl ?_
    intro h2 e2
    have hI2 : RI G h2 o T p 0 hand op gone ents bl := by (rw [e2]; exact hI.len)
    have hF2 : FrO o h h2 := by (rw [e2]; exact FrO.rf.put (by omega))
    obtain ⟨hSa, hPa, hTa, hHa, hOa, hga, hEa, hBa, hopa⟩ := id hI2
    obtain ⟨hza, hk0a, hk1a, hk2a, hk3a, hk4a, hk5a, hk6a, hk7a, hk8a, hf0a, hf2a, hf3a, hf4a, hf5a, hf6a, hf12a, hf13a⟩ := id hSa
    obtain ⟨hlna, hppa, hl2a, hpa⟩ := id hPa
    obtain ⟨hkda, hkd2a, hina, hin2a, hnsa, hns2a, hnma, hnm2a⟩ := id hTa
    obtain ⟨hhanda, hhla⟩ := id hHa
    refine V.iload_n dR_go_14 rfl ?_
    refine V.if_lt (tgt := 28) dR_go_15 (by decide) (fun c_15 => ?_) (fun c_15 => ?_)
    · try simp (disch := omega) only [nI_ltI, nI_leI, nI_eq, zz_lt0, zz_ge0, zz_gt0, zz_le0, zz_eq0, zz_m1lt, zz_m1ge, zz_m1eq, bI_eq0, decide_eq_false_iff_not, decide_eq_true_eq, Decidable.not_not, not_true_eq_false, not_false_eq_true, Nat.not_lt, Nat.not_le, Bool.not_eq_false, Bool.not_eq_true] at c_15
      all_goals omega
    · try simp (disch := omega) only [nI_ltI, nI_leI, nI_eq, zz_lt0, zz_ge0, zz_gt0, zz_le0, zz_eq0, zz_m1lt, zz_m1ge, zz_m1eq, bI_eq0, decide_eq_false_iff_not, decide_eq_true_eq, Decidable.not_not, not_true_eq_false, not_false_eq_true, Nat.not_lt, Nat.not_le, Bool.not_eq_false, Bool.not_eq_true] at c_15
      first | refine V.aload_n dR_go_18 rfl ?_ | refine V.aload_nN dR_go_18 rfl ?_
      refine V.getk dR_go_19 (by omega) (by assumption) f_R_13_4 (by assumption) ?_
      refine V.iload_n dR_go_22 rfl ?_
      refine V.ialoadN dR_go_23 (by omega) (by assumption) (by omega) (hkda e he) ?_
      refine V.iconst (v := (nI 2)) dR_go_24 (by decide) ?_
      refine V.icmp_eq (tgt := 30) dR_go_25 (by decide) (fun c_25 => ?_) (fun c_25 => ?_)
      · try simp (disch := omega) only [nI_ltI, nI_leI, nI_eq, zz_lt0, zz_ge0, zz_gt0, zz_le0, zz_eq0, zz_m1lt, zz_m1ge, zz_m1eq, bI_eq0, decide_eq_false_iff_not, decide_eq_true_eq, Decidable.not_not, not_true_eq_false, not_false_eq_true, Nat.not_lt, Nat.not_le, Bool.not_eq_false, Bool.not_eq_true] at c_25
        first | refine V.aload_n dR_go_30 rfl ?_ | refine V.aload_nN dR_go_30 rfl ?_
        refine V.iload_n dR_go_31 rfl ?_
        refine V.putk dR_go_32 (by omega) (by assumption) p_R_55_4 rfl rfl ?_
        intro h3 e3
        refine V.iconst (v := (nI 1)) dR_go_35 (by decide) ?_
        refine V.ireturn dR_go_36 rfl rfl ?_
        exact h1 e (by rw [hr]; simp only [s_dir]; rw [if_pos (by omega)]) h3 (by (rw [e3]; exact hI2.hand_ he)) (by (rw [e3]; exact hF2.put (by omega)))
      · try simp (disch := omega) only [nI_ltI, nI_leI, nI_eq, zz_lt0, zz_ge0, zz_gt0, zz_le0, zz_eq0, zz_m1lt, zz_m1ge, zz_m1eq, bI_eq0, decide_eq_false_iff_not, decide_eq_true_eq, Decidable.not_not, not_true_eq_false, not_false_eq_true, Nat.not_lt, Nat.not_le, Bool.not_eq_false, Bool.not_eq_true] at c_25
        refine V.iconst (v := (nI 0)) dR_go_28 (by decide) ?_
        refine V.ireturn dR_go_29 rfl rfl ?_
        exact h0 (by rw [hr]; simp only [s_dir]; rw [if_neg (by omega)]) h2 hI2 hF2

set_option maxHeartbeats 4000000 in
set_option maxRecDepth 100000 in
/-- PathTreeModel.name -/
theorem kR_name {G : GG} {h : HH} {o : Nat} {Q : Option Value → HH → Prop} {T : TT} {hand : Nat} {k j : Int32} (hS : RS G h o) (hT : RT h o T) (hH : h.2.1 o 8 = .int (nI hand) ∧ hand < 300) (hQ : Q (some (.int (s_name T hand k j))) h) : V G mR_name 0 (lv_args 0 [.ref o, .int k, .int j]) [] h 0 0 Q := by
  obtain ⟨hz, hk0, hk1, hk2, hk3, hk4, hk5, hk6, hk7, hk8, hf0, hf2, hf3, hf4, hf5, hf6, hf12, hf13⟩ := id hS
  obtain ⟨hkd, hkd2, hin, hin2, hns, hns2, hnm, hnm2⟩ := id hT
  have hhand : h.2.1 o 8 = .int (nI hand) := hH.1
  have hhl : hand < 300 := hH.2
  cases hr : s_nth T hand k with
  | none =>
    have e1 : s_name T hand k j = -1 := by (unfold s_name; rw [hr])
    rw [e1] at hQ
    first | refine V.aload_n dR_name_0 rfl ?_ | refine V.aload_nN dR_name_0 rfl ?_
    refine V.iload_n dR_name_1 rfl ?_
    refine V.callVk (kd := 4) 0 _ 0 _ [_] dR_name_2 okR_inOrder n_R_108 (by omega) (by assumption) rfl imR_inOrder seR_inOrder_R (by decide) (by decide) rfl rfl (Nat.le_of_ble_eq_true rfl) (Nat.le_of_ble_eq_true rfl) (Nat.le_of_eq (Nat.zero_add _)) (Nat.le_of_eq (Nat.zero_add _)) (kR_inOrder hS hT hH ?_)
    rw [hr]
    show V G mR_name 5 _ [.int (-1)] h 0 0 Q
    refine V.istore_n dR_name_5 (by decide) ?_
    refine V.iload_n dR_name_6 rfl ?_
    refine V.if_lt (tgt := 24) dR_name_7 (by decide) (fun c_7 => ?_) (fun c_7 => ?_)
    · try simp only [zz_m1lt, zz_m1ge, not_true_eq_false, not_false_eq_true] at c_7
      refine V.iconst (v := (-1)) dR_name_24 (by decide) ?_
      refine V.goto (tgt := 39) dR_name_25 (by decide) ?_
      refine V.ireturn dR_name_39 rfl rfl ?_
      exact hQ
    · try simp only [zz_m1lt, zz_m1ge, not_true_eq_false, not_false_eq_true] at c_7
      all_goals omega
  | some e =>
    have he := (s_nth_some hr).1
    have hn2 := hns2 e he
    rcases pk_ix j (n := T.2.2.1 e) (by omega) with hj | hj | ⟨x, hx, rfl⟩
    · have e1 : s_name T hand k j = -1 := by (unfold s_name; rw [hr]; dsimp only; rw [if_neg (fun z => z (Or.inl hj))])
      rw [e1] at hQ
      first | refine V.aload_n dR_name_0 rfl ?_ | refine V.aload_nN dR_name_0 rfl ?_
      refine V.iload_n dR_name_1 rfl ?_
      refine V.callVk (kd := 4) 0 _ 0 _ [_] dR_name_2 okR_inOrder n_R_108 (by omega) (by assumption) rfl imR_inOrder seR_inOrder_R (by decide) (by decide) rfl rfl (Nat.le_of_ble_eq_true rfl) (Nat.le_of_ble_eq_true rfl) (Nat.le_of_eq (Nat.zero_add _)) (Nat.le_of_eq (Nat.zero_add _)) (kR_inOrder hS hT hH ?_)
      rw [hr]
      show V G mR_name 5 _ [.int (nI e)] h 0 0 Q
      refine V.istore_n dR_name_5 (by decide) ?_
      refine V.iload_n dR_name_6 rfl ?_
      refine V.if_lt (tgt := 24) dR_name_7 (by decide) (fun c_7 => ?_) (fun c_7 => ?_)
      · try simp (disch := omega) only [nI_ltI, nI_leI, nI_eq, zz_lt0, zz_ge0, zz_gt0, zz_le0, zz_eq0, zz_m1lt, zz_m1ge, zz_m1eq, bI_eq0, decide_eq_false_iff_not, decide_eq_true_eq, Decidable.not_not, not_true_eq_false, not_false_eq_true, Nat.not_lt, Nat.not_le, Bool.not_eq_false, Bool.not_eq_true] at c_7
        all_goals omega
      · try simp (disch := omega) only [nI_ltI, nI_leI, nI_eq, zz_lt0, zz_ge0, zz_gt0, zz_le0, zz_eq0, zz_m1lt, zz_m1ge, zz_m1eq, bI_eq0, decide_eq_false_iff_not, decide_eq_true_eq, Decidable.not_not, not_true_eq_false, not_false_eq_true, Nat.not_lt, Nat.not_le, Bool.not_eq_false, Bool.not_eq_true] at c_7
        refine V.iload_n dR_name_10 rfl ?_
        refine V.if_lt (tgt := 24) dR_name_11 (by decide) (fun c_11 => ?_) (fun c_11 => ?_)
        · skip
          refine V.iconst (v := (-1)) dR_name_24 (by decide) ?_
          refine V.goto (tgt := 39) dR_name_25 (by decide) ?_
          refine V.ireturn dR_name_39 rfl rfl ?_
          exact hQ
        · skip
          exact absurd hj c_11
    · have e1 : s_name T hand k j = -1 := by
        unfold s_name
        rw [hr]
        dsimp only
        rw [if_neg (fun z => ?_)]
        have z2 := (vp_in_iff (n := T.2.2.1 e)).mp z
        rw [Int32.le_iff_toInt_le, nI_toInt (by omega)] at hj
        omega
      rw [e1] at hQ
      first | refine V.aload_n dR_name_0 rfl ?_ | refine V.aload_nN dR_name_0 rfl ?_
      refine V.iload_n dR_name_1 rfl ?_
      refine V.callVk (kd := 4) 0 _ 0 _ [_] dR_name_2 okR_inOrder n_R_108 (by omega) (by assumption) rfl imR_inOrder seR_inOrder_R (by decide) (by decide) rfl rfl (Nat.le_of_ble_eq_true rfl) (Nat.le_of_ble_eq_true rfl) (Nat.le_of_eq (Nat.zero_add _)) (Nat.le_of_eq (Nat.zero_add _)) (kR_inOrder hS hT hH ?_)
      rw [hr]
      show V G mR_name 5 _ [.int (nI e)] h 0 0 Q
      refine V.istore_n dR_name_5 (by decide) ?_
      refine V.iload_n dR_name_6 rfl ?_
      refine V.if_lt (tgt := 24) dR_name_7 (by decide) (fun c_7 => ?_) (fun c_7 => ?_)
      · try simp (disch := omega) only [nI_ltI, nI_leI, nI_eq, zz_lt0, zz_ge0, zz_gt0, zz_le0, zz_eq0, zz_m1lt, zz_m1ge, zz_m1eq, bI_eq0, decide_eq_false_iff_not, decide_eq_true_eq, Decidable.not_not, not_true_eq_false, not_false_eq_true, Nat.not_lt, Nat.not_le, Bool.not_eq_false, Bool.not_eq_true] at c_7
        all_goals omega
      · try simp (disch := omega) only [nI_ltI, nI_leI, nI_eq, zz_lt0, zz_ge0, zz_gt0, zz_le0, zz_eq0, zz_m1lt, zz_m1ge, zz_m1eq, bI_eq0, decide_eq_false_iff_not, decide_eq_true_eq, Decidable.not_not, not_true_eq_false, not_false_eq_true, Nat.not_lt, Nat.not_le, Bool.not_eq_false, Bool.not_eq_true] at c_7
        refine V.iload_n dR_name_10 rfl ?_
        refine V.if_lt (tgt := 24) dR_name_11 (by decide) (fun c_11 => ?_) (fun c_11 => ?_)
        · skip
          refine V.iconst (v := (-1)) dR_name_24 (by decide) ?_
          refine V.goto (tgt := 39) dR_name_25 (by decide) ?_
          refine V.ireturn dR_name_39 rfl rfl ?_
          exact hQ
        · skip
          refine V.iload_n dR_name_14 rfl ?_
          first | refine V.aload_n dR_name_15 rfl ?_ | refine V.aload_nN dR_name_15 rfl ?_
          refine V.getk dR_name_16 (by omega) (by assumption) f_R_22_4 (by assumption) ?_
          refine V.iload_n dR_name_19 rfl ?_
          refine V.ialoadN dR_name_20 (by omega) (by assumption) (by omega) (hns e he) ?_
          refine V.icmp_lt (tgt := 28) dR_name_21 (by decide) (fun c_21 => ?_) (fun c_21 => ?_)
          · skip
            exact absurd hj (Int32.not_le.mpr c_21)
          · skip
            refine V.iconst (v := (-1)) dR_name_24 (by decide) ?_
            refine V.goto (tgt := 39) dR_name_25 (by decide) ?_
            refine V.ireturn dR_name_39 rfl rfl ?_
            exact hQ
    · have e1 : s_name T hand k (nI x) = nI (T.2.2.2 e x) := by
        unfold s_name
        rw [hr]
        dsimp only
        rw [if_pos (show ¬ (nI x < 0 ∨ T.2.2.1 e ≤ (nI x).toNatClampNeg) from vp_in_nI hx (by omega)), nI_clamp (by omega)]
      rw [e1] at hQ
      first | refine V.aload_n dR_name_0 rfl ?_ | refine V.aload_nN dR_name_0 rfl ?_
      refine V.iload_n dR_name_1 rfl ?_
      refine V.callVk (kd := 4) 0 _ 0 _ [_] dR_name_2 okR_inOrder n_R_108 (by omega) (by assumption) rfl imR_inOrder seR_inOrder_R (by decide) (by decide) rfl rfl (Nat.le_of_ble_eq_true rfl) (Nat.le_of_ble_eq_true rfl) (Nat.le_of_eq (Nat.zero_add _)) (Nat.le_of_eq (Nat.zero_add _)) (kR_inOrder hS hT hH ?_)
      rw [hr]
      show V G mR_name 5 _ [.int (nI e)] h 0 0 Q
      refine V.istore_n dR_name_5 (by decide) ?_
      refine V.iload_n dR_name_6 rfl ?_
      refine V.if_lt (tgt := 24) dR_name_7 (by decide) (fun c_7 => ?_) (fun c_7 => ?_)
      · try simp (disch := omega) only [nI_ltI, nI_leI, nI_eq, zz_lt0, zz_ge0, zz_gt0, zz_le0, zz_eq0, zz_m1lt, zz_m1ge, zz_m1eq, bI_eq0, decide_eq_false_iff_not, decide_eq_true_eq, Decidable.not_not, not_true_eq_false, not_false_eq_true, Nat.not_lt, Nat.not_le, Bool.not_eq_false, Bool.not_eq_true] at c_7
        all_goals omega
      · try simp (disch := omega) only [nI_ltI, nI_leI, nI_eq, zz_lt0, zz_ge0, zz_gt0, zz_le0, zz_eq0, zz_m1lt, zz_m1ge, zz_m1eq, bI_eq0, decide_eq_false_iff_not, decide_eq_true_eq, Decidable.not_not, not_true_eq_false, not_false_eq_true, Nat.not_lt, Nat.not_le, Bool.not_eq_false, Bool.not_eq_true] at c_7
        refine V.iload_n dR_name_10 rfl ?_
        refine V.if_lt (tgt := 24) dR_name_11 (by decide) (fun c_11 => ?_) (fun c_11 => ?_)
        · try simp (disch := omega) only [nI_ltI, nI_leI, nI_eq, zz_lt0, zz_ge0, zz_gt0, zz_le0, zz_eq0, zz_m1lt, zz_m1ge, zz_m1eq, bI_eq0, decide_eq_false_iff_not, decide_eq_true_eq, Decidable.not_not, not_true_eq_false, not_false_eq_true, Nat.not_lt, Nat.not_le, Bool.not_eq_false, Bool.not_eq_true] at c_11
          all_goals omega
        · try simp (disch := omega) only [nI_ltI, nI_leI, nI_eq, zz_lt0, zz_ge0, zz_gt0, zz_le0, zz_eq0, zz_m1lt, zz_m1ge, zz_m1eq, bI_eq0, decide_eq_false_iff_not, decide_eq_true_eq, Decidable.not_not, not_true_eq_false, not_false_eq_true, Nat.not_lt, Nat.not_le, Bool.not_eq_false, Bool.not_eq_true] at c_11
          refine V.iload_n dR_name_14 rfl ?_
          first | refine V.aload_n dR_name_15 rfl ?_ | refine V.aload_nN dR_name_15 rfl ?_
          refine V.getk dR_name_16 (by omega) (by assumption) f_R_22_4 (by assumption) ?_
          refine V.iload_n dR_name_19 rfl ?_
          refine V.ialoadN dR_name_20 (by omega) (by assumption) (by omega) (hns e he) ?_
          refine V.icmp_lt (tgt := 28) dR_name_21 (by decide) (fun c_21 => ?_) (fun c_21 => ?_)
          · try simp (disch := omega) only [nI_ltI, nI_leI, nI_eq, zz_lt0, zz_ge0, zz_gt0, zz_le0, zz_eq0, zz_m1lt, zz_m1ge, zz_m1eq, bI_eq0, decide_eq_false_iff_not, decide_eq_true_eq, Decidable.not_not, not_true_eq_false, not_false_eq_true, Nat.not_lt, Nat.not_le, Bool.not_eq_false, Bool.not_eq_true] at c_21
            first | refine V.aload_n dR_name_28 rfl ?_ | refine V.aload_nN dR_name_28 rfl ?_
            refine V.getk dR_name_29 (by omega) (by assumption) f_R_25_4 (by assumption) ?_
            refine V.bipush (v := (nI 60)) dR_name_32 (by decide) ?_
            refine V.iload_n dR_name_34 rfl ?_
            refine V.imulN dR_name_35 ?_
            refine V.iload_n dR_name_36 rfl ?_
            refine V.iaddN dR_name_37 ?_
            refine V.ialoadN dR_name_38 (by omega) (by assumption) (by omega) (hnm e x he hx) ?_
            refine V.ireturn dR_name_39 rfl rfl ?_
            exact hQ
          · try simp (disch := omega) only [nI_ltI, nI_leI, nI_eq, zz_lt0, zz_ge0, zz_gt0, zz_le0, zz_eq0, zz_m1lt, zz_m1ge, zz_m1eq, bI_eq0, decide_eq_false_iff_not, decide_eq_true_eq, Decidable.not_not, not_true_eq_false, not_false_eq_true, Nat.not_lt, Nat.not_le, Bool.not_eq_false, Bool.not_eq_true] at c_21
            all_goals omega
