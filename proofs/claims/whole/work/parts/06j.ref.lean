/-- an entry gets a place: directory d, and the path's last name -/
def s_put (T : TT) (e d : Nat) (p : Nat → Nat) (len : Nat) : TT := (T.1, fu T.2.1 e d, fu T.2.2.1 e (len - s_last p len), fn T.2.2.2 e (fun k => p (s_last p len + k)))
/-- where the laying of a name stands -/
def NJ (G : GG) (h1 hq : HH) (o e : Nat) (p : Nat → Nat) (len k : Nat) : Prop := RS G hq o ∧ RP hq o p len ∧ hq.1 = h1.1 ∧ hq.2.2 = h1.2.2 ∧ (∀ a j, a ≠ o + 6 → hq.2.1 a j = h1.2.1 a j) ∧ (∀ j, (j < 60 * e ∨ 60 * e + 60 ≤ j) → hq.2.1 (o + 6) j = h1.2.1 (o + 6) j) ∧
  ∀ j, j < k - s_last p len → hq.2.1 (o + 6) (60 * e + j) = .int (nI (p (s_last p len + j)))
theorem NJ.step {G : GG} {h1 hq : HH} {o e : Nat} {p : Nat → Nat} {len k : Nat} (hJ : NJ G h1 hq o e p len k) (hk : s_last p len ≤ k) (hk2 : k < len) (hl : len - s_last p len ≤ 60) : NJ G h1 (h_put hq (o + 6) (60 * e + k - s_last p len) (.int (nI (p k)))) o e p len (k + 1) := by
  obtain ⟨j1, j2, j3, j4, j5, j6, j7⟩ := hJ
  refine ⟨j1.put (by omega), j2.put (by omega), j3, j4, fun a j ha => (hp_a ha).trans (j5 a j ha), fun j hj => (hp_j (by omega)).trans (j6 j hj), fun j hj => ?_⟩
  by_cases z : j = k - s_last p len
  · subst z
    rw [show 60 * e + (k - s_last p len) = 60 * e + k - s_last p len by omega, show s_last p len + (k - s_last p len) = k by omega]
    exact hp_eq
  · exact (hp_j (by omega)).trans (j7 j (by omega))
theorem NJ.done {G : GG} {h hq : HH} {o : Nat} {T : TT} {p : Nat → Nat} {len hand : Nat} {op : Option Nat} {gone : Bool} {ents : Nat} {bl : List (Nat × Nat)} {e d : Nat} (hI : RI G h o T p len hand op gone ents bl) (he : e < 300) (hd : d < 300) (hl : len - s_last p len ≤ 60) (hll : s_last p len ≤ len)
    (hJ : NJ G (h_put (h_put h (o + 3) e (.int (nI d))) (o + 5) e (.int (nI (len - s_last p len)))) hq o e p len len) : RI G hq o (s_put T e d p len) p len hand op gone ents bl ∧ FrO o h hq := by
  obtain ⟨j1, j2, j3, j4, j5, j6, j7⟩ := hJ
  obtain ⟨hS, hP, hT, hH, hO, hg, hE, hB, hop⟩ := hI
  obtain ⟨hln, hpp, hl2, hp⟩ := hP
  obtain ⟨hkd, hkd2, hin, hin2, hns, hns2, hnm, hnm2⟩ := hT
  obtain ⟨b1, b2, b3, b4, b5, b6⟩ := hB
  refine ⟨⟨j1, j2, ⟨fun x hx => ?_, hkd2, fun x hx => ?_, fun x hx => ?_, fun x hx => ?_, fun x hx => ?_, fun x k hx hk => ?_, fun x k hx hk => ?_⟩, ⟨?_, hH.2⟩, ?_, ?_, ?_, ⟨?_, fun k hk => ?_, fun k hk => ?_, b4, b5, fun x hx => ?_⟩, hop⟩, ⟨j3, j4, fun a j ha => ?_⟩⟩
  · exact (j5 _ _ (by omega)).trans ((hp_a (by omega)).trans ((hp_a (by omega)).trans (hkd x hx)))
  · show _ = Value.int (nI (fu T.2.1 e d x))
    rw [j5 _ _ (by omega), hp_a (by omega)]
    by_cases z : x = e
    · subst z; rw [fu_s]; exact hp_eq
    · rw [fu_n z, hp_j z]; exact hin x hx
  · show fu T.2.1 e d x < 300
    by_cases z : x = e
    · subst z; rw [fu_s]; exact hd
    · rw [fu_n z]; exact hin2 x hx
  · show _ = Value.int (nI (fu T.2.2.1 e (len - s_last p len) x))
    rw [j5 _ _ (by omega)]
    by_cases z : x = e
    · subst z; rw [fu_s]; exact hp_eq
    · rw [fu_n z, hp_j z, hp_a (by omega)]; exact hns x hx
  · show fu T.2.2.1 e (len - s_last p len) x ≤ 60
    by_cases z : x = e
    · subst z; rw [fu_s]; exact hl
    · rw [fu_n z]; exact hns2 x hx
  · have hk : k < fu T.2.2.1 e (len - s_last p len) x := hk
    show _ = Value.int (nI (fn T.2.2.2 e (fun k => p (s_last p len + k)) x k))
    by_cases z : x = e
    · subst z; rw [fu_s] at hk; rw [fn_s]; exact j7 k hk
    · rw [fu_n z] at hk; rw [fn_n z]
      have := hns2 x hx
      rw [j6 _ (by omega), hp_a (by omega), hp_a (by omega)]
      exact hnm x k hx hk
  · have hk : k < fu T.2.2.1 e (len - s_last p len) x := hk
    show fn T.2.2.2 e (fun k => p (s_last p len + k)) x k < 256
    by_cases z : x = e
    · subst z; rw [fu_s] at hk; rw [fn_s]; exact hp _ (by omega)
    · rw [fu_n z] at hk; rw [fn_n z]; exact hnm2 x k hx hk
  · exact (j5 _ _ (by omega)).trans ((hp_a (by omega)).trans ((hp_a (by omega)).trans hH.1))
  · exact (j5 _ _ (by omega)).trans ((hp_a (by omega)).trans ((hp_a (by omega)).trans hO))
  · exact (j5 _ _ (by omega)).trans ((hp_a (by omega)).trans ((hp_a (by omega)).trans hg))
  · exact (j5 _ _ (by omega)).trans ((hp_a (by omega)).trans ((hp_a (by omega)).trans hE))
  · exact (j5 _ _ (by omega)).trans ((hp_a (by omega)).trans ((hp_a (by omega)).trans b1))
  · exact (j5 _ _ (by omega)).trans ((hp_a (by omega)).trans ((hp_a (by omega)).trans (b2 k hk)))
  · exact (j5 _ _ (by omega)).trans ((hp_a (by omega)).trans ((hp_a (by omega)).trans (b3 k hk)))
  · exact (j5 _ _ (by omega)).trans ((hp_a (by omega)).trans ((hp_a (by omega)).trans (b6 x hx)))
  · exact (j5 _ _ (by omega)).trans ((hp_a (by omega)).trans (hp_a (by omega)))
theorem s_cnt_all {f : Nat → Bool} : ∀ n, (∀ e, e < n → f e = true) → s_cnt f n = n
  | 0, _ => rfl
  | n + 1, h => by rw [s_cnt_t (h n (by omega)), s_cnt_all n (fun e he => h e (by omega))]
/-- how many entries there are -/
abbrev s_many (T : TT) : Nat := s_cnt (fun e => decide (T.1 e ≠ 0)) 300
theorem s_free {T : TT} (h0 : T.1 0 ≠ 0) (h : s_many T ≠ 300) : ∃ f, 1 ≤ f ∧ f < 300 ∧ T.1 f = 0 ∧ ∀ x, x < f → T.1 x ≠ 0 := by
  have h1 : ∃ f, f < 300 ∧ T.1 f = 0 := Classical.byContradiction (fun z => h (s_cnt_all 300 (fun e he => decide_eq_true (fun q => z ⟨e, he, q⟩))))
  obtain ⟨f, ⟨hf, hk⟩, hm⟩ := pk_least (fun f => f < 300 ∧ T.1 f = 0) h1
  refine ⟨f, (Nat.eq_zero_or_pos f).elim (fun z => absurd (z ▸ hk) h0) id, hf, hk, fun x hx q => hm x hx ⟨by omega, q⟩⟩
/-- where an entry can be made by the path -/
def s_can (T : TT) (p : Nat → Nat) (hand len ents : Nat) : Option Nat := match s_home T p hand len with
  | none => none
  | some d => if s_isName p len ∧ ents ≠ 300 ∧ s_ent T p d (s_last p len) len = none then some d else none
/-- the tree with a new entry -/
def s_new (T : TT) (e w d : Nat) (p : Nat → Nat) (len : Nat) : TT := s_put (fu T.1 e w, T.2) e d p len
set_option maxHeartbeats 4000000 in
set_option maxRecDepth 100000 in
/-- PathTreeModel.put -/
theorem kR_put {G : GG} {h : HH} {o : Nat} {T : TT} {p : Nat → Nat} {len hand : Nat} {op : Option Nat} {gone : Bool} {ents : Nat} {bl : List (Nat × Nat)} {Q : Option Value → HH → Prop} {e d : Nat} (hI : RI G h o T p len hand op gone ents bl) (he : e < 300) (hd : d < 300) (hl : len - s_last p len ≤ 60) (hQ : ∀ h', RI G h' o (s_put T e d p len) p len hand op gone ents bl → FrO o h h' → Q none h') : V G mR_put 0 (lv_args 0 [.ref o, .int (nI e), .int (nI d)]) [] h 0 0 Q := by
  obtain ⟨hS, hP, hT, hH, hO, hg, hE, hB, hop⟩ := id hI
  obtain ⟨hz, hk0, hk1, hk2, hk3, hk4, hk5, hk6, hk7, hk8, hf0, hf2, hf3, hf4, hf5, hf6, hf12, hf13⟩ := id hS
  obtain ⟨hln, hpp, hl2, hp⟩ := id hP
  obtain ⟨hkd, hkd2, hin, hin2, hns, hns2, hnm, hnm2⟩ := id hT
  obtain ⟨hhand, hhl⟩ := id hH
  have hll := s_last_le p len
  have loop : ∀ r k hq, k + r = len → s_last p len ≤ k → NJ G (h_put (h_put h (o + 3) e (.int (nI d))) (o + 5) e (.int (nI (len - s_last p len)))) hq o e p len k → V G mR_put 27 [(3, .int (nI k)), (0, .ref o), (1, .int (nI e)), (2, .int (nI d))] [] hq 0 0 Q := by
    intro r
    induction r with
    | zero =>
      intro k hq hr hk hJ
      rw [show k = len by omega] at hJ ⊢
      obtain ⟨hSq, hPq, -⟩ := id hJ
      obtain ⟨hlnq, hppq, -⟩ := id hPq
      obtain ⟨hzq, hk0q, hk1q, hk2q, hk3q, hk4q, hk5q, hk6q, hk7q, hk8q, hf0q, hf2q, hf3q, hf4q, hf5q, hf6q, hf12q, hf13q⟩ := id hSq
      refine V.iload_n dR_put_27 rfl ?_
      first | refine V.aload_n dR_put_28 rfl ?_ | refine V.aload_nN dR_put_28 rfl ?_
      refine V.getk dR_put_29 (by omega) (by assumption) f_R_44_4 (by assumption) ?_
      refine V.icmp_ge (tgt := 63) dR_put_32 (by decide) (fun c_32 => ?_) (fun c_32 => ?_)
      · try simp (disch := omega) only [nI_ltI, nI_leI, nI_eq, zz_lt0, zz_ge0, zz_gt0, zz_le0, zz_eq0, zz_m1lt, zz_m1ge, zz_m1eq, bI_eq0, decide_eq_false_iff_not, decide_eq_true_eq, Decidable.not_not, not_true_eq_false, not_false_eq_true, Nat.not_lt, Nat.not_le, Bool.not_eq_false, Bool.not_eq_true] at c_32
        refine V.vreturn dR_put_63 rfl ?_
        have hd9 := NJ.done hI he hd hl hll hJ
        exact hQ hq hd9.1 hd9.2
      · try simp (disch := omega) only [nI_ltI, nI_leI, nI_eq, zz_lt0, zz_ge0, zz_gt0, zz_le0, zz_eq0, zz_m1lt, zz_m1ge, zz_m1eq, bI_eq0, decide_eq_false_iff_not, decide_eq_true_eq, Decidable.not_not, not_true_eq_false, not_false_eq_true, Nat.not_lt, Nat.not_le, Bool.not_eq_false, Bool.not_eq_true] at c_32
        all_goals omega
    | succ r ih =>
      intro k hq hr hk hJ
      obtain ⟨hSq, hPq, -⟩ := id hJ
      obtain ⟨hlnq, hppq, -⟩ := id hPq
      obtain ⟨hzq, hk0q, hk1q, hk2q, hk3q, hk4q, hk5q, hk6q, hk7q, hk8q, hf0q, hf2q, hf3q, hf4q, hf5q, hf6q, hf12q, hf13q⟩ := id hSq
      refine V.iload_n dR_put_27 rfl ?_
      first | refine V.aload_n dR_put_28 rfl ?_ | refine V.aload_nN dR_put_28 rfl ?_
      refine V.getk dR_put_29 (by omega) (by assumption) f_R_44_4 (by assumption) ?_
      refine V.icmp_ge (tgt := 63) dR_put_32 (by decide) (fun c_32 => ?_) (fun c_32 => ?_)
      · try simp (disch := omega) only [nI_ltI, nI_leI, nI_eq, zz_lt0, zz_ge0, zz_gt0, zz_le0, zz_eq0, zz_m1lt, zz_m1ge, zz_m1eq, bI_eq0, decide_eq_false_iff_not, decide_eq_true_eq, Decidable.not_not, not_true_eq_false, not_false_eq_true, Nat.not_lt, Nat.not_le, Bool.not_eq_false, Bool.not_eq_true] at c_32
        all_goals omega
      · try simp (disch := omega) only [nI_ltI, nI_leI, nI_eq, zz_lt0, zz_ge0, zz_gt0, zz_le0, zz_eq0, zz_m1lt, zz_m1ge, zz_m1eq, bI_eq0, decide_eq_false_iff_not, decide_eq_true_eq, Decidable.not_not, not_true_eq_false, not_false_eq_true, Nat.not_lt, Nat.not_le, Bool.not_eq_false, Bool.not_eq_true] at c_32
        first | refine V.aload_n dR_put_35 rfl ?_ | refine V.aload_nN dR_put_35 rfl ?_
        refine V.getk dR_put_36 (by omega) (by assumption) f_R_25_4 (by assumption) ?_
        refine V.bipush (v := (nI 60)) dR_put_39 (by decide) ?_
        refine V.iload_n dR_put_41 rfl ?_
        refine V.imulN dR_put_42 ?_
        refine V.iload_n dR_put_43 rfl ?_
        refine V.iaddN dR_put_44 ?_
        first | refine V.aload_n dR_put_45 rfl ?_ | refine V.aload_nN dR_put_45 rfl ?_
        refine V.callVk (kd := 4) 0 _ 0 _ [] dR_put_46 okR_last n_R_61 (by omega) (by assumption) rfl imR_last seR_last_R (by decide) (by decide) rfl rfl (Nat.le_of_ble_eq_true rfl) (Nat.le_of_ble_eq_true rfl) (Nat.le_of_eq (Nat.zero_add _)) (Nat.le_of_eq (Nat.zero_add _)) (kR_last hSq hPq ?_)
        refine V.isubN dR_put_49 (by omega) ?_
        first | refine V.aload_n dR_put_50 rfl ?_ | refine V.aload_nN dR_put_50 rfl ?_
        refine V.getk dR_put_51 (by omega) (by assumption) f_R_7_4 (by assumption) ?_
        refine V.iload_n dR_put_54 rfl ?_
        have hpk := hp k (by omega)
        refine V.ialoadN dR_put_55 (by omega) (by assumption) (by omega) (hppq k (by omega)) ?_
        refine V.iastoreN dR_put_56 (by omega) (by assumption) (by omega) rfl ?_
        intro h56 e56
        refine V.iincN dR_put_57 rfl (by decide) ?_
        refine V.goto (tgt := 27) dR_put_60 (by decide) ?_
        exact V.re [3, 0, 1, 2] rfl (ih (k + 1) h56 (by omega) (by omega) (by rw [e56]; exact hJ.step (by omega) (by omega) hl))
  first | refine V.aload_n dR_put_0 rfl ?_ | refine V.aload_nN dR_put_0 rfl ?_
  refine V.getk dR_put_1 (by omega) (by assumption) f_R_16_4 (by assumption) ?_
  refine V.iload_n dR_put_4 rfl ?_
  refine V.iload_n dR_put_5 rfl ?_
  refine V.iastoreN dR_put_6 (by omega) (by assumption) (by omega) rfl ?_
  intro h6 e6
  have hI6 : RI G h6 o (T.1, fu T.2.1 e d, T.2.2) p len hand op gone ents bl := by (rw [e6]; exact hI.par hd)
  obtain ⟨hSb, hPb, hTb, hHb, hOb, hgb, hEb, hBb, hopb⟩ := id hI6
  obtain ⟨hzb, hk0b, hk1b, hk2b, hk3b, hk4b, hk5b, hk6b, hk7b, hk8b, hf0b, hf2b, hf3b, hf4b, hf5b, hf6b, hf12b, hf13b⟩ := id hSb
  obtain ⟨hlnb, hppb, hl2b, hpb⟩ := id hPb
  obtain ⟨hkdb, hkd2b, hinb, hin2b, hnsb, hns2b, hnmb, hnm2b⟩ := id hTb
  obtain ⟨hhandb, hhlb⟩ := id hHb
  first | refine V.aload_n dR_put_7 rfl ?_ | refine V.aload_nN dR_put_7 rfl ?_
  refine V.getk dR_put_8 (by omega) (by assumption) f_R_22_4 (by assumption) ?_
  refine V.iload_n dR_put_11 rfl ?_
  first | refine V.aload_n dR_put_12 rfl ?_ | refine V.aload_nN dR_put_12 rfl ?_
  refine V.getk dR_put_13 (by omega) (by assumption) f_R_44_4 (by assumption) ?_
  first | refine V.aload_n dR_put_16 rfl ?_ | refine V.aload_nN dR_put_16 rfl ?_
  refine V.callVk (kd := 4) 0 _ 0 _ [] dR_put_17 okR_last n_R_61 (by omega) (by assumption) rfl imR_last seR_last_R (by decide) (by decide) rfl rfl (Nat.le_of_ble_eq_true rfl) (Nat.le_of_ble_eq_true rfl) (Nat.le_of_eq (Nat.zero_add _)) (Nat.le_of_eq (Nat.zero_add _)) (kR_last hSb hPb ?_)
  refine V.isubN dR_put_20 (by omega) ?_
  refine V.iastoreN dR_put_21 (by omega) (by assumption) (by omega) rfl ?_
  intro h21 e21
  have hS21 : RS G h21 o := by (rw [e21]; exact hSb.put (by omega))
  have hP21 : RP h21 o p len := by (rw [e21]; exact hPb.put (by omega))
  obtain ⟨hzc, hk0c, hk1c, hk2c, hk3c, hk4c, hk5c, hk6c, hk7c, hk8c, hf0c, hf2c, hf3c, hf4c, hf5c, hf6c, hf12c, hf13c⟩ := id hS21
  first | refine V.aload_n dR_put_22 rfl ?_ | refine V.aload_nN dR_put_22 rfl ?_
  refine V.callVk (kd := 4) 0 _ 0 _ [] dR_put_23 okR_last n_R_61 (by omega) (by assumption) rfl imR_last seR_last_R (by decide) (by decide) rfl rfl (Nat.le_of_ble_eq_true rfl) (Nat.le_of_ble_eq_true rfl) (Nat.le_of_eq (Nat.zero_add _)) (Nat.le_of_eq (Nat.zero_add _)) (kR_last hS21 hP21 ?_)
  refine V.istore_n dR_put_26 (by decide) ?_
  exact V.re [3, 0, 1, 2] rfl (loop (len - s_last p len) (s_last p len) h21 (by omega) (by omega) ⟨hS21, hP21, by (rw [e21, e6]), by (rw [e21, e6]), fun a j _ => by (rw [e21, e6]), fun j _ => by (rw [e21, e6]), fun j hj => by omega⟩)
