/-- the tree at the start -/
def s_T0 : TT := (fun e => if e = 0 then 2 else 0, fun _ => 0, fun _ => 0, fun _ _ => 0)
/-- a new reference, n of its arrays made: its object's fields f; the arrays' kinds and zeros -/
def RN (G : GG) (h0 h : HH) (o n : Nat) (ks : List (Nat × Nat)) (fs : Nat → Value) : Prop := g_0 G ≤ o ∧ h.2.2 = o + 1 + n ∧ ks.length = n ∧ (h.1 o).1 = 4 ∧ (∀ j, h.2.1 o j = fs j) ∧ (∀ k q, ks[k]? = some q → h.1 (o + 1 + k) = q ∧ ∀ j, h.2.1 (o + 1 + k) j = .int 0) ∧ ∀ a, a < o → h.1 a = h0.1 a ∧ ∀ j, h.2.1 a j = h0.2.1 a j
theorem RN.arr {G : GG} {h0 h h' : HH} {o n kd N : Nat} {ks : List (Nat × Nat)} {fs g : Nat → Value} (hN : RN G h0 h o n ks fs) (hg : ∀ j, g j = .int 0) (e : h' = h_new h kd N g) : RN G h0 h' o (n + 1) (ks ++ [(kd, N)]) fs := by
  obtain ⟨a1, a2, a3, a4, a5, a6, a7⟩ := hN
  subst e
  refine ⟨a1, by show h.2.2 + 1 = _; omega, by rw [List.length_append, a3]; rfl, by rw [hn_kn (by omega)]; exact a4, fun j => by rw [hn_fn (by omega)]; exact a5 j, fun k q hq => ?_, fun a ha => ⟨by rw [hn_kn (by omega)]; exact (a7 a ha).1, fun j => by rw [hn_fn (by omega)]; exact (a7 a ha).2 j⟩⟩
  by_cases z : k < ks.length
  · rw [List.getElem?_append_left z] at hq
    have q9 := a6 k q hq
    exact ⟨by rw [hn_kn (by omega)]; exact q9.1, fun j => by rw [hn_fn (by omega)]; exact q9.2 j⟩
  · have z2 : k < (ks ++ [(kd, N)]).length := (List.getElem?_eq_some_iff.mp hq).1
    rw [List.length_append, List.length_singleton] at z2
    rw [List.getElem?_append_right (by omega), show k - ks.length = 0 by omega] at hq
    cases hq
    exact ⟨hn_k (by omega), fun j => by rw [hn_f (by omega)]; exact hg j⟩
theorem RN.fld {G : GG} {h0 h h' : HH} {o n k : Nat} {ks : List (Nat × Nat)} {fs : Nat → Value} {v : Value} (hN : RN G h0 h o n ks fs) (e : h' = h_put h o k v) : RN G h0 h' o n ks (updV fs k v) := by
  obtain ⟨a1, a2, a3, a4, a5, a6, a7⟩ := hN
  subst e
  refine ⟨a1, a2, a3, a4, fun j => ?_, fun k2 q hq => ⟨(a6 k2 q hq).1, fun j => (hp_a (by omega)).trans ((a6 k2 q hq).2 j)⟩, fun a ha => ⟨(a7 a ha).1, fun j => (hp_a (by omega)).trans ((a7 a ha).2 j)⟩⟩
  by_cases z : j = k
  · subst z; rw [hp_eq]; simp [updV]
  · rw [hp_j z, a5]; simp [updV, z]
theorem RN.ha {G : GG} {h0 h : HH} {o n : Nat} {ks : List (Nat × Nat)} {fs : Nat → Value} (hN : RN G h0 h o n ks fs) : g_0 G ≤ o ∧ o < h.2.2 := ⟨hN.1, by have := hN.2.1; omega⟩
theorem RN.done {G : GG} {h0 h : HH} {o : Nat} {p : Nat → Nat} {fs : Nat → Value} (hN : RN G h0 h o 8 [(104, 250), (104, 300), (104, 300), (104, 300), (104, 300), (104, 18000), (102, 65536), (103, 65536)] fs)
    (h_0 : fs 0 = .ref (o + 1)) (h_1 : fs 1 = .int 0) (h_2 : fs 2 = .ref (o + 2)) (h_3 : fs 3 = .ref (o + 3)) (h_4 : fs 4 = .ref (o + 4)) (h_5 : fs 5 = .ref (o + 5)) (h_6 : fs 6 = .ref (o + 6)) (h_7 : fs 7 = .int (nI 1)) (h_8 : fs 8 = .int 0) (h_9 : fs 9 = .int (-1)) (h_10 : fs 10 = .int 0) (h_11 : fs 11 = .int 0) (h_12 : fs 12 = .ref (o + 7)) (h_13 : fs 13 = .ref (o + 8)) :
    RI G (h_put h (o + 2) 0 (.int (nI 2))) o s_T0 p 0 0 none false 1 [] := by
  obtain ⟨a1, a2, a3, a4, a5, a6, a7⟩ := hN
  have k1 := a6 0 _ rfl
  have k2 := a6 1 _ rfl
  have k3 := a6 2 _ rfl
  have k4 := a6 3 _ rfl
  have k5 := a6 4 _ rfl
  have k6 := a6 5 _ rfl
  have k7 := a6 6 _ rfl
  have k8 := a6 7 _ rfl
  have f : ∀ j v, fs j = v → (h_put h (o + 2) 0 (.int (nI 2))).2.1 o j = v := fun j v e => (hp_a (by omega)).trans ((a5 j).trans e)
  refine ⟨⟨⟨a1, by show o + 9 ≤ h.2.2; omega⟩, a4, k1.1, k2.1, k3.1, k4.1, k5.1, k6.1, k7.1, k8.1, f 0 _ h_0, f 2 _ h_2, f 3 _ h_3, f 4 _ h_4, f 5 _ h_5, f 6 _ h_6, f 12 _ h_12, f 13 _ h_13⟩, ⟨f 1 _ h_1, fun j hj => absurd hj (Nat.not_lt_zero j), by omega, fun j hj => absurd hj (Nat.not_lt_zero j)⟩,
    ⟨fun e he => ?_, fun e he => ?_, fun e he => (hp_a (by omega)).trans (k3.2 e), fun e he => by (show (0 : Nat) < 300; omega), fun e he => (hp_a (by omega)).trans (k5.2 e), fun e he => by (show (0 : Nat) ≤ 60; omega), fun e k he hk => absurd hk (Nat.not_lt_zero k), fun e k he hk => absurd hk (Nat.not_lt_zero k)⟩,
    ⟨f 8 _ h_8, by omega⟩, f 9 _ h_9, f 10 _ h_10, f 7 _ h_7, ⟨f 11 _ h_11, fun k hk => absurd hk (Nat.not_lt_zero k), fun k hk => absurd hk (Nat.not_lt_zero k), fun q hq => absurd hq List.not_mem_nil, by decide, fun e he => (hp_a (by omega)).trans (k4.2 e)⟩, fun e z => by (cases z)⟩
  · show _ = Value.int (nI (if e = 0 then 2 else 0))
    by_cases z : e = 0
    · subst z; rw [if_pos rfl]; exact hp_eq
    · rw [if_neg z, hp_j z]; exact k2.2 e
  · show (if e = 0 then 2 else 0) ≤ 2
    split <;> omega
set_option maxHeartbeats 4000000 in
set_option maxRecDepth 100000 in
/-- PathTreeModel() -/
theorem kR_init {G : GG} {h : HH} {o : Nat} {p : Nat → Nat} {Q : Option Value → HH → Prop} (ho : g_0 G ≤ o) (hz : h.2.2 = o + 1) (hk : (h.1 o).1 = 4) (hf : ∀ j, h.2.1 o j = xZ_R j) (hQ : ∀ h', h'.2.2 = o + 9 → (∀ a, a < o → h'.1 a = h.1 a ∧ ∀ j, h'.2.1 a j = h.2.1 a j) → RI G h' o s_T0 p 0 0 none false 1 [] → Q none h') : V G mR_init 0 (lv_args 0 [.ref o]) [] h 8 150522 Q := by
  have n0 : RN G h h o 0 [] (h.2.1 o) := ⟨ho, hz, rfl, hk, fun _ => rfl, fun k q z => by (cases z), fun a ha => ⟨rfl, fun _ => rfl⟩⟩
  first | refine V.aload_n dR_init_0 rfl ?_ | refine V.aload_nN dR_init_0 rfl ?_
  refine V.objInit dR_init_1 nl_R_1 oi_1 oi_2 (by decide) (by decide) (Nat.le_of_ble_eq_true rfl) ?_
  first | refine V.aload_n dR_init_4 rfl ?_ | refine V.aload_nN dR_init_4 rfl ?_
  refine V.sipush (v := (nI 250)) dR_init_5 (by decide) ?_
  refine V.newaN (kd := 104) (c2 := 7) (s2 := 150272) dR_init_8 rfl ar_int rfl (by decide) (by decide) (by decide) n0.2.1 ?_
  intro x8 e8 z8
  have n8 := n0.arr (fun _ => rfl) e8
  clear e8 z8
  refine V.putk dR_init_10 n8.ha n8.2.2.2.1 (p_R_7_4 rfl) rfl rfl ?_
  intro x10 e10
  have n10 := n8.fld e10
  clear e10
  first | refine V.aload_n dR_init_13 rfl ?_ | refine V.aload_nN dR_init_13 rfl ?_
  refine V.sipush (v := (nI 300)) dR_init_14 (by decide) ?_
  refine V.newaN (kd := 104) (c2 := 6) (s2 := 149972) dR_init_17 rfl ar_int rfl (by decide) (by decide) (by decide) n10.2.1 ?_
  intro x17 e17 z17
  have n17 := n10.arr (fun _ => rfl) e17
  clear e17 z17
  refine V.putk dR_init_19 n17.ha n17.2.2.2.1 (p_R_13_4 rfl) rfl rfl ?_
  intro x19 e19
  have n19 := n17.fld e19
  clear e19
  first | refine V.aload_n dR_init_22 rfl ?_ | refine V.aload_nN dR_init_22 rfl ?_
  refine V.sipush (v := (nI 300)) dR_init_23 (by decide) ?_
  refine V.newaN (kd := 104) (c2 := 5) (s2 := 149672) dR_init_26 rfl ar_int rfl (by decide) (by decide) (by decide) n19.2.1 ?_
  intro x26 e26 z26
  have n26 := n19.arr (fun _ => rfl) e26
  clear e26 z26
  refine V.putk dR_init_28 n26.ha n26.2.2.2.1 (p_R_16_4 rfl) rfl rfl ?_
  intro x28 e28
  have n28 := n26.fld e28
  clear e28
  first | refine V.aload_n dR_init_31 rfl ?_ | refine V.aload_nN dR_init_31 rfl ?_
  refine V.sipush (v := (nI 300)) dR_init_32 (by decide) ?_
  refine V.newaN (kd := 104) (c2 := 4) (s2 := 149372) dR_init_35 rfl ar_int rfl (by decide) (by decide) (by decide) n28.2.1 ?_
  intro x35 e35 z35
  have n35 := n28.arr (fun _ => rfl) e35
  clear e35 z35
  refine V.putk dR_init_37 n35.ha n35.2.2.2.1 (p_R_19_4 rfl) rfl rfl ?_
  intro x37 e37
  have n37 := n35.fld e37
  clear e37
  first | refine V.aload_n dR_init_40 rfl ?_ | refine V.aload_nN dR_init_40 rfl ?_
  refine V.sipush (v := (nI 300)) dR_init_41 (by decide) ?_
  refine V.newaN (kd := 104) (c2 := 3) (s2 := 149072) dR_init_44 rfl ar_int rfl (by decide) (by decide) (by decide) n37.2.1 ?_
  intro x44 e44 z44
  have n44 := n37.arr (fun _ => rfl) e44
  clear e44 z44
  refine V.putk dR_init_46 n44.ha n44.2.2.2.1 (p_R_22_4 rfl) rfl rfl ?_
  intro x46 e46
  have n46 := n44.fld e46
  clear e46
  first | refine V.aload_n dR_init_49 rfl ?_ | refine V.aload_nN dR_init_49 rfl ?_
  refine V.sipush (v := (nI 18000)) dR_init_50 (by decide) ?_
  refine V.newaN (kd := 104) (c2 := 2) (s2 := 131072) dR_init_53 rfl ar_int rfl (by decide) (by decide) (by decide) n46.2.1 ?_
  intro x53 e53 z53
  have n53 := n46.arr (fun _ => rfl) e53
  clear e53 z53
  refine V.putk dR_init_55 n53.ha n53.2.2.2.1 (p_R_25_4 rfl) rfl rfl ?_
  intro x55 e55
  have n55 := n53.fld e55
  clear e55
  first | refine V.aload_n dR_init_58 rfl ?_ | refine V.aload_nN dR_init_58 rfl ?_
  refine V.iconst (v := (nI 1)) dR_init_59 (by decide) ?_
  refine V.putk dR_init_60 n55.ha n55.2.2.2.1 p_R_28_4 rfl rfl ?_
  intro x60 e60
  have n60 := n55.fld e60
  clear e60
  first | refine V.aload_n dR_init_63 rfl ?_ | refine V.aload_nN dR_init_63 rfl ?_
  refine V.iconst (v := (-1)) dR_init_64 (by decide) ?_
  refine V.putk dR_init_65 n60.ha n60.2.2.2.1 p_R_32_4 rfl rfl ?_
  intro x65 e65
  have n65 := n60.fld e65
  clear e65
  first | refine V.aload_n dR_init_68 rfl ?_ | refine V.aload_nN dR_init_68 rfl ?_
  refine V.ldc (v := nI 65536) dR_init_69 co_R_35 ?_
  refine V.newaN (kd := 102) (c2 := 1) (s2 := 65536) dR_init_71 rfl ar_byte rfl (by decide) (by decide) (by decide) n65.2.1 ?_
  intro x71 e71 z71
  have n71 := n65.arr (fun _ => rfl) e71
  clear e71 z71
  refine V.putk dR_init_73 n71.ha n71.2.2.2.1 (p_R_36_4 rfl) rfl rfl ?_
  intro x73 e73
  have n73 := n71.fld e73
  clear e73
  first | refine V.aload_n dR_init_76 rfl ?_ | refine V.aload_nN dR_init_76 rfl ?_
  refine V.ldc (v := nI 65536) dR_init_77 co_R_35 ?_
  refine V.newaN (kd := 103) (c2 := 0) (s2 := 0) dR_init_79 rfl ar_short rfl (by decide) (by decide) (by decide) n73.2.1 ?_
  intro x79 e79 z79
  have n79 := n73.arr (fun _ => rfl) e79
  clear e79 z79
  refine V.putk dR_init_81 n79.ha n79.2.2.2.1 (p_R_40_4 rfl) rfl rfl ?_
  intro x81 e81
  have n81 := n79.fld e81
  clear e81
  have g2 : x81.2.1 o 2 = .ref (o + 2) := (n81.2.2.2.2.1 2).trans rfl
  have hk2 : x81.1 (o + 2) = (104, 300) := (n81.2.2.2.2.2.1 1 (104, 300) rfl).1
  have hz9 := n81.2.1
  first | refine V.aload_n dR_init_84 rfl ?_ | refine V.aload_nN dR_init_84 rfl ?_
  refine V.getk dR_init_85 n81.ha n81.2.2.2.1 f_R_13_4 g2 ?_
  refine V.iconst (v := (nI 0)) dR_init_88 (by decide) ?_
  refine V.iconst (v := (nI 2)) dR_init_89 (by decide) ?_
  refine V.iastoreN dR_init_90 (by omega) hk2 (by omega) rfl ?_
  intro x90 e90
  refine V.vreturn dR_init_91 rfl ?_
  subst e90
  exact hQ _ hz9 (fun a ha => ⟨(n81.2.2.2.2.2.2 a ha).1, fun j => (hp_a (by omega)).trans ((n81.2.2.2.2.2.2 a ha).2 j)⟩) (n81.done rfl (hf 1) rfl rfl rfl rfl rfl rfl (hf 8) rfl (hf 10) (hf 11) rfl rfl)
