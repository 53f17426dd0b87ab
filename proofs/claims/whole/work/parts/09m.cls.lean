theorem t0_1 : s_cnt (fun e => decide (s_T0.1 e = 1)) 300 = 0 := by decide +kernel
theorem t0_2 : s_cnt (fun e => decide (s_T0.1 e = 2)) 300 = 1 := by decide +kernel
theorem t0_l {e : Nat} (h : s_T0.1 e ≠ 0) : e = 0 := by
  by_cases z : e = 0
  · exact z
  · exact absurd (show (if e = 0 then 2 else 0) = 0 from if_neg z) h
theorem t0_0 : s_T0.1 0 = 2 := rfl
theorem t0_n {e : Nat} (h : e ≠ 0) : s_T0.1 e = 0 := if_neg h
/-- a new object, before there is a reference -/
def P0 (G : GG) (h : HH) (x : Nat) (p : Nat → Nat) : Prop := CP G h x s_T0 0 [] (fun _ => x + 3) ∧ CO G h x s_T0 none false (fun _ => x + 3) 0 0 0 ∧ TX G h (x + 1) p 0 ∧ CT G h x s_T0 (fun _ => x + 3) (fun _ => x + 4) (fun _ => [])
theorem P0.ci {G : GG} {h h' : HH} {x o : Nat} {p : Nat → Nat} (hP : P0 G h x p) (hF : FK (fun _ _ => False) h h') (hN : NK o h') : CI G h' x o s_T0 p 0 0 none false [] (fun _ => x + 3) (fun _ => x + 4) (fun _ => []) (fun _ => 0) (fun _ => 0) 0 0 0 := by
  obtain ⟨h1, h2, h3, h4⟩ := hP
  refine ⟨hN, h1.fk hF (fun _ z => z), h2.fk h1.1.2 hF (fun z => z) (fun _ z => by cases z), h3.fk hF (fun _ => ⟨fun z => z, fun z => z⟩), h4.fk hF (fun _ _ _ z => z.elim), fun e he h1 => ?_, fun e f he hf h1 => ?_⟩
  · rw [t0_l (by omega : s_T0.1 e ≠ 0), t0_0] at h1; omega
  · rw [t0_l (by omega : s_T0.1 e ≠ 0), t0_0] at h1; omega
theorem P0.of {G : GG} {h : HH} {x : Nat} {p : Nat → Nat} (hx : g_0 G ≤ x) (hz : h.2.2 = x + 5) (kx : (h.1 x).1 = 0) (v0 : h.2.1 x 0 = .ref (x + 1)) (w1 : h.2.1 x 1 = .ref (x + 3)) (w2 : h.2.1 x 2 = .ref (x + 3)) (w3 : h.2.1 x 3 = .null) (w4 : h.2.1 x 4 = .int (nI 0)) (w5 : h.2.1 x 5 = .int (nI 1)) (w6 : h.2.1 x 6 = .int (nI 0)) (hX : TX G h (x + 1) p 0)
    (k3 : h.1 (x + 3) = (2, 5)) (k4 : h.1 (x + 4) = (101, 0)) (r0 : h.2.1 (x + 3) 0 = .ref (x + 4)) (r1 : h.2.1 (x + 3) 1 = .null) (r3 : h.2.1 (x + 3) 3 = .null) (r4 : h.2.1 (x + 3) 4 = .int (nI 0)) : P0 G h x p := by
  refine ⟨⟨⟨hx, by omega⟩, kx, v0, w1, w2, ⟨by omega, t0_0⟩, by rw [t0_1]; exact w4, by rw [t0_2]; exact w5, w6⟩, ⟨w3, fun e z => by (cases z), fun e z => by (cases z)⟩, hX, fun e he => ⟨?_, by (show (0 : Nat) < 300; omega)⟩, fun e he hl => ?_, fun e he hl h0 => absurd (t0_l hl) h0, ⟨r1, t0_0, rfl⟩, fun e f he hf hle hlf _ => (t0_l hle).trans (t0_l hlf).symm, fun d hd h2 => ⟨r3, r4, List.Pairwise.nil, fun i => ⟨fun q => absurd q List.not_mem_nil, fun q => ?_⟩⟩⟩
  · by_cases z : e = 0
    · rw [z, t0_0]; omega
    · rw [t0_n z]; omega
  · rw [t0_l hl]
    show EN G h (x + 3) (x + 4) (s_T0.2.2.1 0) (s_T0.2.2.2 0) ∧ (h.1 (x + 3)).1 + s_T0.1 0 = 4 ∧ x + 4 ≠ x + 2
    refine ⟨⟨⟨by omega, by omega⟩, by rw [k3]; exact Or.inl rfl, r0, ⟨by omega, by omega⟩, by rw [k4]; rfl, by (show (0 : Nat) ≤ 60; omega), fun k hk => absurd hk (Nat.not_lt_zero k), fun k hk => absurd hk (Nat.not_lt_zero k)⟩, by rw [k3, t0_0], by omega⟩
  · have := t0_l q.2.2.1; omega
/-- fields of the object at x alone are set -/
def XF (h0 h : HH) (x : Nat) (fs : Nat → Value) : Prop := h.1 = h0.1 ∧ h.2.2 = h0.2.2 ∧ (∀ j, h.2.1 x j = fs j) ∧ ∀ b j, b ≠ x → h.2.1 b j = h0.2.1 b j
theorem XF.fld {h0 h h' : HH} {x k : Nat} {fs : Nat → Value} {v : Value} (hN : XF h0 h x fs) (e : h' = h_put h x k v) : XF h0 h' x (updV fs k v) := by
  obtain ⟨a1, a2, a3, a4⟩ := hN
  subst e
  refine ⟨a1, a2, fun j => ?_, fun b j hb => (hp_a hb).trans (a4 b j hb)⟩
  show (if x = x ∧ j = k then v else h.2.1 x j) = if j = k then v else fs j
  by_cases z : j = k
  · simp [z]
  · simp [z, a3]
set_option maxHeartbeats 4000000 in
set_option maxRecDepth 100000 in
/-- PathTree() -/
theorem k_P_init {G : GG} {h : HH} {x : Nat} {p : Nat → Nat} {Q : Option Value → HH → Prop} (hx : g_0 G ≤ x) (hz : h.2.2 = x + 1) (hk : (h.1 x).1 = 0) (hQ : ∀ h', h'.2.2 = x + 5 → (∀ b, b < x → h'.1 b = h.1 b ∧ ∀ j, h'.2.1 b j = h.2.1 b j) → P0 G h' x p → Q none h') : V G mP_init 0 (lv_args 0 [.ref x]) [] h 4 257 Q := by
  first | refine V.aload_n dP_init_0 rfl ?_ | refine V.aload_nN dP_init_0 rfl ?_
  refine V.objInit dP_init_1 nl_P_1 oi_1 oi_2 (by decide) (by decide) (Nat.le_of_ble_eq_true rfl) ?_
  first | refine V.aload_n dP_init_4 rfl ?_ | refine V.aload_nN dP_init_4 rfl ?_
  refine V.newk (c2 := 3) (s2 := 255) dP_init_5 w_P_7 (by omega) (by omega) hz ?_
  intro h1 e1 z1
  have k1 : (h1.1 (x + 1)).1 = 1 := by (rw [e1, hn_k hz])
  have s1 : ∀ b, b < x + 1 → h1.1 b = h.1 b ∧ ∀ j, h1.2.1 b j = h.2.1 b j := fun b hb => ⟨by rw [e1]; exact hn_kn (by omega), fun j => by rw [e1]; exact hn_fn (by omega)⟩
  refine V.dup dP_init_8 rfl ?_
  refine V.callI 1 2 250 5 [] dP_init_9 okT_init n_P_9 rfl rfl imT_init (by decide) (by decide) rfl rfl (Nat.le_of_ble_eq_true rfl) (Nat.le_of_ble_eq_true rfl) (by omega) (by omega) (k_T_init (t := x + 1) (p := p) (by omega) z1 k1 (fun h2 z2 hX2 s2 => ?_))
  have t2 : ∀ b, b < x + 1 → h2.1 b = h.1 b ∧ ∀ j, h2.2.1 b j = h.2.1 b j := fun b hb => ⟨(s2 b hb).1.trans (s1 b hb).1, fun j => ((s2 b hb).2 j).trans ((s1 b hb).2 j)⟩
  have kx2 : (h2.1 x).1 = 0 := by (rw [(t2 x (by omega)).1]; exact hk)
  refine V.putk dP_init_12 (by omega) kx2 (p_P_10_0 rfl) rfl rfl ?_
  intro h3 e3
  have z3 : h3.2.2 = x + 3 := by (rw [e3]; exact z2)
  first | refine V.aload_n dP_init_15 rfl ?_ | refine V.aload_nN dP_init_15 rfl ?_
  refine V.newk (c2 := 1) (s2 := 0) dP_init_16 w_P_16 (by omega) (by omega) z3 ?_
  intro h4 e4 z4
  refine V.dup dP_init_19 rfl ?_
  refine V.iconst (v := (nI 0)) dP_init_20 (by decide) ?_
  refine V.newaN (kd := 101) (c2 := 0) (s2 := 0) (N := 0) dP_init_21 rfl ar_char rfl (by omega) (by omega) (by omega) z4 ?_
  intro h5 e5 z5
  have s5 : ∀ b, b < x + 3 → h5.1 b = h2.1 b ∧ ∀ j, ¬ (b = x ∧ j = 0) → h5.2.1 b j = h2.2.1 b j := fun b hb => ⟨by rw [e5, hn_kn (by omega), e4, hn_kn (by omega), e3]; rfl, fun j hj => by rw [e5, hn_fn (by omega), e4, hn_fn (by omega), e3, hp_ne hj]⟩
  have x50 : h5.2.1 x 0 = .ref (x + 1) := by (rw [e5, hn_fn (by omega), e4, hn_fn (by omega), e3]; exact hp_eq)
  have k53 : h5.1 (x + 3) = (2, 5) := by (rw [e5, hn_kn (by omega), e4]; exact hn_k z3)
  have k54 : h5.1 (x + 4) = (101, 0) := by (rw [e5]; exact hn_k z4)
  have kx5 : (h5.1 x).1 = 0 := by (rw [(s5 x (by omega)).1]; exact kx2)
  refine V.callI 0 _ 0 _ [_] dP_init_23 okD_init n_P_18 rfl rfl imD_init (by decide) (by decide) rfl rfl (Nat.le_of_ble_eq_true rfl) (Nat.le_of_ble_eq_true rfl) (Nat.le_of_eq (Nat.zero_add _)) (Nat.le_of_eq (Nat.zero_add _)) (k_D_init (a := x + 3) (n := x + 4) (by omega) (by rw [k53]) (fun h6 hD6 => ?_))
  have z6 : h6.2.2 = x + 5 := hD6.2.1.trans z5
  have k6 : h6.1 = h5.1 := hD6.1
  have kx6 : (h6.1 x).1 = 0 := by (rw [k6]; exact kx5)
  have x60 : h6.2.1 x 0 = .ref (x + 1) := (hD6.2.2.2.2.2.2 x 0 (by omega)).trans x50
  have k63 : h6.1 (x + 3) = (2, 5) := by (rw [k6]; exact k53)
  have k64 : h6.1 (x + 4) = (101, 0) := by (rw [k6]; exact k54)
  have hX6 : TX G h6 (x + 1) p 0 := hX2.fk (S := fun b _ => b = x) ⟨by omega, fun b hb => by rw [k6]; exact (s5 b (by omega)).1, fun b j hb hn => (hD6.2.2.2.2.2.2 b j (by omega)).trans ((s5 b (by omega)).2 j (fun z => hn z.1))⟩ (fun j => ⟨by omega, by omega⟩)
  have r0 := hD6.2.2.1
  have r1 := hD6.2.2.2.1
  have r3 := hD6.2.2.2.2.1
  have r4 := hD6.2.2.2.2.2.1
  have fr : ∀ b, b < x → h6.1 b = h.1 b ∧ ∀ j, h6.2.1 b j = h.2.1 b j := fun b hb => ⟨by rw [k6, (s5 b (by omega)).1]; exact (t2 b (by omega)).1, fun j => (hD6.2.2.2.2.2.2 b j (by omega)).trans (((s5 b (by omega)).2 j (fun z => by omega)).trans ((t2 b (by omega)).2 j))⟩
  have n0 : XF h6 h6 x (h6.2.1 x) := ⟨rfl, rfl, fun _ => rfl, fun _ _ _ => rfl⟩
  have hx6 : ∀ {g : HH} {fs : Nat → Value}, XF h6 g x fs → (g_0 G ≤ x ∧ x < g.2.2) ∧ (g.1 x).1 = 0 := fun hn => ⟨⟨hx, by rw [hn.2.1, z6]; omega⟩, by rw [hn.1]; exact kx6⟩
  clear hD6 x50 k53 k54 kx5 s5 e5 z5 e4 z4 e3 z3 kx2 t2 s2 z2 hX2 s1 k1 z1 e1
  refine V.putk dP_init_26 (hx6 n0).1 (hx6 n0).2 (p_P_21_0 rfl) rfl rfl ?_
  intro g1 f1
  have n1 := n0.fld f1
  clear f1
  have v1 : g1.2.1 x 1 = .ref (x + 3) := n1.2.2.1 1
  first | refine V.aload_n dP_init_29 rfl ?_ | refine V.aload_nN dP_init_29 rfl ?_
  first | refine V.aload_n dP_init_30 rfl ?_ | refine V.aload_nN dP_init_30 rfl ?_
  refine V.getk dP_init_31 (hx6 n1).1 (hx6 n1).2 f_P_21_0 v1 ?_
  refine V.putk dP_init_34 (hx6 n1).1 (hx6 n1).2 p_P_25_0 rfl rfl ?_
  intro g2 f2
  have n2 := n1.fld f2
  clear f2
  first | refine V.aload_n dP_init_37 rfl ?_ | refine V.aload_nN dP_init_37 rfl ?_
  refine V.null dP_init_38 ?_
  refine V.putk dP_init_39 (hx6 n2).1 (hx6 n2).2 p_P_28_0 rfl rfl ?_
  intro g3 f3
  have n3 := n2.fld f3
  clear f3
  first | refine V.aload_n dP_init_42 rfl ?_ | refine V.aload_nN dP_init_42 rfl ?_
  refine V.iconst (v := (nI 0)) dP_init_43 (by decide) ?_
  refine V.putk dP_init_44 (hx6 n3).1 (hx6 n3).2 p_P_32_0 rfl rfl ?_
  intro g4 f4
  have n4 := n3.fld f4
  clear f4
  first | refine V.aload_n dP_init_47 rfl ?_ | refine V.aload_nN dP_init_47 rfl ?_
  refine V.iconst (v := (nI 1)) dP_init_48 (by decide) ?_
  refine V.putk dP_init_49 (hx6 n4).1 (hx6 n4).2 p_P_36_0 rfl rfl ?_
  intro g5 f5
  have n5 := n4.fld f5
  clear f5
  first | refine V.aload_n dP_init_52 rfl ?_ | refine V.aload_nN dP_init_52 rfl ?_
  refine V.iconst (v := (nI 0)) dP_init_53 (by decide) ?_
  refine V.putk dP_init_54 (hx6 n5).1 (hx6 n5).2 p_P_39_0 rfl rfl ?_
  intro g6 f6
  have n6 := n5.fld f6
  clear f6
  refine V.vreturn dP_init_57 rfl ?_
  obtain ⟨q1, q2, q3, q4⟩ := n6
  refine hQ g6 (q2.trans z6) (fun b hb => ⟨by rw [q1]; exact (fr b hb).1, fun j => (q4 b j (by omega)).trans ((fr b hb).2 j)⟩) (P0.of hx (q2.trans z6) (by rw [q1]; exact kx6) ((q3 0).trans x60) (q3 1) (q3 2) (q3 3) (q3 4) (q3 5) (q3 6) (hX6.fk (S := fun b _ => b = x) (FK.of q1 q2 (fun b j hn => q4 b j hn)) (fun j => ⟨by omega, by omega⟩)) (by rw [q1]; exact k63) (by rw [q1]; exact k64) ((q4 _ _ (by omega)).trans r0) ((q4 _ _ (by omega)).trans r1) ((q4 _ _ (by omega)).trans r3) ((q4 _ _ (by omega)).trans r4))
